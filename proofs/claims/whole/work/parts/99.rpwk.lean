/-! repay, weeks: both sides alike -/
theorem st_repay (l : Launch) (g : q_GP) {i : Nat} {h : q_H} (hi : i ≤ 512) (hR : RR i h) (x z y : Int32) : q_2 l g i h mX9_repay [.ref 0, .int x, .int z, .int y] mX10_repay [.ref 124, .int x, .int z, .int y] := by
  obtain ⟨aS, aT, aP, aW, aZ, p, nm, nd, nc, mo, n, lv, LW, gu, aL, aN, aU, aH, aD⟩ := id hR
  have hs := aS.1
  obtain ⟨hp, hLk, hm, hLm, aP3, aG, aC, aV⟩ := id aL
  have hnm : nm ≤ 8 := hp.2.2.2.2.2.1
  have hnd : nd ≤ 8 := hp.2.2.2.2.2.2.2.1
  have hq := rel_req aN
  have hC := sC_of aC
  obtain ⟨w, E, em, ed, ew, ep, ea, f, rw_, sv, tm⟩ := id aN
  have hwc : q_I h 34 6 = nI w := sv.1
  have hwr : q_I h 154 200 = nI w := rw_.1
  have hw2 : w < 2 ^ 19 := by have := rw_.2.1; omega
  have hw3 : w < 2 ^ 20 := by omega
  have hE1 : q_I h 34 5 = nI E := sv.2.1
  have hEr : q_I h 154 201 = nI E := rw_.2.2.1
  have hE2 : E ≤ 300 := rw_.2.2.2.1
  have hEE := rel_E (by omega) hnm rw_ sv
  have hrn := rw_.2.2.2.2.2.2.1
  have hns : q_ns f 72 < 2 ^ 30 := by have := rw_.2.2.2.2.2.2.2.1; omega
  have hs8 : ∀ k, k < 9 → q_s8 (q_cr h) (8 * k) = q_s8 (q_I h 154) (8 * k) := fun k hk => q_s8_rq hq (by omega)
  have hhv : ∀ k, k < 9 → q_s8 (q_I h 154) (8 * k) = nI (q_hv f k) ∧ q_hv f k < 2 ^ 30 := fun k hk => ⟨q_rn_s8 hrn hk, by have := q_hv_le f hk; omega⟩
  obtain ⟨u, x0, u1, u2, u3, u4, u5, S, u6, u7⟩ := id aU
  have hR3 : ∀ T : Nat → Int32, q_req (q_cr h) (q_cpy (q_I h 154) T 1720) := fun T k hk => (hq k hk).trans (if_pos (by omega) : q_cpy (q_I h 154) T 1720 k = q_I h 154 k).symm
  have hRr : ∀ T : Nat → Int32, ∀ k, k < 1720 → q_cpy (q_I h 154) T 1720 k = q_I h 154 k := fun T k hk => if_pos hk
  have hvc : ∀ m, m < 9 → q_s8 (q_cr h) (8 * m) = nI (q_hv f m) := fun m hm => (hs8 m hm).trans (hhv m hm).1
  by_cases hx : q_two x z nm
  · obtain ⟨a, b, ha8, hb8, hab, rfl, rfl⟩ := two_e (by omega) hx
    have ed1 : 72 + 8 * a + b = 72 + (a * 8 + b) := by omega
    have c36 : q_I h 36 (a * 8 + b) = q_I h 154 (72 + (a * 8 + b)) := sv.2.2.2.2 _ (by omega)
    have erv : ∀ T : Nat → Int32, q_rv (q_cpy (q_I h 154) T 210) a b y = q_pv (q_I h 36 (a * 8 + b)) (q_s8 (q_cr h) (8 * a)) y := fun T => by
      rw [← rvpv]
      unfold q_rv
      rw [show q_s8 (q_cpy (q_I h 154) T 210) (8 * a) = q_s8 (q_cr h) (8 * a) from (q_s8_co (fun k hk => cpy_at (by omega))).trans (hs8 a (by omega)).symm, show q_cpy (q_I h 154) T 210 (72 + 8 * a + b) = q_I h 36 (a * 8 + b) by rw [cpy_at (by omega), ed1, c36]]
    generalize hpv : q_pv (q_I h 36 (a * 8 + b)) (q_s8 (q_cr h) (8 * a)) y = v at erv
    have hvle : v ≤ q_s8 (q_cr h) (8 * a) := by rw [← hpv]; exact pv_le _ _ _
    by_cases h1c : nI 1 ≤ v
    · by_cases h2c : v ≤ nI 9999 - q_s8 (q_cr h) (8 * b)
      · have hc : q_can (q_cr h) a b v := ⟨h1c, hvle, h2c⟩
        obtain ⟨k, rfl, hk0, hkv⟩ := can_n (hvc a (by omega)) (hhv a (by omega)).2 hc
        have hk30 : k < 2 ^ 30 := by have := (hhv a (by omega)).2; omega
        have C1 := c_X9_repay_t l g h hs hp u2 u5 u4 u1 ha8 hb8 hab (k := y) (by rw [hpv]; exact h1c) (by rw [hpv]; exact h2c)
        rw [hpv] at C1
        refine ⟨4, _, by decide, C1, fun r h1 q => ?_⟩
        obtain ⟨rfl, D, q35, q36, q34, q37, q38, q39⟩ := q
        obtain ⟨hs1, aL1, er⟩ := did_1 D u2 hs aL
        have hcr : q_can (q_cpy (q_I h1 154) (q_I h1 155) 1720) a b (q_rv (q_cpy (q_I h1 154) (q_I h1 155) 210) a b y) := by rw [er 154 (by decide), er 155 (by decide), erv]; exact can_rq (hR3 _) (by omega) (by omega) hc
        have c := c_X10_repay_t l g h1 hs1 aL1.2.2.1 (u := u) (by rw [er 124 (by decide)]; exact u3) u1 ha8 hb8 hab y hcr
        rw [er 154 (by decide), er 155 (by decide), erv] at c
        have ne : ∀ j, 72 ≤ j → j < 1720 → (q_mvs a b a (q_cpy (q_I h 154) (q_I h 155) 1720) (nI k) 8).1 j = q_I h 154 j := fun j h1 h2 => (q_mvs_ne (by omega) (by omega) (by omega) h1 8 (Nat.le_refl _)).trans (hRr _ j h2)
        have lo : ∀ j, j ≠ 72 + (a * 8 + b) → q_rpR (q_cpy (q_I h 154) (q_I h 155) 1720) a b (nI k) j = (q_mvs a b a (q_cpy (q_I h 154) (q_I h 155) 1720) (nI k) 8).1 j := fun j hj => pk_un (by omega)
        have at_ : q_rpR (q_cpy (q_I h 154) (q_I h 155) 1720) a b (nI k) (72 + (a * 8 + b)) = q_I h 154 (72 + (a * 8 + b)) - nI k := by
          unfold q_rpR
          rw [ed1, pk_us, ne _ (by omega) (by omega)]
        have nl : ∀ j, 72 ≤ j → j < 1720 → j ≠ 72 + (a * 8 + b) → q_rpR (q_cpy (q_I h 154) (q_I h 155) 1720) a b (nI k) j = q_I h 154 j := fun j h1 h2 h3 => (lo j h3).trans (ne j h1 h2)
        exact ⟨nI k, 4, by decide, rfl, hs1, q_Ct_post (fun r2 h2 q2 => ⟨q2.1, RR_act aS aT aP aW aZ aL aH aD u1 u2 u6 u7 aN D q2.2
          (act_mv hi hnm rw_ sv tm ha8 hb8 hab hk30 (hRr _) q35 q34 q37 q38 q39 (fun j hj => lo j (by omega)) (fun j hj => by
            rw [q36]
            by_cases q : j = a * 8 + b
            · rw [q, pk_us, at_, c36]
            · rw [pk_un q, sv.2.2.2.2 j hj, nl _ (by omega) (by omega) (by omega)]) (fun j h1 h2 => nl j (by omega) h2 (by omega)))
          (lk_2 (by omega) D.2.2.2.2 c36 rw_ sv ((nl _ (by decide) (by decide) (by omega)).trans hEr) (fun j hj hne => (nl _ (by omega) (by omega) (by omega)).symm) (fun j hj => (nl _ (by omega) (by omega) (by omega)).symm))⟩) c⟩
      · exact q_2q hR (d2 := 4) (by decide) (by decide) (q_Ct_d (c_X9_repay_n2 l g h hs hp ha8 hb8 hab (k := y) (by rw [hpv]; exact h1c) (by rw [hpv]; exact h2c))) rfl (fun h1 hk => by
          obtain ⟨hs1, aL1, er⟩ := rel_1 hk hs aL
          exact c_X10_repay_n l g h1 hs1 aL1.2.2.1 (u := u) (by rw [er 124 (by decide)]; exact u3) u1 ha8 hb8 hab y (fun q => by
            rw [er 154 (by decide), er 155 (by decide), erv] at q
            exact h2c (can_rq (req_s (hR3 _)) (by omega) (by omega) q).2.2))
    · exact q_2q hR (d2 := 4) (by decide) (by decide) (q_Ct_d (c_X9_repay_n1 l g h hs hp ha8 hb8 hab (k := y) (by rw [hpv]; exact h1c))) rfl (fun h1 hk => by
        obtain ⟨hs1, aL1, er⟩ := rel_1 hk hs aL
        exact c_X10_repay_n l g h1 hs1 aL1.2.2.1 (u := u) (by rw [er 124 (by decide)]; exact u3) u1 ha8 hb8 hab y (fun q => by
          rw [er 154 (by decide), er 155 (by decide), erv] at q
          exact h1c q.1))
  · exact q_2q hR  (d2 := 4) (by decide) (by decide) (q_Ct_d (c_X9_repay_f l g h hs hp x z y hx)) (rfl) (fun h1 hk => by
    obtain ⟨hs1, aL1, er⟩ := rel_1 hk hs aL
    have e154 := er 154 (by decide)
    have e140 := er 140 (by decide)
    have e124 := er 124 (by decide)
    have c := c_X10_repay_f l g h1 hs1 aL1.2.2.1 x z y hx
    (try simp only [e154, e140, e124] at c)
    exact q_Ct_m c)
theorem kB_rq {R R' C : Nat → Int32} {LW : q_LW} {nc mo w m : Nat} (hq : q_req R R') (hm : m < 8) (k : Nat) : q_kB R C LW nc mo w m k = q_kB R' C LW nc mo w m k := q_kB_co (q_s8_rq hq (by omega)) (q_s8_rq hq (by omega)) (q_s8_rq hq (by omega)) k
theorem hv_own {f f' : Nat → Nat} {m : Nat} (hm : m < 8) (h : ∀ k, k < 8 → k ≠ m → f' (8 * m + k) = f (8 * m + k)) : f' (9 * m) + q_hv f m = f (9 * m) + q_hv f' m := by
  have e1 := q_hv_first f m hm
  have e2 := q_hv_first f' m hm
  have e3 : q_ns (fun k => if k = m then 0 else f' (8 * m + k)) 8 = q_ns (fun k => if k = m then 0 else f (8 * m + k)) 8 := q_ns_co (fun k hk => by
    by_cases q : k = m
    · rw [if_pos q, if_pos q]
    · rw [if_neg q, if_neg q, h k hk q])
  rw [e3] at e2
  rw [show 8 * m + m = 9 * m by omega] at e1 e2
  omega
/-- the class's rows behind weeks -/
theorem wkF_n {F B : Nat → Int32} {f f' : Nat → Nat} {nm : Nat} (hnm : nm ≤ 8) (hF : q_rn F f) (hB : ∀ m, m < nm → B m = nI (q_hv f' m)) (hle : ∀ m, m < nm → q_hv f m ≤ q_hv f' m) (ho : ∀ j, (∀ i, i < nm → j ≠ 9 * i) → f' j = f j) : ∀ i, i ≤ nm → ∀ k, k < 72 → q_wkF F B i k = nI (if ∃ j, j < i ∧ k = 9 * j then f' k else f k)
  | 0, _, k, hk => by
    rw [if_neg (fun ⟨j, q, _⟩ => absurd q (Nat.not_lt_zero _))]
    exact hF k hk
  | i + 1, hi, k, hk => by
    have ih := wkF_n hnm hF hB hle ho i (by omega)
    have e9 : i * 8 + i = 9 * i := by omega
    have own := hv_own (f := f) (f' := f') (m := i) (by omega) (fun k hk hne => ho _ (fun j hj => by omega))
    have hl := hle i (by omega)
    have es : q_sum (fun k => q_wkF F B i (i * 8 + k)) 8 = nI (q_hv f i) := q_sum_ns (f := fun k => f (8 * i + k)) (fun k hk => by
      rw [ih _ (by omega), if_neg (fun ⟨j, q1, q2⟩ => by omega), Nat.mul_comm i 8])
    have ev : q_wkF F B i (i * 8 + i) = nI (f (9 * i)) := by
      rw [ih _ (by omega), if_neg (fun ⟨j, q1, q2⟩ => by omega), e9]
    have e : q_wkF F B (i + 1) = upd (q_wkF F B i) (9 * i) (nI (f' (9 * i))) := by
      show upd (q_wkF F B i) (i * 8 + i) (q_wkF F B i (i * 8 + i) + (B i - q_sum (fun k => q_wkF F B i (i * 8 + k)) 8)) = _
      rw [es, ev, hB i (by omega), pk_sub hl, nI_add, e9, show f (9 * i) + (q_hv f' i - q_hv f i) = f' (9 * i) by omega]
    rw [e]
    by_cases q : k = 9 * i
    · rw [q, pk_us, if_pos ⟨i, by omega, rfl⟩]
    · rw [pk_un q, ih k hk]
      by_cases q2 : ∃ j, j < i ∧ k = 9 * j
      · obtain ⟨j, j1, j2⟩ := q2
        rw [if_pos ⟨j, j1, j2⟩, if_pos ⟨j, by omega, j2⟩]
      · rw [if_neg q2, if_neg (fun ⟨j, j1, j2⟩ => by
          by_cases z : j = i
          · exact q (by rw [j2, z])
          · exact q2 ⟨j, by omega, j2⟩)]
theorem kN_ge {v : Nat} (hv : v < 2 ^ 30) (t : Int32) : ∃ g, g ≤ 999 ∧ wk_N (nI v) t = nI (v + g) := by
  obtain ⟨g, h1, -, h3⟩ := gv_n hv t
  exact ⟨g, h1, h3⟩
theorem kB_ge {R C : Nat → Int32} {LW : q_LW} {nc mo w m v : Nat} (hv : q_s8 R (8 * m) = nI v) (hv2 : v < 2 ^ 29) : ∀ k, k ≤ 200 → ∃ z, v ≤ z ∧ z ≤ v + 999 * k ∧ q_kB R C LW nc mo w m k = nI z
  | 0, _ => ⟨v, Nat.le_refl _, Nat.le_refl _, hv⟩
  | k + 1, hk => by
    obtain ⟨z, z1, z2, z3⟩ := kB_ge hv hv2 k (by omega)
    obtain ⟨g, g1, g2⟩ := kN_ge (v := z) (by omega) (q_tel (q_see R C 0 nc (w + k) m (nI z) (q_kT R mo w m (w + k))) (LW 16) (nI 0))
    refine ⟨z + g, by omega, by omega, ?_⟩
    show q_kN R C LW nc mo w m (q_kB R C LW nc mo w m k) (w + k) = _
    rw [z3]
    exact g2
theorem since_le (mo w : Nat) : (if mo = 0 then 0 else w - w % mo) ≤ w := by
  split <;> omega
theorem cnt_since {em ed ew : Nat → Nat} {s s' : Nat} : ∀ {E k : Nat}, (∀ j, j < E → (s ≤ ew j ↔ s' ≤ ew j)) → q_cnt em ed ew s E k = q_cnt em ed ew s' E k
  | 0, _, _ => rfl
  | E + 1, k, h => by
    have e := h E (by omega)
    unfold q_cnt
    rw [cnt_since (fun j hj => h j (by omega))]
    by_cases q : s ≤ ew E ∧ em E * 8 + ed E = k
    · rw [if_pos q, if_pos ⟨e.mp q.1, q.2⟩]
    · rw [if_neg q, if_neg (fun z => q ⟨e.mpr z.1, z.2⟩)]
theorem cnt_0 {em ed ew : Nat → Nat} {s : Nat} : ∀ {E k : Nat}, (∀ j, j < E → ew j < s) → q_cnt em ed ew s E k = 0
  | 0, _, _ => rfl
  | E + 1, k, h => by
    have e := h E (by omega)
    unfold q_cnt
    rw [if_neg (fun q => by omega)]
    exact cnt_0 (fun j hj => h j (by omega))
/-- times behind weeks -/
theorem cnt_wk {em ed ew : Nat → Nat} {mo w k E j : Nat} (hw : ∀ i, i < E → ew i ≤ w) : q_cnt em ed ew (if mo = 0 then 0 else w + k - (w + k) % mo) E j = if 0 < mo ∧ w / mo < (w + k) / mo then 0 else q_cnt em ed ew (if mo = 0 then 0 else w - w % mo) E j := by
  by_cases h0 : mo = 0
  · rw [if_pos h0, if_neg (by omega), if_pos h0]
  · rw [if_neg h0, if_neg h0]
    have e1 := Nat.div_add_mod w mo
    have e2 := Nat.div_add_mod (w + k) mo
    have m1 := Nat.mod_lt w (show 0 < mo by omega)
    by_cases q : w / mo < (w + k) / mo
    · rw [if_pos ⟨by omega, q⟩]
      refine cnt_0 (fun i hi => ?_)
      have := hw i hi
      have h3 : mo * (w / mo + 1) ≤ mo * ((w + k) / mo) := Nat.mul_le_mul_left mo q
      rw [Nat.mul_add, Nat.mul_one] at h3
      omega
    · rw [if_neg (fun z => q z.2)]
      have h3 : w / mo = (w + k) / mo := Nat.le_antisymm (Nat.div_le_div_right (by omega)) (by omega)
      rw [← h3] at e2
      rw [show w + k - (w + k) % mo = w - w % mo by omega]
theorem st_weeks (l : Launch) (g : q_GP) {i : Nat} {h : q_H} (hi : i ≤ 512) (hR : RR i h) (x : Int32) : q_2 l g i h mX9_weeks [.ref 0, .int x] mX10_weeks [.ref 124, .int x] := by
  obtain ⟨aS, aT, aP, aW, aZ, p, nm, nd, nc, mo, n, lv, LW, gu, aL, aN, aU, aH, aD⟩ := id hR
  have hs := aS.1
  obtain ⟨hp, hLk, hm, hLm, aP3, aG, aC, aV⟩ := id aL
  have hnm : nm ≤ 8 := hp.2.2.2.2.2.1
  have hnd : nd ≤ 8 := hp.2.2.2.2.2.2.2.1
  have hq := rel_req aN
  have hC := sC_of aC
  obtain ⟨w, E, em, ed, ew, ep, ea, f, rw_, sv, tm⟩ := id aN
  have hwc : q_I h 34 6 = nI w := sv.1
  have hwr : q_I h 154 200 = nI w := rw_.1
  have hw2 : w < 2 ^ 19 := by have := rw_.2.1; omega
  have hw3 : w < 2 ^ 20 := by omega
  have hE1 : q_I h 34 5 = nI E := sv.2.1
  have hEr : q_I h 154 201 = nI E := rw_.2.2.1
  have hE2 : E ≤ 300 := rw_.2.2.2.1
  have hEE := rel_E (by omega) hnm rw_ sv
  have hrn := rw_.2.2.2.2.2.2.1
  have hns : q_ns f 72 < 2 ^ 30 := by have := rw_.2.2.2.2.2.2.2.1; omega
  have hs8 : ∀ k, k < 9 → q_s8 (q_cr h) (8 * k) = q_s8 (q_I h 154) (8 * k) := fun k hk => q_s8_rq hq (by omega)
  have hhv : ∀ k, k < 9 → q_s8 (q_I h 154) (8 * k) = nI (q_hv f k) ∧ q_hv f k < 2 ^ 30 := fun k hk => ⟨q_rn_s8 hrn hk, by have := q_hv_le f hk; omega⟩
  obtain ⟨u, x0, u1, u2, u3, u4, u5, S, u6, u7⟩ := id aU
  have hR3 : ∀ T : Nat → Int32, q_req (q_cr h) (q_cpy (q_I h 154) T 1720) := fun T k hk => (hq k hk).trans (if_pos (by omega) : q_cpy (q_I h 154) T 1720 k = q_I h 154 k).symm
  have hRr : ∀ T : Nat → Int32, ∀ k, k < 1720 → q_cpy (q_I h 154) T 1720 k = q_I h 154 k := fun T k hk => if_pos hk
  have hvc : ∀ m, m < 9 → q_s8 (q_cr h) (8 * m) = nI (q_hv f m) := fun m hm => (hs8 m hm).trans (hhv m hm).1
  by_cases hx : ∃ k, 0 ≤ k ∧ k ≤ 100 ∧ x = nI k
  · obtain ⟨k, -, hk2, rfl⟩ := hx
    by_cases hk0 : k = 0
    · subst hk0
      exact q_2q hR (v2 := q_I h 154 200) (d2 := 3) (by decide) (by decide) (q_Ct_d (c_X9_weeks_0 l g h hs hp)) (hwr.trans hwc.symm) (fun h1 hk => by
        obtain ⟨hs1, aL1, er⟩ := rel_1 hk hs aL
        have c := c_X10_weeks_0 l g h1 hs1 aL1.2.2.1
        rw [er 154 (by decide)] at c
        exact q_Ct_m c)
    · refine ⟨4, _, by decide, c_X9_weeks_t l g h hs hp hLk hwc hw2 u2 u5 u4 u1 hE1 hE2 hEE (by omega) hk2, fun r h1 q => ?_⟩
      obtain ⟨rfl, D, q35, q37, q34, q36, q38, q39⟩ := q
      obtain ⟨hs1, aL1, er⟩ := did_1 D u2 hs aL
      have c := c_X10_weeks_t l g h1 hs1 aL1.2.2.1 aL1.2.2.2.1 (by rw [er 154 (by decide)]; exact hwr) hw2 (u := u) (by rw [er 124 (by decide)]; exact u3) u1 k (by omega) hk2
      rw [er 154 (by decide), er 155 (by decide), er 140 (by decide)] at c
      have ht29 : q_ns f 72 < 2 ^ 29 := by have := rw_.2.2.2.2.2.2.2.1; omega
      have hr3 : q_rn (q_cpy (q_I h 154) (q_I h 155) 1720) f := fun j hj => (hRr _ j (by omega)).trans (hrn j hj)
      obtain ⟨f', b1, b2, b3, b4, b5, b6, b7⟩ := wks_n (LW := LW) (mo := mo) hC hnm hr3 ht29 ((hRr _ 200 (by decide)).trans hwr) k (by omega)
      have hB : ∀ m, m < nm → q_kB (q_cr h) (q_I h (p + 5)) LW nc mo w m k = nI (q_hv f' m) := fun m hm => (kB_rq (hR3 (q_I h 155)) (by omega) k).trans (b4 m hm).symm
      have hle : ∀ m, m < nm → q_hv f m ≤ q_hv f' m := fun m hm => by
        have hvm := q_hv_le f (g := m) (by omega)
        have hvm2 := q_hv_le f' (g := m) (by omega)
        obtain ⟨z, z1, z2, z3⟩ := kB_ge (R := q_cr h) (C := q_I h (p + 5)) (LW := LW) (nc := nc) (mo := mo) (w := w) (m := m) (hvc m (by omega)) (by omega) k (by omega)
        have := (nI_eq (a := z) (b := q_hv f' m) (by omega) (by omega)).mp (z3.symm.trans (hB m hm))
        omega
      have hF : ∀ j, j < 72 → q_I h1 35 j = nI (f' j) := fun j hj => by
        rw [q35, wkF_n hnm (fun j hj => (sv.2.2.2.1 j hj).trans (hrn j hj)) hB hle b3 nm (Nat.le_refl _) j hj]
        by_cases q : ∃ i, i < nm ∧ j = 9 * i
        · rw [if_pos q]
        · rw [if_neg q, b3 j (fun i hi e => q ⟨i, hi, e⟩)]
      have hew : ∀ j, j < E → ew j ≤ w := fun j hj => (rw_.2.2.2.2.2.1 j hj).2.2.2.2.2.2.2.2.2
      have b8 : ∀ j, 200 < j → j < 1720 → q_wks (q_I h 140) LW lv nm nc mo w (q_cpy (q_I h 154) (q_I h 155) 1720) k j = q_I h 154 j := fun j h1 h2 => (b6 j (by omega) (Or.inr h1)).trans (hRr _ j h2)
      have b9 : ∀ j, j < 64 → q_wks (q_I h 140) LW lv nm nc mo w (q_cpy (q_I h 154) (q_I h 155) 1720) k (72 + j) = q_I h 154 (72 + j) := fun j h1 => (b6 _ (by omega) (Or.inl (by omega))).trans (hRr _ _ (by omega))
      have bt : ∀ j, j < 64 → q_wks (q_I h 140) LW lv nm nc mo w (q_cpy (q_I h 154) (q_I h 155) 1720) k (136 + j) = nI (q_cnt em ed ew (if mo = 0 then 0 else w + k - (w + k) % mo) E j) := fun j hj => by
        rw [b5 j hj, cnt_wk hew, hRr _ _ (by omega), rw_.2.2.2.2.2.2.2.2.2 j hj]
        split <;> rfl
      have hrw : rw_ok (i + 1) mo nm (q_wks (q_I h 140) LW lv nm nc mo w (q_cpy (q_I h 154) (q_I h 155) 1720) k) (w + k) E em ed ew ep ea f' := by
        obtain ⟨r1, r2, r3, r4, r5, r6, r7, r8, r9, r10⟩ := rw_
        refine ⟨b7, by omega, (b8 _ (by decide) (by decide)).trans r3, r4, fun j h1 h2 => (b8 _ (by omega) (by omega)).trans (r5 j h1 h2), fun j hj => ?_, b1, by omega, fun j h1 h2 => (b3 j (fun i hi => by omega)).trans (r9 j h1 h2), bt⟩
        obtain ⟨c1, c2, c3, c4, c5, c6, c7, c8, c9, c10⟩ := r6 j hj
        exact ⟨(b8 _ (by omega) (by omega)).trans c1, (b8 _ (by omega) (by omega)).trans c2, (b8 _ (by omega) (by omega)).trans c3, (b8 _ (by omega) (by omega)).trans c4, (b8 _ (by omega) (by omega)).trans c5, c6, c7, c8, c9, by omega⟩
      have hsv : sv_ok h1 34 35 36 38 39 (q_wks (q_I h 140) LW lv nm nc mo w (q_cpy (q_I h 154) (q_I h 155) 1720) k) (w + k) E em ed ew ep ea := ⟨by rw [q34, pk_us], by rw [q34, pk_un (by decide)]; exact sv.2.1, fun j hj => by rw [q38, q39]; exact sv.2.2.1 j hj, fun j hj => (hF j hj).trans (b1 j hj).symm, fun j hj => by rw [q36, b9 j hj]; exact sv.2.2.2.2 j hj⟩
      have htm : ∀ j, j < 64 → q_I h1 37 j = q_wks (q_I h 140) LW lv nm nc mo w (q_cpy (q_I h 154) (q_I h 155) 1720) k (136 + j) := fun j hj => (q37 j hj).trans (bt j hj).symm
      have hlk := lk_1 (R' := q_wks (q_I h 140) LW lv nm nc mo w (q_cpy (q_I h 154) (q_I h 155) 1720) k) D.2.2.2.2 rw_ sv ((b8 _ (by decide) (by decide)).trans hEr) (Nat.le_refl _) hE2 (fun j hj => (b9 j hj).symm) (fun j hj => (b8 _ (by omega) (by omega)).symm)
      exact ⟨nI (w + k), 3, by decide, rfl, hs1, q_Ct_post (fun r2 h2 q2 => ⟨q2.1, RR_act aS aT aP aW aZ aL aH aD u1 u2 u6 u7 aN D q2.2 ⟨w + k, E, em, ed, ew, ep, ea, f', hrw, hsv, htm⟩ hlk⟩) c⟩
  · exact q_2q hR  (d2 := 3) (by decide) (by decide) (q_Ct_d (c_X9_weeks_f l g h hs hx)) (rfl) (fun h1 hk => by
    obtain ⟨hs1, aL1, er⟩ := rel_1 hk hs aL
    have e154 := er 154 (by decide)
    have e140 := er 140 (by decide)
    have e124 := er 124 (by decide)
    have c := c_X10_weeks_f l g h1 hs1 aL1.2.2.1 x hx
    (try simp only [e154, e140, e124] at c)
    exact q_Ct_m c)
