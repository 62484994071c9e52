/-! feed, back: both sides alike -/
theorem RR_tape {i : Nat} {h h2 : q_H} (hR : RR i h) (e : h2.2 = h.2) (rr : ∀ r, r ≠ 1 → r ≠ 2 → r ≠ 124 → r ≠ 125 → q_I h2 r = q_I h r) (f : ∀ k, k ≠ 2 → q_I h2 124 k = q_I h 124 k) (T : RT h2) : RR (i + 1) h2 := by
  obtain ⟨aS, aT, aP, aW, aZ, p, nm, nd, nc, mo, n, lv, LW, gu, aL, aN, aU, aH, aD⟩ := hR
  have e3 : h2.2.2 = h.2.2 := congrArg (fun z => z.2) e
  have eJ : q_J h2 = q_J h := congrArg (fun z => z.1) e
  have rq : ∀ r, 2 < r → r ≠ 124 → r ≠ 125 → q_I h2 r = q_I h r := fun r a1 a2 a3 => rr r (by omega) (by omega) a2 a3
  exact ⟨RS_up (RS_k e3 aS), T, RP_k (rq 7 (by decide) (by decide) (by decide)) (f 17 (by decide)) aP, RW_k (congrFun eJ 6) (congrFun eJ 131) aW, ⟨(congrFun (rq 111 (by decide) (by decide) (by decide)) 0).trans aZ.1, (congrFun (rq 112 (by decide) (by decide) (by decide)) 0).trans aZ.2.1, (congrFun (rq 122 (by decide) (by decide) (by decide)) 0).trans aZ.2.2.1, (congrFun (rq 123 (by decide) (by decide) (by decide)) 0).trans aZ.2.2.2⟩, p, nm, nd, nc, mo, n, lv, LW, gu,
    RLW_k (congrArg (fun z => z.1 0) e3) (fun r r1 r2 r3 r4 => rq r (by omega) (by omega) (by omega)) (f 18 (by decide)) (fun r r1 r2 => rq r (by omega) (by omega) (by omega)) aL,
    RN_up (RN_k (fun r r1 r2 => rq r (by omega) (by omega) (by omega)) (rq 154 (by decide) (by decide) (by decide)) aN),
    RU_up (RU_k (f 51 (by decide)) (rq 42 (by decide) (by decide) (by decide)) (fun r r1 r2 => rq r (by omega) (by omega) (by omega)) (rq 158 (by decide) (by decide) (by decide)) (rq 154 (by decide) (by decide) (by decide)) aU),
    RH_up (RH_k (congrArg (fun z => z.1 40) e3) (fun b hb => ⟨sl_k hb e3, fun r r1 r2 => by have := hb.2.2.2.2.2.2.2.2.2.2; exact rq r (by omega) (by omega) (by omega)⟩) (rq 41 (by decide) (by decide) (by decide)) (rq 168 (by decide) (by decide) (by decide)) (rq 169 (by decide) (by decide) (by decide)) aH),
    RD_k (congrFun (rq 94 (by decide) (by decide) (by decide)) 3) (f 62 (by decide)) (rq 95 (by decide) (by decide) (by decide)) (rq 96 (by decide) (by decide) (by decide)) (rq 166 (by decide) (by decide) (by decide)) (rq 167 (by decide) (by decide) (by decide)) aD⟩
theorem tk_r {h : q_H} {f : Nat → Int32} {t n r : Nat} (h1 : r ≠ 1) (h2 : r ≠ 2) : q_I (q_tk h f t n) r = q_I h r := (q_Ine h2).trans (q_Ine h1)
theorem tk_1 {h : q_H} {f : Nat → Int32} {t n : Nat} : q_I (q_tk h f t n) 1 1 = nI (t + n) := (pk_us : upd (q_I h 1) 1 (nI (t + n)) 1 = _)
theorem tk_2 {h : q_H} {f : Nat → Int32} {t n : Nat} : q_I (q_tk h f t n) 2 = q_put (q_I h 2) f t n := rfl
theorem tp_r {h : q_H} {f : Nat → Int32} {t n r : Nat} (h1 : r ≠ 124) (h2 : r ≠ 125) : q_I (q_tp h f t n) r = q_I h r := (q_Ine h1).trans (q_Ine h2)
theorem tp_2 {h : q_H} {f : Nat → Int32} {t n : Nat} : q_I (q_tp h f t n) 124 2 = nI (t + n) := (pk_us : upd (q_I h 124) 2 (nI (t + n)) 2 = _)
theorem tp_k {h : q_H} {f : Nat → Int32} {t n k : Nat} (hk : k ≠ 2) : q_I (q_tp h f t n) 124 k = q_I h 124 k := (pk_un hk : upd (q_I h 124) 2 (nI (t + n)) k = _)
theorem tp_5 {h : q_H} {f : Nat → Int32} {t n : Nat} : q_I (q_tp h f t n) 125 = q_put (q_I h 125) f t n := rfl
theorem put_eq {F G f : Nat → Int32} {b n k : Nat} (hk : k < b + n) (e : ∀ j, j < b → F j = G j) : q_put F f b n k = q_put G f b n k := by
  unfold q_put
  split
  · rfl
  · exact e k (by omega)
theorem st_feed (l : Launch) (g : q_GP) {i : Nat} {h : q_H} (hi : i ≤ 512) (hR : RR i h) (a b c d e : Int32) : q_2 l g i h mX9_feed [.ref 0, .int a, .int b, .int c, .int d, .int e] mX10_feed [.ref 124, .int a, .int b, .int c, .int d, .int e] := by
  obtain ⟨aS, aT, aP, aW, aZ, p, nm, nd, nc, mo, n, lv, LW, gu, aL, aN, aU, aH, aD⟩ := id hR
  have hs := aS.1
  obtain ⟨hp, hLk, hm, hLm, aP3, aG, aC, aV⟩ := id aL
  have hnm : nm ≤ 8 := hp.2.2.2.2.2.1
  have hnd : nd ≤ 8 := hp.2.2.2.2.2.2.2.1
  have hq := rel_req aN
  have hC := sC_of aC
  obtain ⟨w, E, em, ed, ew, ep, ea, f, rw_, sv, tm⟩ := id aN
  have hwc : q_I h 34 6 = nI w := sv.1
  have hwr : q_I h 154 200 = nI w := rw_.1
  have hw2 : w < 2 ^ 19 := by have := rw_.2.1; omega
  have hw3 : w < 2 ^ 20 := by omega
  have hE1 : q_I h 34 5 = nI E := sv.2.1
  have hEr : q_I h 154 201 = nI E := rw_.2.2.1
  have hE2 : E ≤ 300 := rw_.2.2.2.1
  have hEE := rel_E (by omega) hnm rw_ sv
  have hrn := rw_.2.2.2.2.2.2.1
  have hns : q_ns f 72 < 2 ^ 30 := by have := rw_.2.2.2.2.2.2.2.1; omega
  have hs8 : ∀ k, k < 9 → q_s8 (q_cr h) (8 * k) = q_s8 (q_I h 154) (8 * k) := fun k hk => q_s8_rq hq (by omega)
  have hhv : ∀ k, k < 9 → q_s8 (q_I h 154) (8 * k) = nI (q_hv f k) ∧ q_hv f k < 2 ^ 30 := fun k hk => ⟨q_rn_s8 hrn hk, by have := q_hv_le f hk; omega⟩
  obtain ⟨t, t1, t2, t3, t4⟩ := id aT
  by_cases h20 : t + 20 ≤ 2000
  · refine ⟨1, _, by decide, c_X9_feed_t l g h hs t2 h20 a b c d e, fun r h1 q => ?_⟩
    obtain ⟨rfl, rfl⟩ := q
    generalize hg : q_tk (q_tk (q_tk (q_tk (q_tk h (q_by a) t 4) (q_by b) (t + 4) 4) (q_by c) (t + 4 + 4) 4) (q_by d) (t + 4 + 4 + 4) 4) (q_by e) (t + 4 + 4 + 4 + 4) 4 = h1
    have a1 : ∀ r, r ≠ 1 → r ≠ 2 → q_I h1 r = q_I h r := fun r r1 r2 => by
      rw [← hg, tk_r r1 r2, tk_r r1 r2, tk_r r1 r2, tk_r r1 r2, tk_r r1 r2]
    have a2 : h1.2 = h.2 := by
      rw [← hg]
      rfl
    have a3 : q_I h1 2 = q_put (q_put (q_put (q_put (q_put (q_I h 2) (q_by a) t 4) (q_by b) (t + 4) 4) (q_by c) (t + 4 + 4) 4) (q_by d) (t + 4 + 4 + 4) 4) (q_by e) (t + 4 + 4 + 4 + 4) 4 := by
      rw [← hg, tk_2, tk_2, tk_2, tk_2, tk_2]
    have a4 : q_I h1 1 1 = nI (t + 4 + 4 + 4 + 4 + 4) := by
      rw [← hg]
      exact tk_1
    have hs1 : q_Stat h1 := q_Stat_2 a2 hs
    have a5 : q_I h1 124 2 = nI t := (congrFun (a1 124 (by decide) (by decide)) 2).trans t3
    refine ⟨nI (t + 20), 1, by decide, rfl, hs1, q_Ct_post (fun r2 h2 q2 => ?_) (c_X10_feed_t l g h1 hs1 a5 h20 a b c d e)⟩
    obtain ⟨rfl, hg2⟩ := q2
    have b1 : ∀ r, r ≠ 124 → r ≠ 125 → q_I h2 r = q_I h1 r := fun r r1 r2 => by
      rw [hg2, tp_r r1 r2, tp_r r1 r2, tp_r r1 r2, tp_r r1 r2, tp_r r1 r2]
    have b2 : h2.2 = h1.2 := by
      rw [hg2]
      rfl
    refine ⟨rfl, RR_tape hR (b2.trans a2) (fun r r1 r2 r3 r4 => (b1 r r3 r4).trans (a1 r r1 r2)) (fun k hk => ?_) ⟨t + 20, by omega, ?_, ?_, fun k hk => ?_⟩⟩
    · rw [hg2, tp_k hk, tp_k hk, tp_k hk, tp_k hk, tp_k hk, a1 124 (by decide) (by decide)]
    · rw [b1 1 (by decide) (by decide), a4]
    · rw [hg2]
      exact tp_2
    · rw [b1 2 (by decide) (by decide), a3, hg2, tp_5, tp_5, tp_5, tp_5, tp_5, a1 125 (by decide) (by decide)]
      exact put_eq (by omega) (fun j hj => put_eq (by omega) (fun j hj => put_eq (by omega) (fun j hj => put_eq (by omega) (fun j hj => put_eq (by omega) (fun j hj => t4 j hj)))))
  · exact q_2q hR  (d2 := 1) (by decide) (by decide) (q_Ct_d (c_X9_feed_f l g h hs t2 t1 (by omega) a b c d e)) (rfl) (fun h1 hk => by
    obtain ⟨hs1, aL1, er⟩ := rel_1 hk hs aL
    exact q_Ct_m (c_X10_feed_f l g h1 hs1 (t := t) (by rw [er 124 (by decide)]; exact t3) t1 (by omega) a b c d e))
theorem st_back (l : Launch) (g : q_GP) {i : Nat} {h : q_H} (hi : i ≤ 512) (hR : RR i h) (x : Int32) : q_2 l g i h mX9_back [.ref 0, .int x] mX10_back [.ref 124, .int x] := by
  obtain ⟨aS, aT, aP, aW, aZ, p, nm, nd, nc, mo, n, lv, LW, gu, aL, aN, aU, aH, aD⟩ := id hR
  have hs := aS.1
  obtain ⟨hp, hLk, hm, hLm, aP3, aG, aC, aV⟩ := id aL
  have hnm : nm ≤ 8 := hp.2.2.2.2.2.1
  have hnd : nd ≤ 8 := hp.2.2.2.2.2.2.2.1
  have hq := rel_req aN
  have hC := sC_of aC
  obtain ⟨w, E, em, ed, ew, ep, ea, f, rw_, sv, tm⟩ := id aN
  have hwc : q_I h 34 6 = nI w := sv.1
  have hwr : q_I h 154 200 = nI w := rw_.1
  have hw2 : w < 2 ^ 19 := by have := rw_.2.1; omega
  have hw3 : w < 2 ^ 20 := by omega
  have hE1 : q_I h 34 5 = nI E := sv.2.1
  have hEr : q_I h 154 201 = nI E := rw_.2.2.1
  have hE2 : E ≤ 300 := rw_.2.2.2.1
  have hEE := rel_E (by omega) hnm rw_ sv
  have hrn := rw_.2.2.2.2.2.2.1
  have hns : q_ns f 72 < 2 ^ 30 := by have := rw_.2.2.2.2.2.2.2.1; omega
  have hs8 : ∀ k, k < 9 → q_s8 (q_cr h) (8 * k) = q_s8 (q_I h 154) (8 * k) := fun k hk => q_s8_rq hq (by omega)
  have hhv : ∀ k, k < 9 → q_s8 (q_I h 154) (8 * k) = nI (q_hv f k) ∧ q_hv f k < 2 ^ 30 := fun k hk => ⟨q_rn_s8 hrn hk, by have := q_hv_le f hk; omega⟩
  obtain ⟨t, t1, t2, t3, t4⟩ := id aT
  by_cases hx : ∃ k, 0 ≤ k ∧ k ≤ t ∧ x = nI k
  · obtain ⟨k, -, hk, rfl⟩ := hx
    refine ⟨0, _, by decide, c_X9_back_t l g h hs t2 t1 hk, fun r h1 q => ?_⟩
    obtain ⟨rfl, rfl⟩ := q
    refine ⟨nI (t - k), 0, by decide, rfl, by exact hs, q_Ct_post (fun r2 h2 q2 => ?_) (c_X10_back_t l g _ (by exact hs) (t := t) (by exact t3) t1 k hk)⟩
    obtain ⟨rfl, rfl⟩ := q2
    exact ⟨rfl, RR_tape hR rfl (fun r r1 r2 r3 r4 => (q_Ine r3).trans (q_Ine r1)) (fun j hj => pk_un hj) ⟨t - k, by omega, rfl, rfl, fun j hj => t4 j (by omega)⟩⟩
  · exact q_2q hR  (d2 := 0) (by decide) (by decide) (q_Ct_d (c_X9_back_f l g h hs t2 t1 hx)) (rfl) (fun h1 hk => by
    obtain ⟨hs1, aL1, er⟩ := rel_1 hk hs aL
    exact q_Ct_m (c_X10_back_f l g h1 hs1 (t := t) (by rw [er 124 (by decide)]; exact t3) t1 x hx))
