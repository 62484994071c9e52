/-! stuff, lend, repay: both sides alike -/
theorem did_1 {h h1 : q_H} {x s : Nat} {da dv ap : Int32} (D : rk_did h x s h1 da dv ap) (hx : x < 25) (hs : q_Stat h) {p nm nd nc mo n lv : Nat} {LW : q_LW} {gu : Nat → Nat} (aL : RLW h p nm nd nc mo n lv LW gu) : q_Stat h1 ∧ RLW h1 p nm nd nc mo n lv LW gu ∧ ∀ r, 93 < r → q_I h1 r = q_I h r := by
  obtain ⟨d1, d2, -⟩ := D
  have H1 : ∀ r, r ≤ 31 → 10 ≤ r → r ≠ 20 → r ≠ 21 → q_stl.contains r = false := by decide +kernel
  have er : ∀ r, 93 < r → q_I h1 r = q_I h r := fun r hr => d2 r (q_stl_f (by omega)) (by omega) (by omega) (by omega)
  exact ⟨q_Stat_2 d1 hs, RLW_k (congrArg (fun z => z.2.1 0) d1) (fun r r1 r2 r3 r4 => d2 r (H1 r r2 r1 r3 r4) (by omega) (by omega) (by omega)) (congrFun (er 124 (by decide)) 18) (fun r r1 r2 => er r (by omega)) aL, er⟩
theorem can_rq {R R' : Nat → Int32} (hq : q_req R R') {a b : Nat} (ha : a < 9) (hb : b < 9) {k : Int32} (c : q_can R a b k) : q_can R' a b k := by
  unfold q_can at c ⊢
  rw [← q_s8_rq hq (b := 8 * a) (by omega), ← q_s8_rq hq (b := 8 * b) (by omega)]
  exact c
theorem req_s {R R' : Nat → Int32} (hq : q_req R R') : q_req R' R := fun k hk => (hq k hk).symm
theorem lk_base {h h1 : q_H} {x i mo nm w E : Nat} {em ed ew ep ea f : Nat → Nat} {da dv ap : Int32} (rc : rk_rec h h1 x da dv ap) (r : rw_ok i mo nm (q_I h 154) w E em ed ew ep ea f) (v : sv_ok h 34 35 36 38 39 (q_I h 154) w E em ed ew ep ea) : (∀ k, k < 72 → q_I h1 (45 + 2 * x) k = q_I h 154 k) ∧ q_I h1 (44 + 2 * x) 1 = q_I h 154 201 ∧ q_I h1 (44 + 2 * x) 2 = q_I h 154 200 :=
  ⟨fun k hk => (rc.1 k hk).trans (v.2.2.2.1 k hk), rc.2.1.trans (v.2.1.trans r.2.2.1.symm), rc.2.2.1.trans (v.1.trans r.1.symm)⟩
theorem n1_1 {F T k : Nat} {s s' : (Nat → Nat) × Nat} (e : s.1 = s'.1) (h : s.1 (8 * F + k) ≤ s.2) (h' : s'.1 (8 * F + k) ≤ s'.2) : (q_n1 F T s k).1 = (q_n1 F T s' k).1 := by
  have e1 : q_vN F s k = s.1 (8 * F + k) := by
    unfold q_vN
    split <;> omega
  have e2 : q_vN F s' k = s'.1 (8 * F + k) := by
    unfold q_vN
    split <;> omega
  unfold q_n1
  rw [e1, e2, e]
/-- more than there are: all that there are -/
theorem mN_sat {F T f0 : Nat} {f : Nat → Nat} {n : Nat} (hFT : F ≠ T) (hf : f0 < 8) (hn : q_hv f F ≤ n) : ∀ i, i ≤ 8 → (q_mN F T f0 f n i).1 = (q_mN F T f0 f (q_hv f F) i).1
  | 0, _ => by
    have e := q_hv_first f F hf
    exact n1_1 (s := (f, n)) (s' := (f, q_hv f F)) rfl (by show f (8 * F + f0) ≤ n; omega) (by show f (8 * F + f0) ≤ q_hv f F; omega)
  | i + 1, hi => by
    have ih := mN_sat (T := T) hFT hf hn i (by omega)
    unfold q_mN
    by_cases q : i = f0
    · rw [if_pos q, if_pos q]
      exact ih
    · rw [if_neg q, if_neg q]
      have e := q_hv_first f F hf
      have em := q_ns_mono (fun k => if k = f0 then 0 else f (8 * F + k)) (a := i + 1) 8 (by omega)
      have es : q_ns (fun k => if k = f0 then 0 else f (8 * F + k)) (i + 1) = q_ns (fun k => if k = f0 then 0 else f (8 * F + k)) i + (if i = f0 then 0 else f (8 * F + i)) := rfl
      rw [if_neg q] at es
      obtain ⟨a1, a2⟩ := q_mN_left (T := T) (f := f) (n := n) hFT hf i (by omega)
      obtain ⟨b1, b2⟩ := q_mN_left (T := T) (f := f) (n := q_hv f F) hFT hf i (by omega)
      have a3 := a2 i (by omega) (Nat.le_refl _) q
      have b3 := b2 i (by omega) (Nat.le_refl _) q
      exact n1_1 ih (by omega) (by omega)
/-- rows behind a move -/
theorem mv_both {F T f0 : Nat} {A B : Nat → Int32} {f : Nat → Nat} {n : Nat} (hFT : F ≠ T) (hF : F < 9) (hT : T < 9) (hf : f0 < 8) (ha : q_rn A f) (hb : q_rn B f) (hn : n < 2 ^ 30) (ht : q_ns f 72 < 2 ^ 30) : q_rn (q_mvs F T f0 A (nI n) 8).1 (q_mN F T f0 f n 8).1 ∧ q_rn (q_mvc F T f0 B (nI n) 9).1 (q_mN F T f0 f n 8).1 ∧ (q_mvc F T f0 B (nI n) 9).2 = nI (n - q_hv f F) := by
  have a := q_mvs_ml hF hT hf (q_ml_of ha hn ht) 8 (Nat.le_refl _)
  have b := q_mvc_ml hFT hF hT hf (q_ml_of hb hn ht) 8 (Nat.le_refl _)
  exact ⟨a.1, b.1, by rw [b.2.1, q_mN_fin hFT hf]⟩
theorem rw_mv {i mo nm : Nat} {R R' : Nat → Int32} {w E : Nat} {em ed ew ep ea f f' : Nat → Nat} (a : rw_ok i mo nm R w E em ed ew ep ea f) (e : ∀ k, 136 ≤ k → k < 1720 → R' k = R k) (r : q_rn R' f') (t : q_ns f' 72 = q_ns f 72) (z : ∀ k, 8 * nm ≤ k → k < 64 → f' k = 0) : rw_ok (i + 1) mo nm R' w E em ed ew ep ea f' := by
  obtain ⟨a1, a2, a3, a4, a5, a6, a7, a8, a9, a10⟩ := rw_up a
  refine ⟨(e _ (by decide) (by decide)).trans a1, a2, (e _ (by decide) (by decide)).trans a3, a4, fun k h1 h2 => (e _ (by omega) (by omega)).trans (a5 k h1 h2), fun j hj => ?_, r, by omega, z, fun k hk => (e _ (by omega) (by omega)).trans (a10 k hk)⟩
  obtain ⟨b1, b2, b3, b4, b5, b6⟩ := a6 j hj
  exact ⟨(e _ (by omega) (by omega)).trans b1, (e _ (by omega) (by omega)).trans b2, (e _ (by omega) (by omega)).trans b3, (e _ (by omega) (by omega)).trans b4, (e _ (by omega) (by omega)).trans b5, b6⟩
theorem mv_z {a b nm n : Nat} {f : Nat → Nat} (ha : a < nm) (hb : b < nm) (hnm : nm ≤ 8) (z : ∀ k, 8 * nm ≤ k → k < 64 → f k = 0) : ∀ k, 8 * nm ≤ k → k < 64 → (q_mN a b a f n 8).1 k = 0 := fun k h1 h2 => (q_mN_ne (by omega) (by omega) (by omega) 8 (Nat.le_refl _)).trans (z k h1 h2)
/-- what a move between geese leaves, debts as may be -/
theorem act_mv {i : Nat} {h h1 : q_H} {mo nm w E : Nat} {em ed ew ep ea f : Nat → Nat} (hi : i ≤ 512) (hnm : nm ≤ 8) (rw_ : rw_ok i mo nm (q_I h 154) w E em ed ew ep ea f) (sv : sv_ok h 34 35 36 38 39 (q_I h 154) w E em ed ew ep ea) (tm : ∀ k, k < 64 → q_I h 37 k = q_I h 154 (136 + k)) {a b n : Nat} (ha : a < nm) (hb : b < nm) (hab : ¬ a = b) (hn : n < 2 ^ 30) {Rr : Nat → Int32} (hRr : ∀ k, k < 1720 → Rr k = q_I h 154 k) (q35 : q_I h1 35 = (q_mvc a b a (q_I h 35) (nI n) 9).1) (q34 : q_I h1 34 = q_I h 34) (q37 : q_I h1 37 = q_I h 37) (q38 : q_I h1 38 = q_I h 38) (q39 : q_I h1 39 = q_I h 39) {R' : Nat → Int32} (r1 : ∀ k, k < 72 → R' k = (q_mvs a b a Rr (nI n) 8).1 k) (r2 : ∀ k, k < 64 → q_I h1 36 k = R' (72 + k)) (r3 : ∀ k, 136 ≤ k → k < 1720 → R' k = q_I h 154 k) : ∃ (w E : Nat) (em ed ew ep ea f : Nat → Nat), rw_ok (i + 1) mo nm R' w E em ed ew ep ea f ∧ sv_ok h1 34 35 36 38 39 R' w E em ed ew ep ea ∧ ∀ k, k < 64 → q_I h1 37 k = R' (136 + k) := by
  have ht : q_ns f 72 < 2 ^ 30 := by have := rw_.2.2.2.2.2.2.2.1; omega
  have hrn := rw_.2.2.2.2.2.2.1
  obtain ⟨m1, m2, -⟩ := mv_both (A := Rr) (B := q_I h 35) (f := f) (f0 := a) (n := n) hab (by omega) (by omega) (by omega) (fun k hk => (hRr k (by omega)).trans (hrn k hk)) (fun k hk => (sv.2.2.2.1 k hk).trans (hrn k hk)) hn ht
  have hr' : q_rn R' (q_mN a b a f n 8).1 := fun k hk => (r1 k hk).trans (m1 k hk)
  refine ⟨w, E, em, ed, ew, ep, ea, (q_mN a b a f n 8).1, rw_mv rw_ r3 hr' (q_mN_tot (by omega) (by omega) (by omega) 8 (Nat.le_refl _)) (mv_z ha hb hnm rw_.2.2.2.2.2.2.2.2.1), ⟨by rw [q34]; exact sv.1, by rw [q34]; exact sv.2.1, fun j hj => by rw [q38, q39]; exact sv.2.2.1 j hj, fun k hk => by rw [q35, m2 k hk, hr' k hk], r2⟩, fun k hk => by rw [q37, tm k hk, r3 _ (by omega) (by omega)]⟩
theorem lk_1 {h h1 : q_H} {x i mo nm w E : Nat} {em ed ew ep ea f : Nat → Nat} {dv : Int32} (rc : rk_rec h h1 x (-1) dv (-1)) (r : rw_ok i mo nm (q_I h 154) w E em ed ew ep ea f) (v : sv_ok h 34 35 36 38 39 (q_I h 154) w E em ed ew ep ea) {R' : Nat → Int32} {E0 : Nat} (e1 : R' 201 = nI E0) (e2 : E ≤ E0) (e3 : E0 ≤ 300) (e4 : ∀ k, k < 64 → q_I h 154 (72 + k) = R' (72 + k)) (e5 : ∀ k, k < 5 * E → q_I h 154 (210 + k) = R' (210 + k)) : LK (q_I h1) x R' (q_I h 154) := by
  obtain ⟨b1, b2, b3⟩ := lk_base rc r v
  exact ⟨b1, b2, b3, E0, E, e1, r.2.2.1, e2, e3, Or.inl ⟨rc.2.2.2.1, rc.2.2.2.2.2, e4, e5⟩⟩
theorem lk_2 {h h1 : q_H} {x i mo nm w E a : Nat} {em ed ew ep ea f : Nat → Nat} {dv : Int32} (ha : a < 64) (rc : rk_rec h h1 x (nI a) dv (-1)) (hdv : dv = q_I h 154 (72 + a)) (r : rw_ok i mo nm (q_I h 154) w E em ed ew ep ea f) (v : sv_ok h 34 35 36 38 39 (q_I h 154) w E em ed ew ep ea) {R' : Nat → Int32} (e1 : R' 201 = nI E) (e4 : ∀ k, k < 64 → k ≠ a → q_I h 154 (72 + k) = R' (72 + k)) (e5 : ∀ k, k < 5 * E → q_I h 154 (210 + k) = R' (210 + k)) : LK (q_I h1) x R' (q_I h 154) := by
  obtain ⟨b1, b2, b3⟩ := lk_base rc r v
  exact ⟨b1, b2, b3, E, E, e1, r.2.2.1, Nat.le_refl _, r.2.2.2.1, Or.inr (Or.inl ⟨a, ha, rc.2.2.2.1, rc.2.2.2.2.1.trans hdv, rc.2.2.2.2.2, e4, e5⟩)⟩
theorem can_n {R : Nat → Int32} {a b : Nat} {k : Int32} {v : Nat} (hv : q_s8 R (8 * a) = nI v) (hv2 : v < 2 ^ 30) (c : q_can R a b k) : ∃ n, k = nI n ∧ 0 < n ∧ n ≤ v := by
  obtain ⟨c1, c2, -⟩ := c
  have h0 : ¬ k < 0 := fun q => by
    have := Int32.lt_of_lt_of_le q (nI_pos' (n := 1) (by decide))
    exact absurd (Int32.lt_of_lt_of_le this c1) (Int32.lt_irrefl)
  obtain ⟨n, hn, rfl⟩ := nI_of h0
  rw [hv] at c2
  exact ⟨n, rfl, (nI_leI (a := 1) (b := n) (by decide) hn).mp c1, (nI_leI (a := n) (b := v) hn (by omega)).mp c2⟩
theorem rvpv (D H k : Int32) : (if (if H ≤ k then H else k) ≤ D then (if H ≤ k then H else k) else D) = q_pv D H k := by
  unfold q_pv
  refine Int32.toInt_inj.mp ?_
  simp only [Int32.le_iff_toInt_le, Int32.lt_iff_toInt_lt]
  repeat' split
  all_goals (first | rfl | omega)
theorem pv_le (D H k : Int32) : q_pv D H k ≤ H := by
  unfold q_pv
  simp only [Int32.le_iff_toInt_le, Int32.lt_iff_toInt_lt]
  repeat' split
  all_goals (first | rfl | omega)
theorem st_stuff (l : Launch) (g : q_GP) {i : Nat} {h : q_H} (hi : i ≤ 512) (hR : RR i h) (x z y : Int32) : q_2 l g i h mX9_stuff [.ref 0, .int x, .int z, .int y] mX10_stuff [.ref 124, .int x, .int z, .int y] := by
  obtain ⟨aS, aT, aP, aW, aZ, p, nm, nd, nc, mo, n, lv, LW, gu, aL, aN, aU, aH, aD⟩ := id hR
  have hs := aS.1
  obtain ⟨hp, hLk, hm, hLm, aP3, aG, aC, aV⟩ := id aL
  have hnm : nm ≤ 8 := hp.2.2.2.2.2.1
  have hnd : nd ≤ 8 := hp.2.2.2.2.2.2.2.1
  have hq := rel_req aN
  have hC := sC_of aC
  obtain ⟨w, E, em, ed, ew, ep, ea, f, rw_, sv, tm⟩ := id aN
  have hwc : q_I h 34 6 = nI w := sv.1
  have hwr : q_I h 154 200 = nI w := rw_.1
  have hw2 : w < 2 ^ 19 := by have := rw_.2.1; omega
  have hw3 : w < 2 ^ 20 := by omega
  have hE1 : q_I h 34 5 = nI E := sv.2.1
  have hEr : q_I h 154 201 = nI E := rw_.2.2.1
  have hE2 : E ≤ 300 := rw_.2.2.2.1
  have hEE := rel_E (by omega) hnm rw_ sv
  have hrn := rw_.2.2.2.2.2.2.1
  have hns : q_ns f 72 < 2 ^ 30 := by have := rw_.2.2.2.2.2.2.2.1; omega
  have hs8 : ∀ k, k < 9 → q_s8 (q_cr h) (8 * k) = q_s8 (q_I h 154) (8 * k) := fun k hk => q_s8_rq hq (by omega)
  have hhv : ∀ k, k < 9 → q_s8 (q_I h 154) (8 * k) = nI (q_hv f k) ∧ q_hv f k < 2 ^ 30 := fun k hk => ⟨q_rn_s8 hrn hk, by have := q_hv_le f hk; omega⟩
  obtain ⟨u, x0, u1, u2, u3, u4, u5, S, u6, u7⟩ := id aU
  have hR3 : ∀ T : Nat → Int32, q_req (q_cr h) (q_cpy (q_I h 154) T 1720) := fun T k hk => (hq k hk).trans (if_pos (by omega) : q_cpy (q_I h 154) T 1720 k = q_I h 154 k).symm
  have hRr : ∀ T : Nat → Int32, ∀ k, k < 1720 → q_cpy (q_I h 154) T 1720 k = q_I h 154 k := fun T k hk => if_pos hk
  have hvc : ∀ m, m < 9 → q_s8 (q_cr h) (8 * m) = nI (q_hv f m) := fun m hm => (hs8 m hm).trans (hhv m hm).1
  by_cases hx : q_two x z nm
  · obtain ⟨a, b, ha8, hb8, hab, rfl, rfl⟩ := two_e (by omega) hx
    by_cases hc : q_can (q_cr h) a b y
    · obtain ⟨k, rfl, hk0, hkv⟩ := can_n (hvc a (by omega)) (hhv a (by omega)).2 hc
      have hk30 : k < 2 ^ 30 := by have := (hhv a (by omega)).2; omega
      refine ⟨4, _, by decide, c_X9_stuff_t l g h hs hp u2 u5 u4 u1 ha8 hb8 hab hc, fun r h1 q => ?_⟩
      obtain ⟨rfl, D, q35, q34, q36, q37, q38, q39⟩ := q
      obtain ⟨hs1, aL1, er⟩ := did_1 D u2 hs aL
      have hcr : q_can (q_cpy (q_I h1 154) (q_I h1 155) 1720) a b (nI k) := by rw [er 154 (by decide), er 155 (by decide)]; exact can_rq (hR3 _) (by omega) (by omega) hc
      have c := c_X10_stuff_t l g h1 hs1 aL1.2.2.1 (u := u) (by rw [er 124 (by decide)]; exact u3) u1 ha8 hb8 hab (nI k) hcr
      rw [er 154 (by decide), er 155 (by decide)] at c
      have ne : ∀ j, 72 ≤ j → j < 1720 → (q_mvs a b a (q_cpy (q_I h 154) (q_I h 155) 1720) (nI k) 8).1 j = q_I h 154 j := fun j h1 h2 => (q_mvs_ne (by omega) (by omega) (by omega) h1 8 (Nat.le_refl _)).trans (hRr _ j h2)
      exact ⟨nI 1, 4, by decide, rfl, hs1, q_Ct_post (fun r2 h2 q2 => ⟨q2.1, RR_act aS aT aP aW aZ aL aH aD u1 u2 u6 u7 aN D q2.2
        (act_mv hi hnm rw_ sv tm ha8 hb8 hab hk30 (hRr _) q35 q34 q37 q38 q39 (fun _ _ => rfl) (fun j hj => by rw [q36, sv.2.2.2.2 j hj, ne _ (by omega) (by omega)]) (fun j h1 h2 => ne j (by omega) h2))
        (lk_1 D.2.2.2.2 rw_ sv ((ne _ (by decide) (by decide)).trans hEr) (Nat.le_refl _) hE2 (fun j hj => (ne _ (by omega) (by omega)).symm) (fun j hj => (ne _ (by omega) (by omega)).symm))⟩) c⟩
    · exact q_2q hR  (d2 := 4) (by decide) (by decide) (q_Ct_d (c_X9_stuff_n l g h hs hp ha8 hb8 hab hc)) (rfl) (fun h1 hk => by
    obtain ⟨hs1, aL1, er⟩ := rel_1 hk hs aL
    have e154 := er 154 (by decide)
    have e140 := er 140 (by decide)
    have e124 := er 124 (by decide)
    have c := c_X10_stuff_n l g h1 hs1 aL1.2.2.1 ha8 hb8 hab y (fun q => hc (can_rq (req_s (by rw [er 154 (by decide)]; exact hR3 _)) (by omega) (by omega) q))
    (try simp only [e154, e140, e124] at c)
    exact c)
  · exact q_2q hR  (d2 := 4) (by decide) (by decide) (q_Ct_d (c_X9_stuff_f l g h hs hp x z y hx)) (rfl) (fun h1 hk => by
    obtain ⟨hs1, aL1, er⟩ := rel_1 hk hs aL
    have e154 := er 154 (by decide)
    have e140 := er 140 (by decide)
    have e124 := er 124 (by decide)
    have c := c_X10_stuff_f l g h1 hs1 aL1.2.2.1 x z y hx
    (try simp only [e154, e140, e124] at c)
    exact q_Ct_m c)
theorem st_lend (l : Launch) (g : q_GP) {i : Nat} {h : q_H} (hi : i ≤ 512) (hR : RR i h) (x z y : Int32) : q_2 l g i h mX9_lend [.ref 0, .int x, .int z, .int y] mX10_lend [.ref 124, .int x, .int z, .int y] := by
  obtain ⟨aS, aT, aP, aW, aZ, p, nm, nd, nc, mo, n, lv, LW, gu, aL, aN, aU, aH, aD⟩ := id hR
  have hs := aS.1
  obtain ⟨hp, hLk, hm, hLm, aP3, aG, aC, aV⟩ := id aL
  have hnm : nm ≤ 8 := hp.2.2.2.2.2.1
  have hnd : nd ≤ 8 := hp.2.2.2.2.2.2.2.1
  have hq := rel_req aN
  have hC := sC_of aC
  obtain ⟨w, E, em, ed, ew, ep, ea, f, rw_, sv, tm⟩ := id aN
  have hwc : q_I h 34 6 = nI w := sv.1
  have hwr : q_I h 154 200 = nI w := rw_.1
  have hw2 : w < 2 ^ 19 := by have := rw_.2.1; omega
  have hw3 : w < 2 ^ 20 := by omega
  have hE1 : q_I h 34 5 = nI E := sv.2.1
  have hEr : q_I h 154 201 = nI E := rw_.2.2.1
  have hE2 : E ≤ 300 := rw_.2.2.2.1
  have hEE := rel_E (by omega) hnm rw_ sv
  have hrn := rw_.2.2.2.2.2.2.1
  have hns : q_ns f 72 < 2 ^ 30 := by have := rw_.2.2.2.2.2.2.2.1; omega
  have hs8 : ∀ k, k < 9 → q_s8 (q_cr h) (8 * k) = q_s8 (q_I h 154) (8 * k) := fun k hk => q_s8_rq hq (by omega)
  have hhv : ∀ k, k < 9 → q_s8 (q_I h 154) (8 * k) = nI (q_hv f k) ∧ q_hv f k < 2 ^ 30 := fun k hk => ⟨q_rn_s8 hrn hk, by have := q_hv_le f hk; omega⟩
  obtain ⟨u, x0, u1, u2, u3, u4, u5, S, u6, u7⟩ := id aU
  have hR3 : ∀ T : Nat → Int32, q_req (q_cr h) (q_cpy (q_I h 154) T 1720) := fun T k hk => (hq k hk).trans (if_pos (by omega) : q_cpy (q_I h 154) T 1720 k = q_I h 154 k).symm
  have hRr : ∀ T : Nat → Int32, ∀ k, k < 1720 → q_cpy (q_I h 154) T 1720 k = q_I h 154 k := fun T k hk => if_pos hk
  have hvc : ∀ m, m < 9 → q_s8 (q_cr h) (8 * m) = nI (q_hv f m) := fun m hm => (hs8 m hm).trans (hhv m hm).1
  by_cases hx : q_two x z nm
  · obtain ⟨a, b, ha8, hb8, hab, rfl, rfl⟩ := two_e (by omega) hx
    by_cases hc : q_can (q_cr h) a b y
    · obtain ⟨k, rfl, hk0, hkv⟩ := can_n (hvc a (by omega)) (hhv a (by omega)).2 hc
      have hk30 : k < 2 ^ 30 := by have := (hhv a (by omega)).2; omega
      refine ⟨4, _, by decide, c_X9_lend_t l g h hs hp u2 u5 u4 u1 ha8 hb8 hab hc, fun r h1 q => ?_⟩
      obtain ⟨rfl, D, q35, q36, q34, q37, q38, q39⟩ := q
      obtain ⟨hs1, aL1, er⟩ := did_1 D u2 hs aL
      have hcr : q_can (q_cpy (q_I h1 154) (q_I h1 155) 1720) a b (nI k) := by rw [er 154 (by decide), er 155 (by decide)]; exact can_rq (hR3 _) (by omega) (by omega) hc
      have c := c_X10_lend_t l g h1 hs1 aL1.2.2.1 (u := u) (by rw [er 124 (by decide)]; exact u3) u1 ha8 hb8 hab (nI k) hcr
      rw [er 154 (by decide), er 155 (by decide)] at c
      have ne : ∀ j, 72 ≤ j → j < 1720 → (q_mvs a b a (q_cpy (q_I h 154) (q_I h 155) 1720) (nI k) 8).1 j = q_I h 154 j := fun j h1 h2 => (q_mvs_ne (by omega) (by omega) (by omega) h1 8 (Nat.le_refl _)).trans (hRr _ j h2)
      have ed1 : 72 + 8 * b + a = 72 + (b * 8 + a) := by omega
      have c36 : q_I h 36 (b * 8 + a) = q_I h 154 (72 + (b * 8 + a)) := sv.2.2.2.2 _ (by omega)
      have lo : ∀ j, j ≠ 72 + (b * 8 + a) → q_lnR (q_cpy (q_I h 154) (q_I h 155) 1720) a b (nI k) j = (q_mvs a b a (q_cpy (q_I h 154) (q_I h 155) 1720) (nI k) 8).1 j := fun j hj => pk_un (by omega)
      have at_ : q_lnR (q_cpy (q_I h 154) (q_I h 155) 1720) a b (nI k) (72 + (b * 8 + a)) = q_I h 154 (72 + (b * 8 + a)) + nI k := by
        unfold q_lnR
        rw [ed1, pk_us, ne _ (by omega) (by omega)]
      have nl : ∀ j, 72 ≤ j → j < 1720 → j ≠ 72 + (b * 8 + a) → q_lnR (q_cpy (q_I h 154) (q_I h 155) 1720) a b (nI k) j = q_I h 154 j := fun j h1 h2 h3 => (lo j h3).trans (ne j h1 h2)
      exact ⟨nI 1, 4, by decide, rfl, hs1, q_Ct_post (fun r2 h2 q2 => ⟨q2.1, RR_act aS aT aP aW aZ aL aH aD u1 u2 u6 u7 aN D q2.2
        (act_mv hi hnm rw_ sv tm ha8 hb8 hab hk30 (hRr _) q35 q34 q37 q38 q39 (fun j hj => lo j (by omega)) (fun j hj => by
          rw [q36]
          by_cases q : j = b * 8 + a
          · rw [q, pk_us, at_, c36]
          · rw [pk_un q, sv.2.2.2.2 j hj, nl _ (by omega) (by omega) (by omega)]) (fun j h1 h2 => nl j (by omega) h2 (by omega)))
        (lk_2 (by omega) D.2.2.2.2 c36 rw_ sv ((nl _ (by decide) (by decide) (by omega)).trans hEr) (fun j hj hne => (nl _ (by omega) (by omega) (by omega)).symm) (fun j hj => (nl _ (by omega) (by omega) (by omega)).symm))⟩) c⟩
    · exact q_2q hR  (d2 := 4) (by decide) (by decide) (q_Ct_d (c_X9_lend_n l g h hs hp ha8 hb8 hab hc)) (rfl) (fun h1 hk => by
    obtain ⟨hs1, aL1, er⟩ := rel_1 hk hs aL
    have e154 := er 154 (by decide)
    have e140 := er 140 (by decide)
    have e124 := er 124 (by decide)
    have c := c_X10_lend_n l g h1 hs1 aL1.2.2.1 ha8 hb8 hab y (fun q => hc (can_rq (req_s (by rw [er 154 (by decide)]; exact hR3 _)) (by omega) (by omega) q))
    (try simp only [e154, e140, e124] at c)
    exact c)
  · exact q_2q hR  (d2 := 4) (by decide) (by decide) (q_Ct_d (c_X9_lend_f l g h hs hp x z y hx)) (rfl) (fun h1 hk => by
    obtain ⟨hs1, aL1, er⟩ := rel_1 hk hs aL
    have e154 := er 154 (by decide)
    have e140 := er 140 (by decide)
    have e124 := er 124 (by decide)
    have c := c_X10_lend_f l g h1 hs1 aL1.2.2.1 x z y hx
    (try simp only [e154, e140, e124] at c)
    exact q_Ct_m c)
