/-! undo: both sides alike -/
theorem RR_und {i : Nat} {h h1 : q_H} {p nm nd nc mo n lv : Nat} {LW : q_LW} {gu : Nat → Nat} (aS : RS i h) (aT : RT h) (aP : RP h) (aW : RW h) (aZ : RZ h) (aL : RLW h p nm nd nc mo n lv LW gu) (aH : RH i h mo nm) (aD : RD h nm) {u x : Nat} (u1 : u ≤ 25) (u0 : 0 < u) (u2 : x < 25) {S : Nat → Nat → Int32}
  (u7 : ∀ j, j < u → (∀ k, k < 1720 → q_I h 158 (1720 * (u - 1 - j) + k) = S (j + 1) k) ∧ (∃ (w E : Nat) (em ed ew ep ea f : Nat → Nat), rw_ok i mo nm (S (j + 1)) w E em ed ew ep ea f) ∧ LK (q_I h) ((x + 24 - j) % 25) (S j) (S (j + 1)))
  (d1 : h1.2 = h.2) (dr : ∀ r, r ≠ 34 → r ≠ 35 → r ≠ 36 → r ≠ 37 → r ≠ 38 → r ≠ 42 → q_I h1 r = q_I h r) (d2 : q_I h1 42 2 = nI (u - 1)) (d3 : q_I h1 42 1 = nI ((x + 24) % 25)) {w E : Nat} {em ed ew ep ea f : Nat → Nat} (n1 : rw_ok i mo nm (S 1) w E em ed ew ep ea f) (n2 : sv_ok h1 34 35 36 38 39 (S 1) w E em ed ew ep ea) (n3 : ∀ k, k < 64 → q_I h1 37 k = S 1 (136 + k)) : RR (i + 1) (q_wI (q_wI h1 124 (upd (q_I h1 124) 51 (nI (u - 1)))) 154 (q_cpy (fun k => q_I h1 158 (1720 * (u - 1) + k)) (q_I h1 154) 1720)) := by
  generalize hg : q_wI (q_wI h1 124 (upd (q_I h1 124) 51 (nI (u - 1)))) 154 (q_cpy (fun k => q_I h1 158 (1720 * (u - 1) + k)) (q_I h1 154) 1720) = h2
  have e2 : h2.2 = h.2 := by
    rw [← hg]
    exact d1
  have e3 : h2.2.2 = h.2.2 := congrArg (fun z => z.2) e2
  have eJ : q_J h2 = q_J h := congrArg (fun z => z.1) e2
  have r1 : ∀ r, r ≠ 124 → r ≠ 154 → q_I h2 r = q_I h1 r := fun r a1 a2 => by
    rw [← hg]
    exact (q_Ine a2).trans (q_Ine a1)
  have rh : ∀ r, r ≠ 124 → r ≠ 154 → r ≠ 34 → r ≠ 35 → r ≠ 36 → r ≠ 37 → r ≠ 38 → r ≠ 42 → q_I h2 r = q_I h r := fun r a1 a2 a3 a4 a5 a6 a7 a8 => (r1 r a1 a2).trans (dr r a3 a4 a5 a6 a7 a8)
  have rq : ∀ r, 42 < r → r ≠ 124 → r ≠ 154 → q_I h2 r = q_I h r := fun r a0 a1 a2 => rh r a1 a2 (by omega) (by omega) (by omega) (by omega) (by omega) (by omega)
  have f124 : ∀ k, k ≠ 51 → q_I h2 124 k = q_I h 124 k := fun k a1 => by
    rw [← hg]
    exact (pk_un a1).trans (congrFun (dr 124 (by decide) (by decide) (by decide) (by decide) (by decide) (by decide)) k)
  have f51 : q_I h2 124 51 = nI (u - 1) := by
    rw [← hg]
    show upd (q_I h1 124) 51 (nI (u - 1)) 51 = _
    exact pk_us
  have eR : ∀ k, k < 1720 → q_I h2 154 k = S 1 k := fun k hk => by
    rw [← hg]
    show q_cpy (fun k => q_I h1 158 (1720 * (u - 1) + k)) (q_I h1 154) 1720 k = S 1 k
    rw [cpy_at hk]
    rw [dr 158 (by decide) (by decide) (by decide) (by decide) (by decide) (by decide), ← (u7 0 u0).1 k hk]
    rfl
  refine ⟨RS_up (RS_k e3 aS), RT_k (congrFun (rh 1 (by decide) (by decide) (by decide) (by decide) (by decide) (by decide) (by decide) (by decide)) 1) (f124 2 (by decide)) (rh 2 (by decide) (by decide) (by decide) (by decide) (by decide) (by decide) (by decide) (by decide)) (rq 125 (by decide) (by decide) (by decide)) aT, RP_k (rh 7 (by decide) (by decide) (by decide) (by decide) (by decide) (by decide) (by decide) (by decide)) (f124 17 (by decide)) aP, RW_k (congrFun eJ 6) (congrFun eJ 131) aW, ⟨(congrFun (rq 111 (by decide) (by decide) (by decide)) 0).trans aZ.1, (congrFun (rq 112 (by decide) (by decide) (by decide)) 0).trans aZ.2.1, (congrFun (rq 122 (by decide) (by decide) (by decide)) 0).trans aZ.2.2.1, (congrFun (rq 123 (by decide) (by decide) (by decide)) 0).trans aZ.2.2.2⟩, p, nm, nd, nc, mo, n, lv, LW, gu, ?_, ?_, ?_, ?_, ?_⟩
  · exact RLW_k (congrArg (fun z => z.1 0) e3) (fun r r1 r2 r3 r4 => rh r (by omega) (by omega) (by omega) (by omega) (by omega) (by omega) (by omega) (by omega)) (f124 18 (by decide)) (fun r r1 r2 => rq r (by omega) (by omega) (by omega)) aL
  · have ri : ∀ r, 34 ≤ r → r ≤ 39 → q_I h2 r = q_I h1 r := fun r a1 a2 => r1 r (by omega) (by omega)
    exact ⟨w, E, em, ed, ew, ep, ea, f, rw_up (rw_k eR n1), sv_k (ri 34 (by decide) (by decide)) (ri 35 (by decide) (by decide)) (ri 36 (by decide) (by decide)) (ri 38 (by decide) (by decide)) (ri 39 (by decide) (by decide)) eR n2, fun k hk => by rw [ri 37 (by decide) (by decide), eR _ (by omega)]; exact n3 k hk⟩
  · refine ⟨u - 1, (x + 24) % 25, by omega, Nat.mod_lt _ (by decide), f51, ?_, ?_, fun j => S (j + 1), fun k hk => (eR k hk).symm, fun j hj => ?_⟩
    · rw [r1 42 (by decide) (by decide), d2]
    · rw [r1 42 (by decide) (by decide), d3]
    · obtain ⟨v1, ⟨w', E', em', ed', ew', ep', ea', f', v2⟩, v3⟩ := u7 (j + 1) (by omega)
      refine ⟨fun k hk => ?_, ⟨w', E', em', ed', ew', ep', ea', f', rw_up v2⟩, ?_⟩
      · refine Eq.trans ?_ (v1 k hk)
        rw [rq 158 (by decide) (by decide) (by decide)]
        exact congrArg _ (by omega)
      · have ey : ((x + 24) % 25 + 24 - j) % 25 = (x + 24 - (j + 1)) % 25 := by omega
        have hy : (x + 24 - (j + 1)) % 25 < 25 := Nat.mod_lt _ (by decide)
        rw [ey]
        generalize (x + 24 - (j + 1)) % 25 = y at *
        exact LK_k (rq _ (by omega) (by omega) (by omega)) (rq _ (by omega) (by omega) (by omega)) (fun _ _ => rfl) (fun _ _ => rfl) v3
  · exact RH_up (RH_k (congrArg (fun z => z.1 40) e3) (fun b hb => ⟨sl_k hb e3, fun r r1 r2 => by have := hb.2.2.2.2.2.2.2.2.2.2; exact rq r (by omega) (by omega) (by omega)⟩) (rh 41 (by decide) (by decide) (by decide) (by decide) (by decide) (by decide) (by decide) (by decide)) (rq 168 (by decide) (by decide) (by decide)) (rq 169 (by decide) (by decide) (by decide)) aH)
  · exact RD_k (congrFun (rq 94 (by decide) (by decide) (by decide)) 3) (f124 62 (by decide)) (rq 95 (by decide) (by decide) (by decide)) (rq 96 (by decide) (by decide) (by decide)) (rq 166 (by decide) (by decide) (by decide)) (rq 167 (by decide) (by decide) (by decide)) aD
/-- entries of two rows that agree -/
theorem ent_eq {i i' mo nm : Nat} (hi : i ≤ 600) (hi' : i' ≤ 600) (hnm : nm ≤ 8) {R R' : Nat → Int32} {w E w' E' : Nat} {em ed ew ep ea f em' ed' ew' ep' ea' f' : Nat → Nat} (a : rw_ok i mo nm R w E em ed ew ep ea f) (b : rw_ok i' mo nm R' w' E' em' ed' ew' ep' ea' f') {j : Nat} (h1 : j < E) (h2 : j < E') : (R (210 + 5 * j) = R' (210 + 5 * j) → em j = em' j) ∧ (R (210 + 5 * j + 1) = R' (210 + 5 * j + 1) → ed j = ed' j) ∧ (R (210 + 5 * j + 2) = R' (210 + 5 * j + 2) → ew j = ew' j) ∧ (R (210 + 5 * j + 3) = R' (210 + 5 * j + 3) → ep j = ep' j) ∧ (R (210 + 5 * j + 4) = R' (210 + 5 * j + 4) → ea j = ea' j) := by
  obtain ⟨a1, a2, a3, a4, a5, a6, a7, a8, a9, a10⟩ := a.2.2.2.2.2.1 j h1
  obtain ⟨b1, b2, b3, b4, b5, b6, b7, b8, b9, b10⟩ := b.2.2.2.2.2.1 j h2
  have aw := a.2.1
  have bw := b.2.1
  rw [a1, a2, a3, a4, a5, b1, b2, b3, b4, b5]
  exact ⟨fun q => (nI_eq (by omega) (by omega)).mp q, fun q => (nI_eq (by omega) (by omega)).mp q, fun q => (nI_eq (by omega) (by omega)).mp q, fun q => (nI_eq (by omega) (by omega)).mp q, fun q => (nI_eq (by omega) (by omega)).mp q⟩
theorem st_undo (l : Launch) (g : q_GP) {i : Nat} {h : q_H} (hi : i ≤ 512) (hR : RR i h) : q_2 l g i h mX9_undo [.ref 0] mX10_undo [.ref 124] := by
  obtain ⟨aS, aT, aP, aW, aZ, p, nm, nd, nc, mo, n, lv, LW, gu, aL, aN, aU, aH, aD⟩ := id hR
  have hs := aS.1
  obtain ⟨hp, hLk, hm, hLm, aP3, aG, aC, aV⟩ := id aL
  have hnm : nm ≤ 8 := hp.2.2.2.2.2.1
  have hnd : nd ≤ 8 := hp.2.2.2.2.2.2.2.1
  have hq := rel_req aN
  have hC := sC_of aC
  obtain ⟨w, E, em, ed, ew, ep, ea, f, rw_, sv, tm⟩ := id aN
  have hwc : q_I h 34 6 = nI w := sv.1
  have hwr : q_I h 154 200 = nI w := rw_.1
  have hw2 : w < 2 ^ 19 := by have := rw_.2.1; omega
  have hw3 : w < 2 ^ 20 := by omega
  have hE1 : q_I h 34 5 = nI E := sv.2.1
  have hEr : q_I h 154 201 = nI E := rw_.2.2.1
  have hE2 : E ≤ 300 := rw_.2.2.2.1
  have hEE := rel_E (by omega) hnm rw_ sv
  have hrn := rw_.2.2.2.2.2.2.1
  have hns : q_ns f 72 < 2 ^ 30 := by have := rw_.2.2.2.2.2.2.2.1; omega
  have hs8 : ∀ k, k < 9 → q_s8 (q_cr h) (8 * k) = q_s8 (q_I h 154) (8 * k) := fun k hk => q_s8_rq hq (by omega)
  have hhv : ∀ k, k < 9 → q_s8 (q_I h 154) (8 * k) = nI (q_hv f k) ∧ q_hv f k < 2 ^ 30 := fun k hk => ⟨q_rn_s8 hrn hk, by have := q_hv_le f hk; omega⟩
  obtain ⟨u, x0, u1, u2, u3, u4, u5, S, u6, u7⟩ := id aU
  by_cases hu0 : u = 0
  · subst hu0
    exact q_2q hR (d2 := 0) (by decide) (by decide) (q_Ct_d (c_X9_undo_0 l g h hs u4)) rfl (fun h1 hk => by
      obtain ⟨hs1, aL1, er⟩ := rel_1 hk hs aL
      exact q_Ct_m (c_X10_undo_0 l g h1 hs1 (by rw [er 124 (by decide)]; exact u3)))
  · have hu : 0 < u := by omega
    obtain ⟨v1, ⟨w1, E1, em1, ed1, ew1, ep1, ea1, f1, n1⟩, v3⟩ := u7 0 hu
    obtain ⟨l1, l2, l3, E0, E1', l4, l5, l6, l7, lc⟩ := v3
    rw [show x0 + 24 - 0 = x0 + 24 by omega] at l1 l2 l3 lc
    have eE : E0 = E := by
      rw [u6 201 (by decide), hEr] at l4
      exact ((nI_eq (by omega) (by omega)).mp l4).symm
    have eE1 : E1' = E1 := by
      have q5 := n1.2.2.1
      have q6 := n1.2.2.2.1
      rw [l5] at q5
      exact (nI_eq (by omega) (by omega)).mp q5
    subst eE eE1
    have hw1 : w1 < 2 ^ 20 := by have := n1.2.1; omega
    have s0 : ∀ k, k < 1720 → S 0 k = q_I h 154 k := u6
    have g1 : q_I h (44 + 2 * ((x0 + 24) % 25)) 1 = nI E1' := l2.trans l5
    have g2 : q_I h (44 + 2 * ((x0 + 24) % 25)) 2 = nI w1 := l3.trans n1.1
    have e35 : ∀ k, k < 72 → q_cpy (q_I h (45 + 2 * ((x0 + 24) % 25))) (q_I h 35) 72 k = S 1 k := fun k hk => (cpy_at hk).trans (l1 k hk)
    have hkf : ∀ j, j < E1' → (∀ k, k < 4 → S 1 (210 + (5 * j + k)) = S 0 (210 + (5 * j + k))) → em j = em1 j ∧ ed j = ed1 j ∧ ew j = ew1 j ∧ ep j = ep1 j := fun j hj q => by
      obtain ⟨z1, z2, z3, z4, -⟩ := ent_eq (i := i) (i' := i) (by omega) (by omega) hnm rw_ n1 (j := j) (by omega) hj
      have q0 := q 0 (by decide)
      have q1 := q 1 (by decide)
      have q2 := q 2 (by decide)
      have q3 := q 3 (by decide)
      rw [s0 _ (by omega)] at q0 q1 q2 q3
      exact ⟨z1 q0.symm, z2 q1.symm, z3 q2.symm, z4 q3.symm⟩
    have hka : ∀ j, j < E1' → S 1 (210 + (5 * j + 4)) = S 0 (210 + (5 * j + 4)) → ea j = ea1 j := fun j hj q => by
      obtain ⟨-, -, -, -, z5⟩ := ent_eq (i := i) (i' := i) (by omega) (by omega) hnm rw_ n1 (j := j) (by omega) hj
      rw [s0 _ (by omega)] at q
      exact z5 q.symm
    have hcn : (∀ j, j < E1' → em j = em1 j ∧ ed j = ed1 j ∧ ew j = ew1 j ∧ ep j = ep1 j) → ∀ k, k < 64 → nI (q_cnt em ed ew (if mo = 0 then 0 else w1 - w1 % mo) E1' k) = S 1 (136 + k) := fun q k hk => by
      rw [n1.2.2.2.2.2.2.2.2.2 k hk, q_cnt_co (fun i hi => ⟨(q i hi).1, (q i hi).2.1, (q i hi).2.2.1⟩)]
    have h36 : ∀ k, k < 64 → q_I h 36 k = S 0 (72 + k) := fun k hk => (sv.2.2.2.2 k hk).trans (s0 _ (by omega)).symm
    rcases lc with ⟨c1, c2, c3, c4⟩ | ⟨a, ha, c1, c2, c3, c4, c5⟩ | ⟨ii, hii, c1, c2, c3, c4, c5, c6⟩
    · have hq4 : ∀ j, j < E1' → em j = em1 j ∧ ed j = ed1 j ∧ ew j = ew1 j ∧ ep j = ep1 j := fun j hj => hkf j hj (fun k hk => c4 _ (by omega))
      refine ⟨5, _, by decide, c_X9_undo_a l g h hs hp u2 u5 u4 u1 hu g1 g2 (by omega) hw1 hE2 hEE l6 c1 c2, fun r h1 q => ?_⟩
      obtain ⟨rfl, T, rfl, hT⟩ := q
      refine ⟨nI 1, 0, by decide, rfl, by exact hs, q_Ct_post (fun r2 h2 q2 => ?_) (c_X10_undo_t l g _ (by exact hs) (u := u) (by exact u3) u1 hu)⟩
      obtain ⟨rfl, rfl⟩ := q2
      refine ⟨rfl, RR_und aS aT aP aW aZ aL aH aD u1 hu u2 u7 rfl (fun r a1 a2 a3 a4 a5 a6 => by repeat (first | exact rfl | refine (q_Ine (by omega)).trans ?_)) ?_ ?_ n1 ⟨?_, ?_, fun j hj => ?_, e35, fun k hk => (h36 k hk).trans (c3 k hk).symm⟩ (fun k hk => (hT k hk).trans (hcn hq4 k hk))⟩
      · rfl
      · rfl
      · rfl
      · rfl
      · obtain ⟨z1, z2, z3, z4⟩ := hq4 j hj
        rw [← z1, ← z2, ← z3, ← z4, ← hka j hj (c4 _ (by omega))]
        exact sv.2.2.1 j (by omega)
    · have hq4 : ∀ j, j < E1' → em j = em1 j ∧ ed j = ed1 j ∧ ew j = ew1 j ∧ ep j = ep1 j := fun j hj => hkf j hj (fun k hk => c5 _ (by omega))
      refine ⟨5, _, by decide, c_X9_undo_b l g h hs hp u2 u5 u4 u1 hu g1 g2 (by omega) hw1 hE2 hEE l6 ha c1 c2 c3, fun r h1 q => ?_⟩
      obtain ⟨rfl, T, rfl, hT⟩ := q
      refine ⟨nI 1, 0, by decide, rfl, by exact hs, q_Ct_post (fun r2 h2 q2 => ?_) (c_X10_undo_t l g _ (by exact hs) (u := u) (by exact u3) u1 hu)⟩
      obtain ⟨rfl, rfl⟩ := q2
      refine ⟨rfl, RR_und aS aT aP aW aZ aL aH aD u1 hu u2 u7 rfl (fun r a1 a2 a3 a4 a5 a6 => by repeat (first | exact rfl | refine (q_Ine (by omega)).trans ?_)) ?_ ?_ n1 ⟨?_, ?_, fun j hj => ?_, e35, fun k hk => ?_⟩ (fun k hk => (hT k hk).trans (hcn hq4 k hk))⟩
      · rfl
      · rfl
      · rfl
      · rfl
      · obtain ⟨z1, z2, z3, z4⟩ := hq4 j hj
        rw [← z1, ← z2, ← z3, ← z4, ← hka j hj (c5 _ (by omega))]
        exact sv.2.2.1 j (by omega)
      · show upd (q_I h 36) a (S 1 (72 + a)) k = S 1 (72 + k)
        by_cases q : k = a
        · rw [q, pk_us]
        · rw [pk_un q, h36 k hk, c4 k hk q]
    · have hq4 : ∀ j, j < E1' → em j = em1 j ∧ ed j = ed1 j ∧ ew j = ew1 j ∧ ep j = ep1 j := fun j hj => hkf j hj (fun k hk => c4 _ (by omega) (by omega))
      have hai : ea ii = 1 := by
        have q := (rw_.2.2.2.2.2.1 ii (by omega)).2.2.2.2.1
        have q2 := (rw_.2.2.2.2.2.1 ii (by omega)).2.2.2.2.2.2.2.1
        rw [← s0 _ (by omega), show 210 + 5 * ii + 4 = 210 + (5 * ii + 4) by omega, c6] at q
        exact ((nI_eq (by decide) (by omega)).mp q).symm
      have ha1 : ea1 ii = 0 := by
        have q := (n1.2.2.2.2.2.1 ii hii).2.2.2.2.1
        have q2 := (n1.2.2.2.2.2.1 ii hii).2.2.2.2.2.2.2.1
        rw [show 210 + 5 * ii + 4 = 210 + (5 * ii + 4) by omega, c5] at q
        exact ((nI_eq (by decide) (by omega)).mp q).symm
      refine ⟨5, _, by decide, c_X9_undo_c l g h hs hp u2 u5 u4 u1 hu g1 g2 (by omega) hw1 hE2 hEE l6 (by omega) hai c1 c2, fun r h1 q => ?_⟩
      obtain ⟨rfl, T, rfl, hT⟩ := q
      refine ⟨nI 1, 0, by decide, rfl, by exact hs, q_Ct_post (fun r2 h2 q2 => ?_) (c_X10_undo_t l g _ (by exact hs) (u := u) (by exact u3) u1 hu)⟩
      obtain ⟨rfl, rfl⟩ := q2
      refine ⟨rfl, RR_und aS aT aP aW aZ aL aH aD u1 hu u2 u7 rfl (fun r a1 a2 a3 a4 a5 a6 => by repeat (first | exact rfl | refine (q_Ine (by omega)).trans ?_)) ?_ ?_ n1 ⟨?_, ?_, fun j hj => ?_, e35, fun k hk => (h36 k hk).trans (c3 k hk).symm⟩ (fun k hk => (hT k hk).trans (hcn hq4 k hk))⟩
      · rfl
      · rfl
      · rfl
      · rfl
      · obtain ⟨z1, z2, z3, z4⟩ := hq4 j hj
        show upd (q_I h 38) ii (nI (ep ii * 128 + 0 * 64 + em ii * 8 + ed ii)) j = nI (ep1 j * 128 + ea1 j * 64 + em1 j * 8 + ed1 j) ∧ q_I h 39 j = nI (ew1 j)
        rw [← z1, ← z2, ← z3, ← z4]
        by_cases q : j = ii
        · subst q
          rw [pk_us, ha1]
          exact ⟨rfl, (sv.2.2.1 j (by omega)).2⟩
        · rw [pk_un q, ← hka j hj (c4 _ (by omega) (by omega))]
          exact sv.2.2.1 j (by omega)
