/-! hold, restore: both sides alike -/
theorem RS_h {a b i : Nat} (h1 : a ≤ b + 807) (h2 : b ≤ 81053 + 807 * i) : a ≤ 81053 + 807 * (i + 1) := Nat.le_trans h1 (Nat.le_trans (Nat.add_le_add_right h2 807) (Nat.le_of_eq (by rw [Nat.mul_add, Nat.mul_one, Nat.add_assoc])))
theorem RR_hold {i : Nat} {h h1 : q_H} {s b : Nat} (hs3 : s < 3) (hR : RR i h) (A : hd_A s h h1 b) : q_Stat h1 ∧ RR (i + 1) (q_wI (q_wI h1 168 (upd (q_I h1 168) s (nI 1))) 169 (q_put (q_I h1 169) (q_I h1 154) (1720 * s) 1720)) := by
  obtain ⟨aS, aT, aP, aW, aZ, p, nm, nd, nc, mo, n, lv, LW, gu, aL, aN, aU, aH, aD⟩ := hR
  obtain ⟨A1, A2, A3, A4, A5, A6, A7, A8, A9, A10, A11, A12, A13⟩ := A
  have hs := aS.1
  have h170 := q_Stat_N hs
  have b170 : 170 ≤ b := A2.2.2.2.2.2.2.2.2.2.2
  have p40 : ∀ k, q_p0 40 k = none := fun k => rfl
  have hs1 : q_Stat h1 := q_Stat_x hs A9 (fun r hr => (A7 r (by omega)).2) (fun r k hr hp => by
    rw [A8 r (by omega) (fun q => hp (by rw [q]; exact p40 k))])
  refine ⟨hs1, ?_⟩
  generalize hg : q_wI (q_wI h1 168 (upd (q_I h1 168) s (nI 1))) 169 (q_put (q_I h1 169) (q_I h1 154) (1720 * s) 1720) = h2
  have e2 : h2.2 = h1.2 := by rw [← hg]; rfl
  have e3 : h2.2.2 = h1.2.2 := congrArg (fun z => z.2) e2
  have eP : q_P h2 = q_P h1 := congrArg (fun z => z.1) e3
  have r0 : ∀ r, r ≠ 168 → r ≠ 169 → q_I h2 r = q_I h1 r := fun r a1 a2 => by
    rw [← hg]
    exact (q_Ine a2).trans (q_Ine a1)
  have r1 : ∀ r, r < q_N h → r ≠ 41 → r ≠ 168 → r ≠ 169 → r < b ∨ b + 5 < r → q_I h2 r = q_I h r := fun r a0 a1 a2 a3 a4 => (r0 r a2 a3).trans (A5 r a0 a1 a4)
  have rr : ∀ r, r < 168 → r ≠ 41 → q_I h2 r = q_I h r := fun r a0 a1 => r1 r (by omega) a1 (by omega) (by omega) (by omega)
  have eJ : ∀ r, r < 170 → q_J h2 r = q_J h r := fun r hr => by
    rw [← hg]
    exact (A7 r (by omega)).1
  have f168 : q_I h2 168 = upd (q_I h 168) s (nI 1) := by
    rw [← hg, ← A5 168 (by omega) (by decide) (by omega)]
    rfl
  have f169 : q_I h2 169 = q_put (q_I h 169) (q_I h 154) (1720 * s) 1720 := by
    rw [← hg, ← A5 169 (by omega) (by decide) (by omega), ← A5 154 (by omega) (by decide) (by omega)]
    rfl
  have f41 : q_I h2 41 = upd (q_I h 41) s (nI 1) := (r0 41 (by decide) (by decide)).trans A6
  have old : ∀ t c, t ≠ s → q_P h 40 t = some c → t < 3 → sl_at h c ∧ sl_at h2 c ∧ c + 5 < q_N h ∧ (c + 5 < b ∨ b + 5 < c) := fun t c hne hc ht => by
    obtain ⟨a1, -⟩ := aH.1 t ht
    rcases a1 with a1 | ⟨c', a1, a2⟩
    · rw [a1] at hc
      cases hc
    · rw [a1] at hc
      cases hc
      obtain ⟨b1, b2, b3, b4, b5, b6, b7, b8, b9, b10, b11⟩ := id a2
      have hc5 : c + 5 < q_N h := b10.1
      have eS : ∀ r t n, r < q_N h → q_Sh h r t n → q_Sh h2 r t n := fun r t n hr q => by
        have z := A7 r hr
        refine ⟨?_, ?_, ?_⟩
        · rw [show q_N h2 = q_N h1 from congrArg (fun z => z.2.2.2.1) e3]
          omega
        · exact (congrArg (fun z => z.2.1 r) e3).trans (z.2.1.trans q.2.1)
        · exact (congrArg (fun z => z.2.2.1 r) e3).trans (z.2.2.trans q.2.2)
      have eq : q_P h2 c = q_P h c := by
        rw [eP]
        exact A8 c (by omega) (by omega)
      refine ⟨a2, ⟨eS _ _ _ (by omega) b1, by rw [eq]; exact b2, by rw [eq]; exact b3, by rw [eq]; exact b4, by rw [eq]; exact b5, by rw [eq]; exact b6, eS _ _ _ (by omega) b7, eS _ _ _ (by omega) b8, eS _ _ _ (by omega) b9, eS _ _ _ (by omega) b10, b11⟩, hc5, ?_⟩
      rcases A12 with q | q
      · exact aH.2 t s c b ht hs3 hne a1 q
      · exact Or.inl (by omega)
  refine ⟨⟨q_Stat_3 e3 hs1, ?_, ?_⟩, RT_k (congrFun (rr 1 (by decide) (by decide)) 1) (congrFun (rr 124 (by decide) (by decide)) 2) (rr 2 (by decide) (by decide)) (rr 125 (by decide) (by decide)) aT, RP_k (rr 7 (by decide) (by decide)) (congrFun (rr 124 (by decide) (by decide)) 17) aP, RW_k (eJ 6 (by decide)) (eJ 131 (by decide)) aW, ⟨(congrFun (rr 111 (by decide) (by decide)) 0).trans aZ.1, (congrFun (rr 112 (by decide) (by decide)) 0).trans aZ.2.1, (congrFun (rr 122 (by decide) (by decide)) 0).trans aZ.2.2.1, (congrFun (rr 123 (by decide) (by decide)) 0).trans aZ.2.2.2⟩, p, nm, nd, nc, mo, n, lv, LW, gu, ?_, ?_, ?_, ?_, ?_⟩
  · rw [show q_N h2 = q_N h1 from congrArg (fun z => z.2.2.2.1) e3]
    have := aS.2.1
    omega
  · exact RS_h (show q_K h2 ≤ q_K h + 807 from (show q_K h2 = q_K h1 from congrArg (fun z => z.2.2.2.2) e3) ▸ A11) aS.2.2
  · exact RLW_k ((congrFun eP 0).trans (A8 0 (by omega) (by decide))) (fun r a1 a2 a3 a4 => rr r (by omega) (by omega)) (congrFun (rr 124 (by decide) (by decide)) 18) (fun r a1 a2 => rr r (by omega) (by omega)) aL
  · exact RN_up (RN_k (fun r a1 a2 => rr r (by omega) (by omega)) (rr 154 (by decide) (by decide)) aN)
  · exact RU_up (RU_k (congrFun (rr 124 (by decide) (by decide)) 51) (rr 42 (by decide) (by decide)) (fun r a1 a2 => rr r (by omega) (by omega)) (rr 158 (by decide) (by decide)) (rr 154 (by decide) (by decide)) aU)
  · refine ⟨fun t ht => ?_, fun t t' c c' ht ht' hne hc hc' => ?_⟩
    · by_cases q : t = s
      · subst q
        refine ⟨Or.inr ⟨b, by rw [eP]; exact A1, sl_k A2 e3⟩, Or.inr ⟨by rw [f41, pk_us], by rw [f168, pk_us], b, ?_⟩⟩
        obtain ⟨w, E, em, ed, ew, ep, ea, f, n1, n2, n3⟩ := aN
        have eR : ∀ k, k < 1720 → q_I h2 169 (1720 * t + k) = q_I h 154 k := fun k hk => by
          rw [f169]
          unfold q_put
          rw [if_pos (by omega)]
          exact congrArg _ (by omega)
        obtain ⟨m1, m2, m3, m4, m5⟩ := n2
        obtain ⟨s1, s2, s3, s4, s5, s6⟩ := A3
        have hE := n1.2.2.2.1
        refine ⟨w, E, em, ed, ew, ep, ea, f, by rw [eP]; exact A1, rw_up (rw_k eR n1), ?_, ?_, fun j hj => ?_, fun k hk => ?_, fun k hk => ?_⟩
        · rw [r0 b (by omega) (by omega), s6, m1]
        · rw [r0 b (by omega) (by omega), s5, m2]
        · rw [r0 (b + 4) (by omega) (by omega), r0 (b + 5) (by omega) (by omega), s3 j (by omega), s4 j (by omega)]
          exact m3 j hj
        · show q_I h2 (b + 1) k = q_I h2 169 (1720 * t + k)
          rw [r0 (b + 1) (by omega) (by omega), s1 k hk, m4 k hk, eR k (by omega)]
        · show q_I h2 (b + 2) k = q_I h2 169 (1720 * t + (72 + k))
          rw [r0 (b + 2) (by omega) (by omega), s2 k hk, m5 k hk, eR (72 + k) (by omega)]
      · obtain ⟨a1, a2⟩ := aH.1 t ht
        have e40 : q_P h2 40 t = q_P h 40 t := by rw [eP, A4 t q]
        refine ⟨?_, ?_⟩
        · rw [e40]
          rcases a1 with a1 | ⟨c, a1, -⟩
          · exact Or.inl a1
          · exact Or.inr ⟨c, a1, (old t c q a1 ht).2.1⟩
        · rw [e40, f41, f168, pk_un q, pk_un q]
          rcases a2 with a2 | ⟨b1, b2, c, w, E, em, ed, ew, ep, ea, f, b3, b4, b5⟩
          · exact Or.inl a2
          · obtain ⟨o1, o2, o3, o4⟩ := old t c q b3 ht
            have eR : ∀ k, k < 1720 → q_I h2 169 (1720 * t + k) = q_I h 169 (1720 * t + k) := fun k hk => by
              rw [f169]
              unfold q_put
              rw [if_neg (by omega)]
            have hc170 := o1.2.2.2.2.2.2.2.2.2.2
            exact Or.inr ⟨b1, b2, c, w, E, em, ed, ew, ep, ea, f, b3, rw_up (rw_k eR b4), sv_k (r1 c (by omega) (by omega) (by omega) (by omega) (by omega)) (r1 (c + 1) (by omega) (by omega) (by omega) (by omega) (by omega)) (r1 (c + 2) (by omega) (by omega) (by omega) (by omega) (by omega)) (r1 (c + 4) (by omega) (by omega) (by omega) (by omega) (by omega)) (r1 (c + 5) (by omega) (by omega) (by omega) (by omega) (by omega)) eR b5⟩
    · rw [eP] at hc hc'
      by_cases q : t = s
      · subst q
        rw [A1] at hc
        cases hc
        rw [A4 t' (fun z => hne z.symm)] at hc'
        have := (old t' c' (fun z => hne z.symm) hc' ht').2.2.2
        omega
      · rw [A4 t q] at hc
        by_cases q' : t' = s
        · subst q'
          rw [A1] at hc'
          cases hc'
          have := (old t c q hc ht).2.2.2
          omega
        · rw [A4 t' q'] at hc'
          exact aH.2 t t' c c' ht ht' hne hc hc'
  · exact RD_k (congrFun (rr 94 (by decide) (by decide)) 3) (congrFun (rr 124 (by decide) (by decide)) 62) (rr 95 (by decide) (by decide)) (rr 96 (by decide) (by decide)) (rr 166 (by decide) (by decide)) (rr 167 (by decide) (by decide)) aD
theorem st_hold (l : Launch) (g : q_GP) {i : Nat} {h : q_H} (hi : i ≤ 512) (hR : RR i h) {LL : Nat} {xs : Nat → Int32} (hX : q_GX g LL xs) (x : Int32) : q_2 l g i h mX9_hold [.ref 0, .int x] mX10_hold [.ref 124, .int x] := by
  obtain ⟨aS, aT, aP, aW, aZ, p, nm, nd, nc, mo, n, lv, LW, gu, aL, aN, aU, aH, aD⟩ := id hR
  have hs := aS.1
  obtain ⟨hp, hLk, hm, hLm, aP3, aG, aC, aV⟩ := id aL
  have hnm : nm ≤ 8 := hp.2.2.2.2.2.1
  have hnd : nd ≤ 8 := hp.2.2.2.2.2.2.2.1
  have hq := rel_req aN
  have hC := sC_of aC
  obtain ⟨w, E, em, ed, ew, ep, ea, f, rw_, sv, tm⟩ := id aN
  have hwc : q_I h 34 6 = nI w := sv.1
  have hwr : q_I h 154 200 = nI w := rw_.1
  have hw2 : w < 2 ^ 19 := by have := rw_.2.1; omega
  have hw3 : w < 2 ^ 20 := by omega
  have hE1 : q_I h 34 5 = nI E := sv.2.1
  have hEr : q_I h 154 201 = nI E := rw_.2.2.1
  have hE2 : E ≤ 300 := rw_.2.2.2.1
  have hEE := rel_E (by omega) hnm rw_ sv
  have hrn := rw_.2.2.2.2.2.2.1
  have hns : q_ns f 72 < 2 ^ 30 := by have := rw_.2.2.2.2.2.2.2.1; omega
  have hs8 : ∀ k, k < 9 → q_s8 (q_cr h) (8 * k) = q_s8 (q_I h 154) (8 * k) := fun k hk => q_s8_rq hq (by omega)
  have hhv : ∀ k, k < 9 → q_s8 (q_I h 154) (8 * k) = nI (q_hv f k) ∧ q_hv f k < 2 ^ 30 := fun k hk => ⟨q_rn_s8 hrn hk, by have := q_hv_le f hk; omega⟩
  by_cases hx : ∃ k, 0 ≤ k ∧ k ≤ 2 ∧ x = nI k
  · obtain ⟨s, -, hs2, rfl⟩ := hx
    have hs3 : s < 3 := by omega
    have C : q_Ct l g 2 mX9_hold [.ref 0, .int (nI s)] h (fun r h1 => r = some (.int (nI 1)) ∧ ∃ b, hd_A s h h1 b) := by
      rcases (aH.1 s hs3).1 with q | ⟨b, q, hb⟩
      · exact c_X9_hold_n l g h hs hX hs3 q (by have := aS.2.1; omega)
      · exact c_X9_hold_o l g h hs hs3 q hb
    refine ⟨2, _, by decide, C, fun r h1 q => ?_⟩
    obtain ⟨rfl, b, A⟩ := q
    obtain ⟨hs1, R1⟩ := RR_hold hs3 hR A
    exact ⟨nI 1, 1, by decide, rfl, hs1, q_Ct_post (fun r2 h2 q2 => ⟨q2.1, by rw [q2.2]; exact R1⟩) (c_X10_hold_t l g h1 hs1 s hs3)⟩
  · exact q_2q hR  (d2 := 1) (by decide) (by decide) (q_Ct_d (c_X9_hold_f l g h hs hx)) (rfl) (fun h1 hk => by
    obtain ⟨hs1, aL1, er⟩ := rel_1 hk hs aL
    exact q_Ct_m (c_X10_hold_f l g h1 hs1 x hx))
theorem st_restore (l : Launch) (g : q_GP) {i : Nat} {h : q_H} (hi : i ≤ 512) (hR : RR i h) (x : Int32) : q_2 l g i h mX9_restore [.ref 0, .int x] mX10_restore [.ref 124, .int x] := by
  obtain ⟨aS, aT, aP, aW, aZ, p, nm, nd, nc, mo, n, lv, LW, gu, aL, aN, aU, aH, aD⟩ := id hR
  have hs := aS.1
  obtain ⟨hp, hLk, hm, hLm, aP3, aG, aC, aV⟩ := id aL
  have hnm : nm ≤ 8 := hp.2.2.2.2.2.1
  have hnd : nd ≤ 8 := hp.2.2.2.2.2.2.2.1
  have hq := rel_req aN
  have hC := sC_of aC
  obtain ⟨w, E, em, ed, ew, ep, ea, f, rw_, sv, tm⟩ := id aN
  have hwc : q_I h 34 6 = nI w := sv.1
  have hwr : q_I h 154 200 = nI w := rw_.1
  have hw2 : w < 2 ^ 19 := by have := rw_.2.1; omega
  have hw3 : w < 2 ^ 20 := by omega
  have hE1 : q_I h 34 5 = nI E := sv.2.1
  have hEr : q_I h 154 201 = nI E := rw_.2.2.1
  have hE2 : E ≤ 300 := rw_.2.2.2.1
  have hEE := rel_E (by omega) hnm rw_ sv
  have hrn := rw_.2.2.2.2.2.2.1
  have hns : q_ns f 72 < 2 ^ 30 := by have := rw_.2.2.2.2.2.2.2.1; omega
  have hs8 : ∀ k, k < 9 → q_s8 (q_cr h) (8 * k) = q_s8 (q_I h 154) (8 * k) := fun k hk => q_s8_rq hq (by omega)
  have hhv : ∀ k, k < 9 → q_s8 (q_I h 154) (8 * k) = nI (q_hv f k) ∧ q_hv f k < 2 ^ 30 := fun k hk => ⟨q_rn_s8 hrn hk, by have := q_hv_le f hk; omega⟩
  by_cases hx : ∃ k, 0 ≤ k ∧ k ≤ 2 ∧ x = nI k
  · obtain ⟨s, -, hs2, rfl⟩ := hx
    have hs3 : s < 3 := by omega
    obtain ⟨a1, a2⟩ := aH.1 s hs3
    rcases a2 with ⟨z1, z2⟩ | ⟨z1, z2, b, w', E', em', ed', ew', ep', ea', f', b3, b4, b5⟩
    · exact q_2q hR (d2 := 1) (by decide) (by decide) (q_Ct_d (c_X9_restore_0 l g h hs hs3 z1)) rfl (fun h1 hk => by
        obtain ⟨hs1, aL1, er⟩ := rel_1 hk hs aL
        exact q_Ct_m (c_X10_restore_0 l g h1 hs1 s hs3 (by rw [er 168 (by decide)]; exact z2)))
    · have hb : sl_at h b := by
        rcases a1 with a1 | ⟨b', b1', b2'⟩
        · rw [a1] at b3
          cases b3
        · rw [b1'] at b3
          cases b3
          exact b2'
      have b170 : 170 ≤ b := hb.2.2.2.2.2.2.2.2.2.2
      obtain ⟨v1, v2, v3, v4, v5⟩ := id b5
      have w1 := b4.2.1
      have E2 := b4.2.2.2.1
      refine ⟨3, _, by decide, c_X9_restore_t l g h hs hp hs3 z1 b3 hb v2 E2 v1 (by omega) (em := em') (ed := ed') (ew := ew') (ep := ep') (ea := ea') (fun j hj => ?_), fun r h1 q => ?_⟩
      · obtain ⟨c1, c2, c3, c4, c5, c6, c7, c8, c9, c10⟩ := b4.2.2.2.2.2.1 j hj
        exact ⟨(v3 j hj).1, (v3 j hj).2, by omega, c7, c8, c9, by omega⟩
      · obtain ⟨rfl, T, rfl, hT⟩ := q
        refine ⟨nI 1, 1, by decide, rfl, by exact hs, q_Ct_post (fun r2 h2 q2 => ?_) (c_X10_restore_t l g _ (by exact hs) s hs3 (by exact z2))⟩
        obtain ⟨rfl, rfl⟩ := q2
        have eR : ∀ k, k < 1720 → q_cpy (fun k => q_I h 169 (1720 * s + k)) (q_I h 154) 1720 k = q_I h 169 (1720 * s + k) := fun k hk => cpy_at hk
        refine ⟨rfl, ⟨RS_up (RS_k (h := h) rfl aS), RT_k (h := h) rfl rfl rfl rfl aT, RP_k (h := h) rfl rfl aP, RW_k (h := h) rfl rfl aW, aZ, p, nm, nd, nc, mo, n, lv, LW, gu, RLW_k (h := h) rfl (fun r r1 r2 r3 r4 => by repeat (first | exact rfl | refine (q_Ine (by omega)).trans ?_)) rfl (fun r r1 r2 => by repeat (first | exact rfl | refine (q_Ine (by omega)).trans ?_)) aL, ?_, ?_, RH_up (RH_k (h := h) rfl (fun b hb => ⟨sl_k hb rfl, fun r r1 r2 => by have := hb.2.2.2.2.2.2.2.2.2.2; repeat (first | exact rfl | refine (q_Ine (by omega)).trans ?_)⟩) rfl rfl rfl aH), RD_k (h := h) rfl rfl rfl rfl rfl rfl aD⟩⟩
        · refine ⟨w', E', em', ed', ew', ep', ea', f', rw_up (rw_k eR b4), ⟨v1, v2, fun j hj => ?_, fun k hk => ?_, fun k hk => ?_⟩, fun k hk => ?_⟩
          · have e1 : q_cpy (q_I h (b + 4)) (q_I h 38) 300 j = q_I h (b + 4) j := cpy_at (by omega)
            have e2 : q_cpy (q_I h (b + 5)) (q_I h 39) 300 j = q_I h (b + 5) j := cpy_at (by omega)
            exact ⟨e1.trans (v3 j hj).1, e2.trans (v3 j hj).2⟩
          · have e1 : q_cpy (q_I h (b + 1)) (q_I h 35) 72 k = q_I h (b + 1) k := cpy_at hk
            exact e1.trans ((v4 k hk).trans (eR k (by omega)).symm)
          · have e1 : q_cpy (q_I h (b + 2)) (q_I h 36) 64 k = q_I h (b + 2) k := cpy_at hk
            exact e1.trans ((v5 k hk).trans (eR (72 + k) (by omega)).symm)
          · exact (hT k hk).trans ((b4.2.2.2.2.2.2.2.2.2 k hk).symm.trans (eR (136 + k) (by omega)).symm)
        · obtain ⟨u, x0, u1, u2, u3, u4, u5, S, u6, u7⟩ := aU
          exact ⟨0, x0, by decide, u2, rfl, rfl, u5, fun _ => q_cpy (fun k => q_I h 169 (1720 * s + k)) (q_I h 154) 1720, fun k hk => rfl, fun j hj => absurd hj (Nat.not_lt_zero _)⟩
  · exact q_2q hR  (d2 := 1) (by decide) (by decide) (q_Ct_d (c_X9_restore_f l g h hs hx)) (rfl) (fun h1 hk => by
    obtain ⟨hs1, aL1, er⟩ := rel_1 hk hs aL
    exact q_Ct_m (c_X10_restore_f l g h1 hs1 x hx))
