/-! what is done: the relation behind it -/
theorem keep_b (h : q_H) (u : Nat) : q_keep h u = q_kf h (if u = 25 then q_shf (q_I h 158) 41280 else q_I h 158) (if u = 25 then 24 else u) := by
  unfold q_keep
  by_cases q : u = 25
  · rw [if_pos q, if_pos q, if_pos q]
  · rw [if_neg q, if_neg q, if_neg q]
theorem kf_r {h : q_H} {S : Nat → Int32} {b r : Nat} (h1 : r ≠ 124) (h2 : r ≠ 154) (h3 : r ≠ 158) : q_I (q_kf h S b) r = q_I h r := (q_Ine h2).trans ((q_Ine h1).trans (q_Ine h3))
theorem kf_124 {h : q_H} {S : Nat → Int32} {b k : Nat} : q_I (q_kf h S b) 124 k = if k = 51 then nI (b + 1) else q_I h 124 k := rfl
theorem kf_154 {h : q_H} {S : Nat → Int32} {b : Nat} : q_I (q_kf h S b) 154 = q_cpy (q_I h 155) (q_I h 154) 1720 := rfl
theorem kf_158 {h : q_H} {S : Nat → Int32} {b : Nat} : q_I (q_kf h S b) 158 = q_put S (q_I h 154) (1720 * b) 1720 := rfl
theorem msc_f {r : Nat} (h : r < 126 ∨ (134 < r ∧ r < 151) ∨ 165 < r ∨ r = 154 ∨ r = 158) : q_msc r = false := by
  rw [← Bool.not_eq_true]
  intro q
  unfold q_msc at q
  simp only [Bool.or_eq_true, beq_iff_eq] at q
  omega
theorem RR_act {i : Nat} {h h1 h2 : q_H} {p nm nd nc mo n lv : Nat} {LW : q_LW} {gu : Nat → Nat} (aS : RS i h) (aT : RT h) (aP : RP h) (aW : RW h) (aZ : RZ h) (aL : RLW h p nm nd nc mo n lv LW gu) (aH : RH i h mo nm) (aD : RD h nm) {u x : Nat} (u1 : u ≤ 25) (u2 : x < 25) {S : Nat → Nat → Int32} (u6 : ∀ k, k < 1720 → S 0 k = q_I h 154 k)
  (u7 : ∀ j, j < u → (∀ k, k < 1720 → q_I h 158 (1720 * (u - 1 - j) + k) = S (j + 1) k) ∧ (∃ (w E : Nat) (em ed ew ep ea f : Nat → Nat), rw_ok i mo nm (S (j + 1)) w E em ed ew ep ea f) ∧ LK (q_I h) ((x + 24 - j) % 25) (S j) (S (j + 1)))
  (aN : RN i h mo nm) {da dv ap : Int32} (D : rk_did h x u h1 da dv ap) {R : Nat → Int32} (K : q_kept h1 u R h2)
  (new : ∃ (w E : Nat) (em ed ew ep ea f : Nat → Nat), rw_ok (i + 1) mo nm R w E em ed ew ep ea f ∧ sv_ok h1 34 35 36 38 39 R w E em ed ew ep ea ∧ ∀ k, k < 64 → q_I h1 37 k = R (136 + k)) (lk : LK (q_I h1) x R (q_I h 154)) : RR (i + 1) h2 := by
  obtain ⟨d1, d2, d3, d4, d5⟩ := D
  obtain ⟨hm, ⟨m1, m2, m3, m4⟩, m5, m6⟩ := K
  rw [keep_b] at m6
  generalize hb : (if u = 25 then 24 else u) = b at m6
  generalize hS : (if u = 25 then q_shf (q_I hm 158) 41280 else q_I hm 158) = H0 at m6
  have hbu : (u = 25 ∧ b = 24) ∨ (u < 25 ∧ b = u) := by
    by_cases q : u = 25
    · rw [if_pos q] at hb
      exact Or.inl ⟨q, hb.symm⟩
    · rw [if_neg q] at hb
      exact Or.inr ⟨by omega, hb.symm⟩
  have e3 : h2.2.2 = h.2.2 := by
    rw [m6]
    exact m4.trans (congrArg (fun z => z.2) d1)
  have rm : ∀ r, r ≠ 124 → r ≠ 154 → r ≠ 158 → q_msc r = false → q_I h2 r = q_I h1 r := fun r a1 a2 a3 a4 => by
    rw [m6, kf_r a1 a2 a3]
    exact m1 r a1 a4
  have rh : ∀ r, r ≠ 124 → r ≠ 154 → r ≠ 158 → (r < 126 ∨ (134 < r ∧ r < 151) ∨ 165 < r) → q_stl.contains r = false → r ≠ 42 → r ≠ 44 + 2 * x → r ≠ 45 + 2 * x → q_I h2 r = q_I h r := fun r a1 a2 a3 a4 a5 a6 a7 a8 => (rm r a1 a2 a3 (msc_f (by omega))).trans (d2 r a5 a6 a7 a8)
  have rhi : ∀ r, 94 ≤ r → r ≠ 124 → r ≠ 154 → r ≠ 158 → (r < 126 ∨ (134 < r ∧ r < 151) ∨ 165 < r) → q_I h2 r = q_I h r := fun r a0 a1 a2 a3 a4 => rh r a1 a2 a3 a4 (q_stl_f (by omega)) (by omega) (by omega) (by omega)
  have f124 : ∀ k, q_mfk k = false → k ≠ 51 → q_I h2 124 k = q_I h 124 k := fun k a1 a2 => by
    rw [m6, kf_124, if_neg a2, m2 k a1]
    exact congrFun (d2 124 rfl (by decide) (by omega) (by omega)) k
  have eJ : ∀ r, r ≠ 130 → r ≠ 132 → q_J h2 r = q_J h r := fun r a1 a2 => by
    rw [m6]
    exact (m3 r a1 a2).trans (congrArg (fun z => z.1 r) d1)
  have H1 : ∀ r, r ≤ 31 → 10 ≤ r → r ≠ 20 → r ≠ 21 → q_stl.contains r = false := by decide +kernel
  have hm154 : q_I hm 154 = q_I h 154 := (m1 154 (by decide) rfl).trans (d2 154 rfl (by decide) (by omega) (by omega))
  have hm158 : q_I hm 158 = q_I h 158 := (m1 158 (by decide) rfl).trans (d2 158 rfl (by decide) (by omega) (by omega))
  have eR : ∀ k, k < 1720 → q_I h2 154 k = R k := fun k hk => by
    rw [m6, kf_154, cpy_at hk, m5]
  obtain ⟨w, E, em, ed, ew, ep, ea, f, n1, n2, n3⟩ := new
  refine ⟨RS_up (RS_k e3 aS), RT_k (congrFun (rh 1 (by decide) (by decide) (by decide) (by decide) rfl (by decide) (by omega) (by omega)) 1) (f124 2 rfl (by decide)) (rh 2 (by decide) (by decide) (by decide) (by decide) rfl (by decide) (by omega) (by omega)) (rhi 125 (by decide) (by decide) (by decide) (by decide) (by decide)) aT, RP_k (rh 7 (by decide) (by decide) (by decide) (by decide) rfl (by decide) (by omega) (by omega)) (f124 17 rfl (by decide)) aP, RW_k (eJ 6 (by decide) (by decide)) (eJ 131 (by decide) (by decide)) aW, ⟨(congrFun (rhi 111 (by decide) (by decide) (by decide) (by decide) (by decide)) 0).trans aZ.1, (congrFun (rhi 112 (by decide) (by decide) (by decide) (by decide) (by decide)) 0).trans aZ.2.1, (congrFun (rhi 122 (by decide) (by decide) (by decide) (by decide) (by decide)) 0).trans aZ.2.2.1, (congrFun (rhi 123 (by decide) (by decide) (by decide) (by decide) (by decide)) 0).trans aZ.2.2.2⟩, p, nm, nd, nc, mo, n, lv, LW, gu, ?_, ?_, ?_, ?_, ?_⟩
  · exact RLW_k (congrArg (fun z => z.1 0) e3) (fun r r1 r2 r3 r4 => rh r (by omega) (by omega) (by omega) (by omega) (H1 r r2 r1 r3 r4) (by omega) (by omega) (by omega)) (f124 18 rfl (by decide)) (fun r r1 r2 => rhi r (by omega) (by omega) (by omega) (by omega) (by omega)) aL
  · have ri : ∀ r, 34 ≤ r → r ≤ 39 → q_I h2 r = q_I h1 r := fun r r1 r2 => rm r (by omega) (by omega) (by omega) (msc_f (by omega))
    exact ⟨w, E, em, ed, ew, ep, ea, f, rw_k eR n1, sv_k (ri 34 (by decide) (by decide)) (ri 35 (by decide) (by decide)) (ri 36 (by decide) (by decide)) (ri 38 (by decide) (by decide)) (ri 39 (by decide) (by decide)) eR n2, fun k hk => by rw [ri 37 (by decide) (by decide), eR _ (by omega)]; exact n3 k hk⟩
  · refine ⟨b + 1, (x + 1) % 25, by omega, Nat.mod_lt _ (by decide), ?_, ?_, ?_, fun j => match j with | 0 => R | j + 1 => S j, fun k hk => (eR k hk).symm, fun j hj => ?_⟩
    · rw [m6, kf_124, if_pos rfl]
    · rw [rm 42 (by decide) (by decide) (by decide) rfl, d4]
      refine congrArg nI ?_
      by_cases q : u < 25
      · rw [if_pos q]
        omega
      · rw [if_neg q]
        omega
    · rw [rm 42 (by decide) (by decide) (by decide) rfl, d3]
    · match j, hj with
      | 0, _ =>
        refine ⟨fun k hk => ?_, ?_, ?_⟩
        · show q_I h2 158 (1720 * (b + 1 - 1 - 0) + k) = S 0 k
          rw [m6, kf_158, hm154, u6 k hk]
          unfold q_put
          rw [if_pos (by omega)]
          exact congrArg _ (by omega)
        · obtain ⟨w', E', em', ed', ew', ep', ea', f', a1, -⟩ := aN
          exact ⟨w', E', em', ed', ew', ep', ea', f', rw_up (rw_k u6 a1)⟩
        · show LK (q_I h2) (((x + 1) % 25 + 24 - 0) % 25) R (S 0)
          rw [show ((x + 1) % 25 + 24 - 0) % 25 = x by omega]
          exact LK_k (rm _ (by omega) (by omega) (by omega) (msc_f (by omega))) (rm _ (by omega) (by omega) (by omega) (msc_f (by omega))) (fun _ _ => rfl) u6 lk
      | j + 1, hj =>
        obtain ⟨v1, ⟨w', E', em', ed', ew', ep', ea', f', v2⟩, v3⟩ := u7 j (by omega)
        refine ⟨fun k hk => ?_, ⟨w', E', em', ed', ew', ep', ea', f', rw_up v2⟩, ?_⟩
        · show q_I h2 158 (1720 * (b + 1 - 1 - (j + 1)) + k) = S (j + 1) k
          rw [m6, kf_158]
          unfold q_put
          rw [if_neg (by omega), ← hS, ← v1 k hk]
          by_cases q : u = 25
          · rw [if_pos q, hm158]
            unfold q_shf
            rw [if_pos (by omega)]
            exact congrArg _ (by omega)
          · rw [if_neg q, hm158]
            exact congrArg _ (by omega)
        · show LK (q_I h2) (((x + 1) % 25 + 24 - (j + 1)) % 25) (S j) (S (j + 1))
          have ey : ((x + 1) % 25 + 24 - (j + 1)) % 25 = (x + 24 - j) % 25 := by omega
          have hne : (x + 24 - j) % 25 ≠ x := by omega
          have hy : (x + 24 - j) % 25 < 25 := Nat.mod_lt _ (by decide)
          rw [ey]
          generalize (x + 24 - j) % 25 = y at *
          exact LK_k (rh _ (by omega) (by omega) (by omega) (by omega) (q_stl_f (by omega)) (by omega) (by omega) (by omega)) (rh _ (by omega) (by omega) (by omega) (by omega) (q_stl_f (by omega)) (by omega) (by omega) (by omega)) (fun _ _ => rfl) (fun _ _ => rfl) v3
  · exact RH_up (RH_k (congrArg (fun z => z.1 40) e3) (fun b hb => ⟨sl_k hb e3, fun r r1 r2 => by have := hb.2.2.2.2.2.2.2.2.2.2; exact rhi r (by omega) (by omega) (by omega) (by omega) (by omega)⟩) (rh 41 (by decide) (by decide) (by decide) (by decide) rfl (by decide) (by omega) (by omega)) (rhi 168 (by decide) (by decide) (by decide) (by decide) (by decide)) (rhi 169 (by decide) (by decide) (by decide) (by decide) (by decide)) aH)
  · exact RD_k (congrFun (rhi 94 (by decide) (by decide) (by decide) (by decide) (by decide)) 3) (f124 62 rfl (by decide)) (rhi 95 (by decide) (by decide) (by decide) (by decide) (by decide)) (rhi 96 (by decide) (by decide) (by decide) (by decide) (by decide)) (rhi 166 (by decide) (by decide) (by decide) (by decide) (by decide)) (rhi 167 (by decide) (by decide) (by decide) (by decide) (by decide)) aD
