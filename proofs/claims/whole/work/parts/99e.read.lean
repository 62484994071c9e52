/-! read: both sides alike -/
theorem sl_p {h h1 : q_H} {b : Nat} (a : sl_at h b) (eP : ∀ r, 170 ≤ r → q_P h1 r = q_P h r) (eT : q_T h1 = q_T h) (eL : q_L h1 = q_L h) (eN : q_N h1 = q_N h) : sl_at h1 b := by
  obtain ⟨a1, a2, a3, a4, a5, a6, a7, a8, a9, a10, a11⟩ := a
  have eS : ∀ r t n, q_Sh h r t n → q_Sh h1 r t n := fun r t n q => ⟨by rw [eN]; exact q.1, by rw [eT]; exact q.2.1, by rw [eL]; exact q.2.2⟩
  have e := eP b a11
  exact ⟨eS _ _ _ a1, by rw [e]; exact a2, by rw [e]; exact a3, by rw [e]; exact a4, by rw [e]; exact a5, by rw [e]; exact a6, eS _ _ _ a7, eS _ _ _ a8, eS _ _ _ a9, eS _ _ _ a10, a11⟩
theorem rd_x {sd : Nat} {h1 h2 : q_H} (a : q_rd sd h1 h2) : (∀ r, r < 124 ∨ 151 < r → q_I h2 r = q_I h1 r) ∧ ∀ k, 44 ≤ k → q_I h2 124 k = q_I h1 124 k :=
  ⟨fun r hr => funext (fun i => a.2.2 r i (by unfold q_os; omega) (by omega) (by omega) (by omega) (by omega) (by omega)), fun k hk => a.2.2 124 k (by unfold q_os; omega) (by omega) (by omega) (by omega) (by omega) (by omega)⟩
theorem RR_rf {i : Nat} {h h1 h2 : q_H} {p nm nd nc mo n lv : Nat} {LW : q_LW} {gu : Nat → Nat} (aS : RS i h) (aW : RW h) (aZ : RZ h) (aL : RLW h p nm nd nc mo n lv LW gu) (aN : RN i h mo nm) (aU : RU i h mo nm) (aH : RH i h mo nm) (aD : RD h nm) {K : q_TK} {r : Option Value} {e : Nat × Nat} (he : 1 ≤ e.1 ∧ e.1 ≤ 5) (A : cd_F K (32 - p) h h1 r e) (B : q_rd (1 - lv) h1 h2) (b2 : q_I h2 124 2 = nI 0) (b17 : q_I h2 124 17 = nI (tk_P K e.2)) : RR (i + 1) h2 := by
  obtain ⟨-, c1, c2, c3, c4, c5, c6⟩ := A
  obtain ⟨d1, d2⟩ := rd_x B
  have hs1 := cd_st c1 aS.1
  obtain ⟨f1, f2, f3, f4, f5, f6, f7, f8⟩ := c1
  obtain ⟨B1, B2, B3⟩ := B
  have hpp := aL.1.2.1
  have eN : q_N h2 = q_N h := (congrArg (fun z => z.2.2.2.1) B1).trans f3
  have eK : q_K h2 = q_K h := (congrArg (fun z => z.2.2.2.2) B1).trans f4
  have eP2 : q_P h2 = q_P h1 := congrArg (fun z => z.1) B1
  have eP : ∀ r, r ≠ 7 → q_P h2 r = q_P h r := fun r hr => by
    rw [eP2]
    by_cases q : r = 0
    · rw [q, c2]
    · exact f5 r hr q
  have rr : ∀ r, 7 < r → (r < 124 ∨ 151 < r) → (r < 32 - p ∨ 32 - p + 9 < r) → q_I h2 r = q_I h r := fun r a1 a2 a3 => (d1 r a2).trans (c3 r (by omega) (by omega) (by omega) (by omega) a3)
  have rq : ∀ r, 31 < r → (r < 124 ∨ 151 < r) → q_I h2 r = q_I h r := fun r a1 a2 => rr r (by omega) a2 (by omega)
  have r124 : ∀ k, 44 ≤ k → q_I h2 124 k = q_I h 124 k := fun k hk => (d2 k hk).trans (congrFun (c3 124 (by omega) (by omega) (by omega) (by omega) (by omega)) k)
  refine ⟨⟨q_Stat_3 B1 hs1, by rw [eN]; have := aS.2.1; omega, by rw [eK]; have := aS.2.2; omega⟩, ⟨0, by decide, by rw [d1 1 (by decide), c4], b2, fun k hk => absurd hk (Nat.not_lt_zero _)⟩, ?_, ⟨fun w hw => ?_, fun w hw => ?_⟩, ⟨(congrFun (rq 111 (by decide) (by decide)) 0).trans aZ.1, (congrFun (rq 112 (by decide) (by decide)) 0).trans aZ.2.1, (congrFun (rq 122 (by decide) (by decide)) 0).trans aZ.2.2.1, (congrFun (rq 123 (by decide) (by decide)) 0).trans aZ.2.2.2⟩, p, nm, nd, nc, mo, n, lv, LW, gu, ?_, ?_, ?_, ?_, ?_⟩
  · unfold RP
    rw [d1 7 (by decide), c5, c6, b17, if_neg (nI_ne0 (by omega) (by omega))]
  · rw [B2 6 (by decide) (by decide), f8 6 (by decide) (by decide) (by decide)]
    exact aW.1 w hw
  · rw [B2 131 (by decide) (by decide), f8 131 (by decide) (by decide) (by decide)]
    exact aW.2 w hw
  · exact RLW_f (eP 0 (by decide)) (fun r hr => rr r (by have := hr.1; omega) (by have := hr.2; omega) (by have := hr.1; have := hr.2; omega)) (fun r k a1 a2 a3 a4 a5 => (B3 r k a3 (fun q => a4 (by omega)) (fun q => a4 (by omega)) (fun q => a4 (by omega)) (fun q => a4 (by omega)) (by omega)).trans (congrFun (c3 r (by omega) (by omega) (by omega) (by omega) (by omega)) k)) aL
  · exact RN_up (RN_k (fun r a1 a2 => rq r (by omega) (by omega)) (rq 154 (by decide) (by decide)) aN)
  · exact RU_up (RU_k (r124 51 (by decide)) (rq 42 (by decide) (by decide)) (fun r a1 a2 => rq r (by omega) (by omega)) (rq 158 (by decide) (by decide)) (rq 154 (by decide) (by decide)) aU)
  · exact RH_up (RH_k (eP 40 (by decide)) (fun b hb => ⟨sl_p hb (fun r hr => eP r (by omega)) ((congrArg (fun z => z.2.1) B1).trans f1) ((congrArg (fun z => z.2.2.1) B1).trans f2) eN, fun r r1 r2 => by have := hb.2.2.2.2.2.2.2.2.2.2; exact rq r (by omega) (by omega)⟩) (rq 41 (by decide) (by decide)) (rq 168 (by decide) (by decide)) (rq 169 (by decide) (by decide)) aH)
  · exact RD_k (congrFun (rq 94 (by decide) (by decide)) 3) (r124 62 (by decide)) (rq 95 (by decide) (by decide)) (rq 96 (by decide) (by decide)) (rq 166 (by decide) (by decide)) (rq 167 (by decide) (by decide)) aD
theorem getD_le {l : List Nat} {b : Nat} (h : ∀ x ∈ l, x ≤ b) (i : Nat) : l.getD i 0 ≤ b := by
  by_cases q : i < l.length
  · have e : l.getD i 0 = l[i] := by simp [List.getD, q]
    rw [e]
    exact h _ (List.getElem_mem q)
  · have e : l.getD i 0 = 0 := by simp [List.getD, q]
    rw [e]
    exact Nat.zero_le _
def nR_f (f : List Nat) (m k : Nat) : Nat := if k % 9 = 0 ∧ k / 9 < m then f.getD (k / 9) 0 else 0
theorem nR_e {f : List Nat} {m k : Nat} : q_nR f m k = nI (nR_f f m k) := by
  unfold q_nR nR_f
  split <;> rfl
theorem nR_0 {f : List Nat} {m k : Nat} (h : ¬ (k % 9 = 0 ∧ k / 9 < m)) : nR_f f m k = 0 := if_neg h
theorem nR_ns {f : List Nat} {m : Nat} (hf : ∀ x ∈ f, x ≤ 999) : ∀ n, q_ns (nR_f f m) n ≤ 999 * ((n + 8) / 9)
  | 0 => by
    show 0 ≤ _
    exact Nat.zero_le _
  | n + 1 => by
    have ih := nR_ns (f := f) (m := m) hf n
    have hle := getD_le hf (n / 9)
    have e : q_ns (nR_f f m) (n + 1) = q_ns (nR_f f m) n + nR_f f m n := rfl
    rw [e]
    by_cases q : n % 9 = 0 ∧ n / 9 < m
    · have e2 : nR_f f m n = f.getD (n / 9) 0 := if_pos q
      rw [e2]
      omega
    · rw [nR_0 q]
      omega
theorem RR_rg {i : Nat} {h h1 h2 : q_H} {p nm nd nc mo n lv : Nat} {LW : q_LW} {gu : Nat → Nat} (aS : RS i h) (aW : RW h) (aZ : RZ h) (aL : RLW h p nm nd nc mo n lv LW gu) (aU : RU i h mo nm) (aH : RH i h mo nm) {r : Option Value} {s : q_PS} (hok : ps_ok s) (he : ps_e s = none) (A : cd_G (32 - p) p h h1 r s) (B : rd_G (1 - lv) h1 h2 s) : RR (i + 1) h2 := by
  obtain ⟨-, g1, g2, g3, g4, g5, g6, g7, g8, g9, g10, g11, g12, g13, g14, g15, n', v1, v2, v3, v4, v5, v6, v7, v8, v9, v10, v11, v12, v13, v14⟩ := A
  obtain ⟨k1, k2, k3, k4, k5, k6, k7, k8, k9, k10, k11, k12, k13, k14, k15, k16, k17, k18, k19, k20, k21, k22⟩ := B
  obtain ⟨ok1, ok2, ok3, ok4⟩ := hok.2 he
  have hs1 := cd_st g1 aS.1
  obtain ⟨f1, f2, f3, f4, f5, f6, f7, f8⟩ := g1
  have hpp := aL.1.2.1
  have hlv : lv < 2 := aL.2.2.1.2.1
  have eN : q_N h2 = q_N h := (congrArg (fun z => z.2.2.2.1) k1).trans f3
  have eK : q_K h2 = q_K h := (congrArg (fun z => z.2.2.2.2) k1).trans f4
  have eP2 : q_P h2 = q_P h1 := congrArg (fun z => z.1) k1
  have rq : ∀ r, r < 124 → q_I h2 r = q_I h1 r := fun r hr => k3 r (Or.inl hr)
  have big : ∀ r, 155 ≤ r → r ≠ 168 → q_I h2 r = q_I h r := fun r a1 a2 => (k3 r (Or.inr ⟨a1, a2⟩)).trans (g4 r (by omega) (by omega) (by omega) (by omega) (by omega) (by omega) (by omega) (by omega) (by omega) (by omega) (by omega) (by omega))
  have mid : ∀ r, 95 ≤ r → r < 124 → q_I h2 r = q_I h r := fun r a1 a2 => (rq r a2).trans (g4 r (by omega) (by omega) (by omega) (by omega) (by omega) (by omega) (by omega) (by omega) (by omega) (by omega) (by omega) (by omega))
  have rl : ∀ r, lwr (32 - p) r → q_I h2 r = q_I h1 r := fun r hr => rq r (by have := hr.2; omega)
  have rw_ : rw_ok (i + 1) (ps_o s) (ps_m s).length (q_I h2 154) 0 0 (fun _ => 0) (fun _ => 0) (fun _ => 0) (fun _ => 0) (fun _ => 0) (nR_f (ps_f s) (ps_m s).length) := by
    have e : ∀ k, k < 1720 → q_I h2 154 k = nI (nR_f (ps_f s) (ps_m s).length k) := fun k hk => (k9 k hk).trans nR_e
    have ez : ∀ k, 72 ≤ k → k < 1720 → q_I h2 154 k = nI 0 := fun k a1 a2 => by rw [e k a2, nR_0 (by omega)]
    refine ⟨ez 200 (by decide) (by decide), Nat.zero_le _, ez 201 (by decide) (by decide), Nat.zero_le _, fun k a1 a2 => ez k (by omega) (by omega), fun j hj => absurd hj (Nat.not_lt_zero _), fun k hk => e k (by omega), ?_, fun k a1 a2 => nR_0 (by omega), fun k hk => ez (136 + k) (by omega) (by omega)⟩
    exact Nat.le_trans (nR_ns ok2 72) (Nat.le_trans (by decide) (Nat.le_add_right 8000 _))
  obtain ⟨u, x0, u1, u2, u3, u4, u5, S, u6, u7⟩ := aU
  refine ⟨⟨q_Stat_3 k1 hs1, by rw [eN]; have := aS.2.1; omega, by rw [eK]; have := aS.2.2; omega⟩, ⟨0, by decide, by rw [rq 1 (by decide), g5], k4, fun k hk => absurd hk (Nat.not_lt_zero _)⟩, ?_, ⟨fun w hw => ?_, fun w hw => ?_⟩, ⟨(congrFun (mid 111 (by decide) (by decide)) 0).trans aZ.1, (congrFun (mid 112 (by decide) (by decide)) 0).trans aZ.2.1, (congrFun (mid 122 (by decide) (by decide)) 0).trans aZ.2.2.1, (congrFun (mid 123 (by decide) (by decide)) 0).trans aZ.2.2.2⟩, 32 - p, (ps_m s).length, (ps_d s).length, (ps_c s).length, ps_o s, n', 1 - lv, ps_L s, fun d => (ps_g s).getD d 0, ?_, ?_, ?_, ?_, ?_⟩
  · unfold RP
    rw [rq 7 (by decide), g6, if_pos (show (nI 0 : Int32) = 0 from rfl), k5]
  · rw [k2 6 (by decide) (by decide), f8 6 (by decide) (by decide) (by decide)]
    exact aW.1 w hw
  · rw [k2 131 (by decide) (by decide), f8 131 (by decide) (by decide) (by decide)]
    exact aW.2 w hw
  · refine ⟨⟨by rw [eP2]; exact g2, by omega, ?_, by omega, ?_, v10, ?_, v11, ?_, v9, ?_, ok1⟩, fun _ => rkL_k rl v14, ⟨k6, by omega, k11, v10, k12, v11, k13, v9, k14, ok1⟩, rm_rv (by omega) k22, by rw [eP2, g3, show 32 - (32 - p) = p by omega], fun d hd => ⟨?_, k20 d (by omega), getD_le ok3 d⟩, fun k hk => ?_, k22⟩
    · rw [rl _ ⟨by omega, by omega⟩]
      exact v2
    · rw [rl _ ⟨by omega, by omega⟩]
      exact v3
    · rw [rl _ ⟨by omega, by omega⟩]
      exact v4
    · rw [rl _ ⟨by omega, by omega⟩]
      exact v5
    · rw [rl _ ⟨by omega, by omega⟩]
      exact v6
    · rw [rl (32 - p + 4) ⟨by omega, by omega⟩]
      exact v12 d (by omega)
    · rw [rl (32 - p + 5) ⟨by omega, by omega⟩, v13 k hk, k21 k hk]
  · have er := rw_.2.2.2.2.2.2.1
    refine ⟨0, 0, _, _, _, _, _, _, rw_, ⟨?_, ?_, fun j hj => absurd hj (Nat.not_lt_zero _), fun k hk => ?_, fun k hk => ?_⟩, fun k hk => ?_⟩
    · rw [rq 34 (by decide), g8]
    · rw [rq 34 (by decide), g7]
    · rw [rq 35 (by decide), g9 k hk, k9 k (by omega)]
    · rw [rq 36 (by decide), g10 k hk, k9 (72 + k) (by omega), nR_e, nR_0 (by omega)]
    · rw [rq 37 (by decide), g11 k hk, k9 (136 + k) (by omega), nR_e, nR_0 (by omega)]
  · exact ⟨0, x0, by decide, u2, k7, by rw [rq 42 (by decide), g13], by rw [rq 42 (by decide), g14]; exact u5, fun _ => q_I h2 154, fun k hk => rfl, fun j hj => absurd hj (Nat.not_lt_zero _)⟩
  · have e40 : q_P h2 40 = q_P h 40 := by rw [eP2, f5 40 (by decide) (by decide)]
    refine ⟨fun t ht => ⟨?_, Or.inl ⟨?_, k10 t ht⟩⟩, by rw [e40]; exact aH.2⟩
    · rw [e40]
      rcases (aH.1 t ht).1 with a1 | ⟨b, b1, b2⟩
      · exact Or.inl a1
      · exact Or.inr ⟨b, b1, sl_p b2 (fun r hr => by rw [eP2, f5 r (by omega) (by omega)]) ((congrArg (fun z => z.2.1) k1).trans f1) ((congrArg (fun z => z.2.2.1) k1).trans f2) eN⟩
    · rw [rq 41 (by decide), g12 t ht]
  · exact ⟨0, by decide, by rw [rq 94 (by decide), g15], k8, fun j hj => absurd hj (Nat.not_lt_zero _)⟩
theorem cd_k {K : q_TK} {q p : Nat} {h h1 : q_H} {o : (Nat × Nat) ⊕ (q_PS × Nat)} {r : Option Value} (hs : q_Stat h) (hq : q = 10 ∨ q = 22) (A : cd_A K q p h o r h1) : q_Stat h1 ∧ (∀ r, 95 ≤ r → q_I h1 r = q_I h r) ∧ q_J h1 131 = q_J h 131 := by
  have F : ∀ e, cd_F K q h h1 r e → q_Stat h1 ∧ (∀ r, 95 ≤ r → q_I h1 r = q_I h r) ∧ q_J h1 131 = q_J h 131 := fun e a => ⟨cd_st a.2.1 hs, fun r hr => a.2.2.2.1 r (by omega) (by omega) (by omega) (by omega) (by omega), a.2.1.2.2.2.2.2.2.2 131 (by decide) (by decide) (by decide)⟩
  cases o with
  | inl e => exact F e A
  | inr x =>
    have A' : match ps_e x.1 with
      | some e => cd_F K q h h1 r e
      | none => cd_G q p h h1 r x.1 := A
    cases hx : ps_e x.1 with
    | some e =>
      rw [hx] at A'
      exact F e A'
    | none =>
      rw [hx] at A'
      exact ⟨cd_st A'.2.1 hs, fun r hr => A'.2.2.2.2.1 r (by omega) (by omega) (by omega) (by omega) (by omega) (by omega) (by omega) (by omega) (by omega) (by omega) (by omega) (by omega), A'.2.1.2.2.2.2.2.2.2 131 (by decide) (by decide) (by decide)⟩
theorem st_read (l : Launch) (g : q_GP) {i : Nat} {h : q_H} (hi : i ≤ 512) (hR : RR i h) {LL : Nat} {xs : Nat → Int32} (hX : q_GX g LL xs) : q_2 l g i h mX9_read [.ref 0] mX10_read [.ref 124] := by
  obtain ⟨aS, aT, aP, aW, aZ, p, nm, nd, nc, mo, n, lv, LW, gu, aL, aN, aU, aH, aD⟩ := id hR
  have hs := aS.1
  obtain ⟨hp, hLk, hm, hLm, aP3, aG, aC, aV⟩ := id aL
  have hnm : nm ≤ 8 := hp.2.2.2.2.2.1
  have hnd : nd ≤ 8 := hp.2.2.2.2.2.2.2.1
  have hq := rel_req aN
  have hC := sC_of aC
  obtain ⟨w, E, em, ed, ew, ep, ea, f, rw_, sv, tm⟩ := id aN
  have hwc : q_I h 34 6 = nI w := sv.1
  have hwr : q_I h 154 200 = nI w := rw_.1
  have hw2 : w < 2 ^ 19 := by have := rw_.2.1; omega
  have hw3 : w < 2 ^ 20 := by omega
  have hE1 : q_I h 34 5 = nI E := sv.2.1
  have hEr : q_I h 154 201 = nI E := rw_.2.2.1
  have hE2 : E ≤ 300 := rw_.2.2.2.1
  have hEE := rel_E (by omega) hnm rw_ sv
  have hrn := rw_.2.2.2.2.2.2.1
  have hns : q_ns f 72 < 2 ^ 30 := by have := rw_.2.2.2.2.2.2.2.1; omega
  have hs8 : ∀ k, k < 9 → q_s8 (q_cr h) (8 * k) = q_s8 (q_I h 154) (8 * k) := fun k hk => q_s8_rq hq (by omega)
  have hhv : ∀ k, k < 9 → q_s8 (q_I h 154) (8 * k) = nI (q_hv f k) ∧ q_hv f k < 2 ^ 30 := fun k hk => ⟨q_rn_s8 hrn hk, by have := q_hv_le f hk; omega⟩
  obtain ⟨t, t1, t2, t3, t4⟩ := id aT
  have hB : tb_B h t (fun i => tb_y (q_I h 2 i)) := ⟨t2, t1, fun i _ => tb_y_e _, fun i => tb_y_lt _⟩
  have hpp := hp.2.1
  have C : q_Ct l g 25 mX9_read [.ref 0] h (cd_A (tz_K t (fun i => tb_y (q_I h 2 i))) (32 - p) p h (tx_all (tz_K t (fun i => tb_y (q_I h 2 i))) 401 tx_0 0)) := by
    rcases hpp with rfl | rfl
    · exact c_X9_read22 l g h hs hB aW.1 hX hp.1 aP3
    · exact c_X9_read10 l g h hs hB aW.1 hX hp.1 aP3
  generalize hKK : tz_K t (fun i => tb_y (q_I h 2 i)) = K at C
  refine ⟨25, _, by decide, C, fun r h1 q => ?_⟩
  obtain ⟨hs1, e1, eJ1⟩ := cd_k hs (by omega) q
  have C2 := c_X10_read l g h1 hs1 (n := t) (lv := lv) (B := fun i => tb_y (q_I h 2 i)) (by rw [e1 124 (by decide)]; exact t3) t1 (fun i hi => by rw [e1 125 (by decide), ← t4 i hi]; exact tb_y_e _) (fun i => tb_y_lt _) (fun w hw => by rw [eJ1]; exact aW.2 w hw) (by rw [e1 124 (by decide)]; exact hm.1) hm.2.1
  rw [hKK] at C2
  have h12 : tx_12 (tx_all K 401 tx_0 0) := t12_all _ _ _
  have hps : ∀ x, tx_all K 401 tx_0 0 = .inr x → ps_ok x.1 := fun x hx => ps_all _ _ _ x ps_0 hx
  generalize tx_all K 401 tx_0 0 = o at q C2 h12 hps
  have FF : ∀ e : Nat × Nat, (1 ≤ e.1 ∧ e.1 ≤ 5) → cd_F K (32 - p) h h1 r e → q_Ct l g 7 mX10_read [.ref 124] h1 (fun r h2 => r = some (.int (nI e.1)) ∧ q_rd (1 - lv) h1 h2 ∧ q_I h2 124 2 = nI 0 ∧ q_I h2 124 17 = nI (tk_P K e.2) ∧ 1 ≤ e.1 ∧ e.1 ≤ 5) → ∃ (v : Int32) (d2 : Nat), d2 ≤ 40 ∧ r = some (.int v) ∧ q_Stat h1 ∧ q_Ct l g d2 mX10_read [.ref 124] h1 (fun r2 h2 => r2 = some (.int v) ∧ RR (i + 1) h2) := fun e he A D => ⟨nI e.1, 7, by decide, A.1, hs1, q_Ct_post (fun r2 h2 z => ⟨z.1, RR_rf aS aW aZ aL aN aU aH aD he A z.2.1 z.2.2.1 z.2.2.2.1⟩) D⟩
  cases o with
  | inl e => exact FF e (by have := h12 e rfl; omega) q C2
  | inr x =>
    have q' : match ps_e x.1 with
      | some e => cd_F K (32 - p) h h1 r e
      | none => cd_G (32 - p) p h h1 r x.1 := q
    have C3 : q_Ct l g 7 mX10_read [.ref 124] h1 (fun r h2 => match ps_e x.1 with
      | some e => r = some (.int (nI e.1)) ∧ q_rd (1 - lv) h1 h2 ∧ q_I h2 124 2 = nI 0 ∧ q_I h2 124 17 = nI (tk_P K e.2) ∧ 1 ≤ e.1 ∧ e.1 ≤ 5
      | none => r = some (.int (nI 0)) ∧ rd_G (1 - lv) h1 h2 x.1) := C2
    have hok := hps x rfl
    cases hx : ps_e x.1 with
    | some e =>
      rw [hx] at q' C3
      exact FF e (by have := hok.1 e hx; omega) q' C3
    | none =>
      rw [hx] at q' C3
      exact ⟨nI 0, 7, by decide, q'.1, hs1, q_Ct_post (fun r2 h2 z => ⟨z.1, RR_rg aS aW aZ aL aU aH hok hx q' z.2⟩) C3⟩
