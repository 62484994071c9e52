/-! the class: cold, all tells -/
/-- numbers of a cold so far -/
def q_cor (K : q_TK) (m p : Nat) (h0 h : q_H) (t : Nat) (c : List Nat) (e : Option (Nat × Nat)) : Prop := t ≤ m ∧ h.2 = h0.2 ∧ (∀ r, r ≠ 7 → r ≠ p → r ≠ p + 5 → q_I h r = q_I h0 r) ∧ (∀ j, j ≠ 5 → q_I h p j = q_I h0 p j) ∧ q_I h p 5 = nI c.length ∧ (∀ i, i < c.length → q_I h (p + 5) i = nI (c.getD i 0)) ∧ q_I h 7 4 = nI t ∧ q_I h 7 5 = q_kap (tk_T K t) ∧ q_lfv K (q_I h 7 9) (q_I h 7 10) e ∧ q_I h 7 7 = nI 0
theorem cor_fr {K : q_TK} {m p : Nat} {h0 h : q_H} {t : Nat} {c : List Nat} {e : Option (Nat × Nat)} (a : q_cor K m p h0 h t c e) : q_fr p h0 h := ⟨fun r x y => a.2.2.1 r x (by omega) (by omega), fun r _ _ => congrArg (fun z => z.1 r) a.2.1, congrArg (fun z => z.2) a.2.1⟩
theorem cor_R {K : q_TK} {m p t0 : Nat} {h0 h : q_H} {t : Nat} {c : List Nat} {e : Option (Nat × Nat)} (hp : p = 10 ∨ p = 22) (hR : ck_R h0 K m p t0) (a : q_cor K m p h0 h t c e) : ck_R h K m p t := ck_R_t hR (congrArg (fun z => z.2.1 7) a.2.1) (a.2.2.1 3 (by omega) (by omega) (by omega)) (a.2.2.1 4 (by omega) (by omega) (by omega)) (congrArg (fun z => z.1 5) a.2.1) a.1 a.2.2.2.2.2.2.1 a.2.2.2.2.2.2.2.1
def q_coA (K : q_TK) (m p : Nat) (h0 : q_H) (o : (Nat × Nat) ⊕ ((List Nat × Option (Nat × Nat)) × Nat)) (r : Option Value) (h : q_H) : Prop := match o with
  | .inl e => r = some (.int (nI 0)) ∧ q_fr p h0 h ∧ q_I h 7 7 = nI e.1 ∧ q_I h 7 8 = nI (tk_P K e.2)
  | .inr x => r = some (.int (nI 1)) ∧ q_cor K m p h0 h x.2 x.1.1 x.1.2 ∧ x.1.1.length ≤ 12
theorem v_cold10 {h h1 : q_H} {K : q_TK} {m n t : Nat} {s : q_PS} {c : List Nat} {e : Option (Nat × Nat)} (hV : ck_V h K 10 n s) (a : q_cor K m 10 h h1 t c e) (hc : c.length ≤ 12) : ck_V h1 K 10 n (ps_m s, ps_d s, ps_f s, ps_g s, c, ps_o s, ps_L s, e) := by
  obtain ⟨v2, v3, v4, v5, v6, v6b, vf, vg, vc, vF, vG, vC, vL, vN8, vN9, vE, v7⟩ := id hV
  obtain ⟨a1, a2, a3, a4, a5, a6, a7, a8, a9, a10⟩ := a
  have eJ : q_J h1 = q_J h := congrArg (fun z => z.1) a2
  exact ⟨(a4 2 (by decide)).trans v2, (a4 3 (by decide)).trans v3, (a4 4 (by decide)).trans v4, a5, (a4 6 (by decide)).trans v6, v6b, vf, vg, hc, fun i hi => (congrFun (a3 _ (by decide) (by decide) (by decide)) i).trans (vF i hi), fun i hi => (congrFun (a3 _ (by decide) (by decide) (by decide)) i).trans (vG i hi), a6,
    rk_L_c vL (Nat.le_refl _) (a3 _ (by decide) (by decide) (by decide)) (a3 _ (by decide) (by decide) (by decide)) (a3 _ (by decide) (by decide) (by decide)) (a3 _ (by decide) (by decide) (by decide)) (fun i _ => ⟨congrFun (a3 _ (by decide) (by decide) (by decide)) i, congrFun (a3 _ (by decide) (by decide) (by decide)) i⟩), ck_N_co vN8 (by rw [eJ]), ck_N_co vN9 (by rw [eJ]), a9, a10⟩
theorem q_lw_up_s {L : q_LW} {k : Nat} {w : q_lawT} : q_lw (tx_up L k (some w)) k = w := by
  unfold q_lw tx_up
  rw [if_pos rfl]
  rfl
theorem q_lw_up_n {L : q_LW} {k j : Nat} {w : q_lawT} (h : j ≠ k) : q_lw (tx_up L k (some w)) j = q_lw L j := by
  unfold q_lw tx_up
  rw [if_neg h]
theorem v_law10_6 {h hr h1 : q_H} {K : q_TK} {m n n' t' : Nat} {s : q_PS} {L : q_lawT} {e : Option (Nat × Nat)} {j : Nat} (hj : j < 8) (hV : ck_V h K 10 n s) (eR : ∀ r, r ≠ 7 → r ≠ 16 → q_I hr r = q_I h r) (ew : q_I hr 16 = upd (q_I h 16) j (nI n)) (eJ : q_J hr = q_J h) (el : q_lfv K (q_I hr 7 9) (q_I hr 7 10) e) (e0 : q_I hr 7 7 = nI 0) (hg : q_gs K m 10 n hr t' n' h1) (hc : q_cd (q_I h1 (10 + 1)) (q_I h1 (10 + 2)) n' n L.1 L.2) : ck_V h1 K 10 n' (tx_putL s (tx_up (ps_L s) (j) (some L)) e) := by
  obtain ⟨v2, v3, v4, v5, v6, v6b, vf, vg, vc, vF, vG, vC, vL, vN8, vN9, vE, v7⟩ := id hV
  obtain ⟨g0, g1, g2, g3, g4, g5, g6, g7, gz, g8⟩ := hg
  have hz : ∀ r, r ≠ 7 → r ≠ 16 → r ≠ 10 → r ≠ 10 + 1 → r ≠ 10 + 2 → q_I h1 r = q_I h r := fun r a1 a0 a2 a3 a4 => (g2 r a1 a2 a3 a4).trans (eR r a1 a0)
  have hP : ∀ j, j ≠ 2 → q_I h1 10 j = q_I h 10 j := fun j hj => (g6 j hj).trans (congrFun (eR 10 (by decide) (by decide)) j)
  have hk : ∀ i, i < n → q_I h1 (10 + 1) i = q_I h (10 + 1) i ∧ q_I h1 (10 + 2) i = q_I h (10 + 2) i := fun i hi => ⟨((g8 i hi).1).trans (congrFun (eR _ (by decide) (by decide)) i), ((g8 i hi).2).trans (congrFun (eR _ (by decide) (by decide)) i)⟩
  have eJ1 : q_J h1 = q_J h := (congrArg (fun z => z.1) g1).trans eJ
  have key : ∀ r k o, q_I h1 r k = q_I h r k → rk_at h 10 n r k o → rk_at h1 10 n' r k o := fun r k o er ⟨a, h1', h2⟩ => ⟨a, er.trans h1', q_cd_co2 gz hk _ _ _ h2⟩
  refine ⟨g7, (hP 3 (by decide)).trans v3, (hP 4 (by decide)).trans v4, (hP 5 (by decide)).trans v5, (hP 6 (by decide)).trans v6, v6b, vf, vg, vc, fun i hi => (congrFun (hz 13 (by decide) (by decide) (by decide) (by decide) (by decide)) i).trans (vF i hi), fun i hi => (congrFun (hz 14 (by decide) (by decide) (by decide) (by decide) (by decide)) i).trans (vG i hi), fun i hi => (congrFun (hz 15 (by decide) (by decide) (by decide) (by decide) (by decide)) i).trans (vC i hi), ?_, ck_N_co vN8 (by rw [eJ1]), ck_N_co vN9 (by rw [eJ1]), ?_, ?_⟩
  · show rk_L h1 10 n' (tx_up (ps_L s) (j) (some L))
    refine ⟨?_, ?_, ?_, ?_⟩
    · intro k hk'
      by_cases hkj : k = j
      · subst hkj
        rw [q_lw_up_s]
        refine ⟨n, ?_, hc⟩
        refine (congrFun (g2 16 (by decide) (by decide) (by decide) (by decide)) k).trans ?_
        rw [ew]
        exact pk_us
      · rw [q_lw_up_n (by omega)]
        refine key _ _ _ ?_ (vL.1 k hk')
        refine (congrFun (g2 16 (by decide) (by decide) (by decide) (by decide)) k).trans ?_
        rw [ew]
        exact pk_un hkj
    · intro k hk'
      rw [q_lw_up_n (by omega)]
      exact key _ _ _ (congrFun (hz 17 (by decide) (by decide) (by decide) (by decide) (by decide)) k) (vL.2.1 k hk')
    · rw [q_lw_up_n (by omega)]
      exact key _ _ _ (congrFun (hz 18 (by decide) (by decide) (by decide) (by decide) (by decide)) 0) (vL.2.2.1)
    · rw [q_lw_up_n (by omega)]
      exact key _ _ _ (congrFun (hz 19 (by decide) (by decide) (by decide) (by decide) (by decide)) 0) (vL.2.2.2)
  · rw [g3 9 (by decide) (by decide), g3 10 (by decide) (by decide)]
    exact el
  · exact (g3 7 (by decide) (by decide)).trans e0
theorem v_law10_7 {h hr h1 : q_H} {K : q_TK} {m n n' t' : Nat} {s : q_PS} {L : q_lawT} {e : Option (Nat × Nat)} {j : Nat} (hj : j < 8) (hV : ck_V h K 10 n s) (eR : ∀ r, r ≠ 7 → r ≠ 17 → q_I hr r = q_I h r) (ew : q_I hr 17 = upd (q_I h 17) j (nI n)) (eJ : q_J hr = q_J h) (el : q_lfv K (q_I hr 7 9) (q_I hr 7 10) e) (e0 : q_I hr 7 7 = nI 0) (hg : q_gs K m 10 n hr t' n' h1) (hc : q_cd (q_I h1 (10 + 1)) (q_I h1 (10 + 2)) n' n L.1 L.2) : ck_V h1 K 10 n' (tx_putL s (tx_up (ps_L s) (8 + j) (some L)) e) := by
  obtain ⟨v2, v3, v4, v5, v6, v6b, vf, vg, vc, vF, vG, vC, vL, vN8, vN9, vE, v7⟩ := id hV
  obtain ⟨g0, g1, g2, g3, g4, g5, g6, g7, gz, g8⟩ := hg
  have hz : ∀ r, r ≠ 7 → r ≠ 17 → r ≠ 10 → r ≠ 10 + 1 → r ≠ 10 + 2 → q_I h1 r = q_I h r := fun r a1 a0 a2 a3 a4 => (g2 r a1 a2 a3 a4).trans (eR r a1 a0)
  have hP : ∀ j, j ≠ 2 → q_I h1 10 j = q_I h 10 j := fun j hj => (g6 j hj).trans (congrFun (eR 10 (by decide) (by decide)) j)
  have hk : ∀ i, i < n → q_I h1 (10 + 1) i = q_I h (10 + 1) i ∧ q_I h1 (10 + 2) i = q_I h (10 + 2) i := fun i hi => ⟨((g8 i hi).1).trans (congrFun (eR _ (by decide) (by decide)) i), ((g8 i hi).2).trans (congrFun (eR _ (by decide) (by decide)) i)⟩
  have eJ1 : q_J h1 = q_J h := (congrArg (fun z => z.1) g1).trans eJ
  have key : ∀ r k o, q_I h1 r k = q_I h r k → rk_at h 10 n r k o → rk_at h1 10 n' r k o := fun r k o er ⟨a, h1', h2⟩ => ⟨a, er.trans h1', q_cd_co2 gz hk _ _ _ h2⟩
  refine ⟨g7, (hP 3 (by decide)).trans v3, (hP 4 (by decide)).trans v4, (hP 5 (by decide)).trans v5, (hP 6 (by decide)).trans v6, v6b, vf, vg, vc, fun i hi => (congrFun (hz 13 (by decide) (by decide) (by decide) (by decide) (by decide)) i).trans (vF i hi), fun i hi => (congrFun (hz 14 (by decide) (by decide) (by decide) (by decide) (by decide)) i).trans (vG i hi), fun i hi => (congrFun (hz 15 (by decide) (by decide) (by decide) (by decide) (by decide)) i).trans (vC i hi), ?_, ck_N_co vN8 (by rw [eJ1]), ck_N_co vN9 (by rw [eJ1]), ?_, ?_⟩
  · show rk_L h1 10 n' (tx_up (ps_L s) (8 + j) (some L))
    refine ⟨?_, ?_, ?_, ?_⟩
    · intro k hk'
      rw [q_lw_up_n (by omega)]
      exact key _ _ _ (congrFun (hz 16 (by decide) (by decide) (by decide) (by decide) (by decide)) k) (vL.1 k hk')
    · intro k hk'
      by_cases hkj : k = j
      · subst hkj
        rw [q_lw_up_s]
        refine ⟨n, ?_, hc⟩
        refine (congrFun (g2 17 (by decide) (by decide) (by decide) (by decide)) k).trans ?_
        rw [ew]
        exact pk_us
      · rw [q_lw_up_n (by omega)]
        refine key _ _ _ ?_ (vL.2.1 k hk')
        refine (congrFun (g2 17 (by decide) (by decide) (by decide) (by decide)) k).trans ?_
        rw [ew]
        exact pk_un hkj
    · rw [q_lw_up_n (by omega)]
      exact key _ _ _ (congrFun (hz 18 (by decide) (by decide) (by decide) (by decide) (by decide)) 0) (vL.2.2.1)
    · rw [q_lw_up_n (by omega)]
      exact key _ _ _ (congrFun (hz 19 (by decide) (by decide) (by decide) (by decide) (by decide)) 0) (vL.2.2.2)
  · rw [g3 9 (by decide) (by decide), g3 10 (by decide) (by decide)]
    exact el
  · exact (g3 7 (by decide) (by decide)).trans e0
theorem v_law10_8 {h hr h1 : q_H} {K : q_TK} {m n n' t' : Nat} {s : q_PS} {L : q_lawT} {e : Option (Nat × Nat)} (hV : ck_V h K 10 n s) (eR : ∀ r, r ≠ 7 → r ≠ 18 → q_I hr r = q_I h r) (ew : q_I hr 18 = upd (q_I h 18) 0 (nI n)) (eJ : q_J hr = q_J h) (el : q_lfv K (q_I hr 7 9) (q_I hr 7 10) e) (e0 : q_I hr 7 7 = nI 0) (hg : q_gs K m 10 n hr t' n' h1) (hc : q_cd (q_I h1 (10 + 1)) (q_I h1 (10 + 2)) n' n L.1 L.2) : ck_V h1 K 10 n' (tx_putL s (tx_up (ps_L s) (16) (some L)) e) := by
  obtain ⟨v2, v3, v4, v5, v6, v6b, vf, vg, vc, vF, vG, vC, vL, vN8, vN9, vE, v7⟩ := id hV
  obtain ⟨g0, g1, g2, g3, g4, g5, g6, g7, gz, g8⟩ := hg
  have hz : ∀ r, r ≠ 7 → r ≠ 18 → r ≠ 10 → r ≠ 10 + 1 → r ≠ 10 + 2 → q_I h1 r = q_I h r := fun r a1 a0 a2 a3 a4 => (g2 r a1 a2 a3 a4).trans (eR r a1 a0)
  have hP : ∀ j, j ≠ 2 → q_I h1 10 j = q_I h 10 j := fun j hj => (g6 j hj).trans (congrFun (eR 10 (by decide) (by decide)) j)
  have hk : ∀ i, i < n → q_I h1 (10 + 1) i = q_I h (10 + 1) i ∧ q_I h1 (10 + 2) i = q_I h (10 + 2) i := fun i hi => ⟨((g8 i hi).1).trans (congrFun (eR _ (by decide) (by decide)) i), ((g8 i hi).2).trans (congrFun (eR _ (by decide) (by decide)) i)⟩
  have eJ1 : q_J h1 = q_J h := (congrArg (fun z => z.1) g1).trans eJ
  have key : ∀ r k o, q_I h1 r k = q_I h r k → rk_at h 10 n r k o → rk_at h1 10 n' r k o := fun r k o er ⟨a, h1', h2⟩ => ⟨a, er.trans h1', q_cd_co2 gz hk _ _ _ h2⟩
  refine ⟨g7, (hP 3 (by decide)).trans v3, (hP 4 (by decide)).trans v4, (hP 5 (by decide)).trans v5, (hP 6 (by decide)).trans v6, v6b, vf, vg, vc, fun i hi => (congrFun (hz 13 (by decide) (by decide) (by decide) (by decide) (by decide)) i).trans (vF i hi), fun i hi => (congrFun (hz 14 (by decide) (by decide) (by decide) (by decide) (by decide)) i).trans (vG i hi), fun i hi => (congrFun (hz 15 (by decide) (by decide) (by decide) (by decide) (by decide)) i).trans (vC i hi), ?_, ck_N_co vN8 (by rw [eJ1]), ck_N_co vN9 (by rw [eJ1]), ?_, ?_⟩
  · show rk_L h1 10 n' (tx_up (ps_L s) (16) (some L))
    refine ⟨?_, ?_, ?_, ?_⟩
    · intro k hk'
      rw [q_lw_up_n (by omega)]
      exact key _ _ _ (congrFun (hz 16 (by decide) (by decide) (by decide) (by decide) (by decide)) k) (vL.1 k hk')
    · intro k hk'
      rw [q_lw_up_n (by omega)]
      exact key _ _ _ (congrFun (hz 17 (by decide) (by decide) (by decide) (by decide) (by decide)) k) (vL.2.1 k hk')
    · rw [q_lw_up_s]
      refine ⟨n, ?_, hc⟩
      refine (congrFun (g2 18 (by decide) (by decide) (by decide) (by decide)) 0).trans ?_
      rw [ew]
      exact pk_us
    · rw [q_lw_up_n (by omega)]
      exact key _ _ _ (congrFun (hz 19 (by decide) (by decide) (by decide) (by decide) (by decide)) 0) (vL.2.2.2)
  · rw [g3 9 (by decide) (by decide), g3 10 (by decide) (by decide)]
    exact el
  · exact (g3 7 (by decide) (by decide)).trans e0
theorem v_law10_9 {h hr h1 : q_H} {K : q_TK} {m n n' t' : Nat} {s : q_PS} {L : q_lawT} {e : Option (Nat × Nat)} (hV : ck_V h K 10 n s) (eR : ∀ r, r ≠ 7 → r ≠ 19 → q_I hr r = q_I h r) (ew : q_I hr 19 = upd (q_I h 19) 0 (nI n)) (eJ : q_J hr = q_J h) (el : q_lfv K (q_I hr 7 9) (q_I hr 7 10) e) (e0 : q_I hr 7 7 = nI 0) (hg : q_gs K m 10 n hr t' n' h1) (hc : q_cd (q_I h1 (10 + 1)) (q_I h1 (10 + 2)) n' n L.1 L.2) : ck_V h1 K 10 n' (tx_putL s (tx_up (ps_L s) (17) (some L)) e) := by
  obtain ⟨v2, v3, v4, v5, v6, v6b, vf, vg, vc, vF, vG, vC, vL, vN8, vN9, vE, v7⟩ := id hV
  obtain ⟨g0, g1, g2, g3, g4, g5, g6, g7, gz, g8⟩ := hg
  have hz : ∀ r, r ≠ 7 → r ≠ 19 → r ≠ 10 → r ≠ 10 + 1 → r ≠ 10 + 2 → q_I h1 r = q_I h r := fun r a1 a0 a2 a3 a4 => (g2 r a1 a2 a3 a4).trans (eR r a1 a0)
  have hP : ∀ j, j ≠ 2 → q_I h1 10 j = q_I h 10 j := fun j hj => (g6 j hj).trans (congrFun (eR 10 (by decide) (by decide)) j)
  have hk : ∀ i, i < n → q_I h1 (10 + 1) i = q_I h (10 + 1) i ∧ q_I h1 (10 + 2) i = q_I h (10 + 2) i := fun i hi => ⟨((g8 i hi).1).trans (congrFun (eR _ (by decide) (by decide)) i), ((g8 i hi).2).trans (congrFun (eR _ (by decide) (by decide)) i)⟩
  have eJ1 : q_J h1 = q_J h := (congrArg (fun z => z.1) g1).trans eJ
  have key : ∀ r k o, q_I h1 r k = q_I h r k → rk_at h 10 n r k o → rk_at h1 10 n' r k o := fun r k o er ⟨a, h1', h2⟩ => ⟨a, er.trans h1', q_cd_co2 gz hk _ _ _ h2⟩
  refine ⟨g7, (hP 3 (by decide)).trans v3, (hP 4 (by decide)).trans v4, (hP 5 (by decide)).trans v5, (hP 6 (by decide)).trans v6, v6b, vf, vg, vc, fun i hi => (congrFun (hz 13 (by decide) (by decide) (by decide) (by decide) (by decide)) i).trans (vF i hi), fun i hi => (congrFun (hz 14 (by decide) (by decide) (by decide) (by decide) (by decide)) i).trans (vG i hi), fun i hi => (congrFun (hz 15 (by decide) (by decide) (by decide) (by decide) (by decide)) i).trans (vC i hi), ?_, ck_N_co vN8 (by rw [eJ1]), ck_N_co vN9 (by rw [eJ1]), ?_, ?_⟩
  · show rk_L h1 10 n' (tx_up (ps_L s) (17) (some L))
    refine ⟨?_, ?_, ?_, ?_⟩
    · intro k hk'
      rw [q_lw_up_n (by omega)]
      exact key _ _ _ (congrFun (hz 16 (by decide) (by decide) (by decide) (by decide) (by decide)) k) (vL.1 k hk')
    · intro k hk'
      rw [q_lw_up_n (by omega)]
      exact key _ _ _ (congrFun (hz 17 (by decide) (by decide) (by decide) (by decide) (by decide)) k) (vL.2.1 k hk')
    · rw [q_lw_up_n (by omega)]
      exact key _ _ _ (congrFun (hz 18 (by decide) (by decide) (by decide) (by decide) (by decide)) 0) (vL.2.2.1)
    · rw [q_lw_up_s]
      refine ⟨n, ?_, hc⟩
      refine (congrFun (g2 19 (by decide) (by decide) (by decide) (by decide)) 0).trans ?_
      rw [ew]
      exact pk_us
  · rw [g3 9 (by decide) (by decide), g3 10 (by decide) (by decide)]
    exact el
  · exact (g3 7 (by decide) (by decide)).trans e0
theorem v_law10_n {h hr h1 : q_H} {K : q_TK} {m n n' t' : Nat} {s : q_PS} {L : q_lawT} {e : Option (Nat × Nat)} (hV : ck_V h K 10 n s) (eR : ∀ r, r ≠ 7 → q_I hr r = q_I h r) (eJ : q_J hr = q_J h) (el : q_lfv K (q_I hr 7 9) (q_I hr 7 10) e) (e0 : q_I hr 7 7 = nI 0) (hg : q_gs K m 10 n hr t' n' h1) (hc : q_cd (q_I h1 (10 + 1)) (q_I h1 (10 + 2)) n' n L.1 L.2) : ck_V h1 K 10 n' (tx_putL s (ps_L s) e) := by
  obtain ⟨v2, v3, v4, v5, v6, v6b, vf, vg, vc, vF, vG, vC, vL, vN8, vN9, vE, v7⟩ := id hV
  obtain ⟨g0, g1, g2, g3, g4, g5, g6, g7, gz, g8⟩ := hg
  have hz : ∀ r, r ≠ 7 → r ≠ 10 → r ≠ 10 + 1 → r ≠ 10 + 2 → q_I h1 r = q_I h r := fun r a1 a2 a3 a4 => (g2 r a1 a2 a3 a4).trans (eR r a1)
  have hP : ∀ j, j ≠ 2 → q_I h1 10 j = q_I h 10 j := fun j hj => (g6 j hj).trans (congrFun (eR 10 (by decide)) j)
  have hk : ∀ i, i < n → q_I h1 (10 + 1) i = q_I h (10 + 1) i ∧ q_I h1 (10 + 2) i = q_I h (10 + 2) i := fun i hi => ⟨((g8 i hi).1).trans (congrFun (eR _ (by decide)) i), ((g8 i hi).2).trans (congrFun (eR _ (by decide)) i)⟩
  have eJ1 : q_J h1 = q_J h := (congrArg (fun z => z.1) g1).trans eJ
  have key : ∀ r k o, q_I h1 r k = q_I h r k → rk_at h 10 n r k o → rk_at h1 10 n' r k o := fun r k o er ⟨a, h1', h2⟩ => ⟨a, er.trans h1', q_cd_co2 gz hk _ _ _ h2⟩
  refine ⟨g7, (hP 3 (by decide)).trans v3, (hP 4 (by decide)).trans v4, (hP 5 (by decide)).trans v5, (hP 6 (by decide)).trans v6, v6b, vf, vg, vc, fun i hi => (congrFun (hz 13 (by decide) (by decide) (by decide) (by decide)) i).trans (vF i hi), fun i hi => (congrFun (hz 14 (by decide) (by decide) (by decide) (by decide)) i).trans (vG i hi), fun i hi => (congrFun (hz 15 (by decide) (by decide) (by decide) (by decide)) i).trans (vC i hi), ?_, ck_N_co vN8 (by rw [eJ1]), ck_N_co vN9 (by rw [eJ1]), ?_, ?_⟩
  · show rk_L h1 10 n' (ps_L s)
    refine ⟨?_, ?_, ?_, ?_⟩
    · intro k hk'
      skip
      exact key _ _ _ (congrFun (hz 16 (by decide) (by decide) (by decide) (by decide)) k) (vL.1 k hk')
    · intro k hk'
      skip
      exact key _ _ _ (congrFun (hz 17 (by decide) (by decide) (by decide) (by decide)) k) (vL.2.1 k hk')
    · skip
      exact key _ _ _ (congrFun (hz 18 (by decide) (by decide) (by decide) (by decide)) 0) (vL.2.2.1)
    · skip
      exact key _ _ _ (congrFun (hz 19 (by decide) (by decide) (by decide) (by decide)) 0) (vL.2.2.2)
  · rw [g3 9 (by decide) (by decide), g3 10 (by decide) (by decide)]
    exact el
  · exact (g3 7 (by decide) (by decide)).trans e0
theorem v_cold22 {h h1 : q_H} {K : q_TK} {m n t : Nat} {s : q_PS} {c : List Nat} {e : Option (Nat × Nat)} (hV : ck_V h K 22 n s) (a : q_cor K m 22 h h1 t c e) (hc : c.length ≤ 12) : ck_V h1 K 22 n (ps_m s, ps_d s, ps_f s, ps_g s, c, ps_o s, ps_L s, e) := by
  obtain ⟨v2, v3, v4, v5, v6, v6b, vf, vg, vc, vF, vG, vC, vL, vN8, vN9, vE, v7⟩ := id hV
  obtain ⟨a1, a2, a3, a4, a5, a6, a7, a8, a9, a10⟩ := a
  have eJ : q_J h1 = q_J h := congrArg (fun z => z.1) a2
  exact ⟨(a4 2 (by decide)).trans v2, (a4 3 (by decide)).trans v3, (a4 4 (by decide)).trans v4, a5, (a4 6 (by decide)).trans v6, v6b, vf, vg, hc, fun i hi => (congrFun (a3 _ (by decide) (by decide) (by decide)) i).trans (vF i hi), fun i hi => (congrFun (a3 _ (by decide) (by decide) (by decide)) i).trans (vG i hi), a6,
    rk_L_c vL (Nat.le_refl _) (a3 _ (by decide) (by decide) (by decide)) (a3 _ (by decide) (by decide) (by decide)) (a3 _ (by decide) (by decide) (by decide)) (a3 _ (by decide) (by decide) (by decide)) (fun i _ => ⟨congrFun (a3 _ (by decide) (by decide) (by decide)) i, congrFun (a3 _ (by decide) (by decide) (by decide)) i⟩), ck_N_co vN8 (by rw [eJ]), ck_N_co vN9 (by rw [eJ]), a9, a10⟩
theorem v_law22_6 {h hr h1 : q_H} {K : q_TK} {m n n' t' : Nat} {s : q_PS} {L : q_lawT} {e : Option (Nat × Nat)} {j : Nat} (hj : j < 8) (hV : ck_V h K 22 n s) (eR : ∀ r, r ≠ 7 → r ≠ 28 → q_I hr r = q_I h r) (ew : q_I hr 28 = upd (q_I h 28) j (nI n)) (eJ : q_J hr = q_J h) (el : q_lfv K (q_I hr 7 9) (q_I hr 7 10) e) (e0 : q_I hr 7 7 = nI 0) (hg : q_gs K m 22 n hr t' n' h1) (hc : q_cd (q_I h1 (22 + 1)) (q_I h1 (22 + 2)) n' n L.1 L.2) : ck_V h1 K 22 n' (tx_putL s (tx_up (ps_L s) (j) (some L)) e) := by
  obtain ⟨v2, v3, v4, v5, v6, v6b, vf, vg, vc, vF, vG, vC, vL, vN8, vN9, vE, v7⟩ := id hV
  obtain ⟨g0, g1, g2, g3, g4, g5, g6, g7, gz, g8⟩ := hg
  have hz : ∀ r, r ≠ 7 → r ≠ 28 → r ≠ 22 → r ≠ 22 + 1 → r ≠ 22 + 2 → q_I h1 r = q_I h r := fun r a1 a0 a2 a3 a4 => (g2 r a1 a2 a3 a4).trans (eR r a1 a0)
  have hP : ∀ j, j ≠ 2 → q_I h1 22 j = q_I h 22 j := fun j hj => (g6 j hj).trans (congrFun (eR 22 (by decide) (by decide)) j)
  have hk : ∀ i, i < n → q_I h1 (22 + 1) i = q_I h (22 + 1) i ∧ q_I h1 (22 + 2) i = q_I h (22 + 2) i := fun i hi => ⟨((g8 i hi).1).trans (congrFun (eR _ (by decide) (by decide)) i), ((g8 i hi).2).trans (congrFun (eR _ (by decide) (by decide)) i)⟩
  have eJ1 : q_J h1 = q_J h := (congrArg (fun z => z.1) g1).trans eJ
  have key : ∀ r k o, q_I h1 r k = q_I h r k → rk_at h 22 n r k o → rk_at h1 22 n' r k o := fun r k o er ⟨a, h1', h2⟩ => ⟨a, er.trans h1', q_cd_co2 gz hk _ _ _ h2⟩
  refine ⟨g7, (hP 3 (by decide)).trans v3, (hP 4 (by decide)).trans v4, (hP 5 (by decide)).trans v5, (hP 6 (by decide)).trans v6, v6b, vf, vg, vc, fun i hi => (congrFun (hz 25 (by decide) (by decide) (by decide) (by decide) (by decide)) i).trans (vF i hi), fun i hi => (congrFun (hz 26 (by decide) (by decide) (by decide) (by decide) (by decide)) i).trans (vG i hi), fun i hi => (congrFun (hz 27 (by decide) (by decide) (by decide) (by decide) (by decide)) i).trans (vC i hi), ?_, ck_N_co vN8 (by rw [eJ1]), ck_N_co vN9 (by rw [eJ1]), ?_, ?_⟩
  · show rk_L h1 22 n' (tx_up (ps_L s) (j) (some L))
    refine ⟨?_, ?_, ?_, ?_⟩
    · intro k hk'
      by_cases hkj : k = j
      · subst hkj
        rw [q_lw_up_s]
        refine ⟨n, ?_, hc⟩
        refine (congrFun (g2 28 (by decide) (by decide) (by decide) (by decide)) k).trans ?_
        rw [ew]
        exact pk_us
      · rw [q_lw_up_n (by omega)]
        refine key _ _ _ ?_ (vL.1 k hk')
        refine (congrFun (g2 28 (by decide) (by decide) (by decide) (by decide)) k).trans ?_
        rw [ew]
        exact pk_un hkj
    · intro k hk'
      rw [q_lw_up_n (by omega)]
      exact key _ _ _ (congrFun (hz 29 (by decide) (by decide) (by decide) (by decide) (by decide)) k) (vL.2.1 k hk')
    · rw [q_lw_up_n (by omega)]
      exact key _ _ _ (congrFun (hz 30 (by decide) (by decide) (by decide) (by decide) (by decide)) 0) (vL.2.2.1)
    · rw [q_lw_up_n (by omega)]
      exact key _ _ _ (congrFun (hz 31 (by decide) (by decide) (by decide) (by decide) (by decide)) 0) (vL.2.2.2)
  · rw [g3 9 (by decide) (by decide), g3 10 (by decide) (by decide)]
    exact el
  · exact (g3 7 (by decide) (by decide)).trans e0
theorem v_law22_7 {h hr h1 : q_H} {K : q_TK} {m n n' t' : Nat} {s : q_PS} {L : q_lawT} {e : Option (Nat × Nat)} {j : Nat} (hj : j < 8) (hV : ck_V h K 22 n s) (eR : ∀ r, r ≠ 7 → r ≠ 29 → q_I hr r = q_I h r) (ew : q_I hr 29 = upd (q_I h 29) j (nI n)) (eJ : q_J hr = q_J h) (el : q_lfv K (q_I hr 7 9) (q_I hr 7 10) e) (e0 : q_I hr 7 7 = nI 0) (hg : q_gs K m 22 n hr t' n' h1) (hc : q_cd (q_I h1 (22 + 1)) (q_I h1 (22 + 2)) n' n L.1 L.2) : ck_V h1 K 22 n' (tx_putL s (tx_up (ps_L s) (8 + j) (some L)) e) := by
  obtain ⟨v2, v3, v4, v5, v6, v6b, vf, vg, vc, vF, vG, vC, vL, vN8, vN9, vE, v7⟩ := id hV
  obtain ⟨g0, g1, g2, g3, g4, g5, g6, g7, gz, g8⟩ := hg
  have hz : ∀ r, r ≠ 7 → r ≠ 29 → r ≠ 22 → r ≠ 22 + 1 → r ≠ 22 + 2 → q_I h1 r = q_I h r := fun r a1 a0 a2 a3 a4 => (g2 r a1 a2 a3 a4).trans (eR r a1 a0)
  have hP : ∀ j, j ≠ 2 → q_I h1 22 j = q_I h 22 j := fun j hj => (g6 j hj).trans (congrFun (eR 22 (by decide) (by decide)) j)
  have hk : ∀ i, i < n → q_I h1 (22 + 1) i = q_I h (22 + 1) i ∧ q_I h1 (22 + 2) i = q_I h (22 + 2) i := fun i hi => ⟨((g8 i hi).1).trans (congrFun (eR _ (by decide) (by decide)) i), ((g8 i hi).2).trans (congrFun (eR _ (by decide) (by decide)) i)⟩
  have eJ1 : q_J h1 = q_J h := (congrArg (fun z => z.1) g1).trans eJ
  have key : ∀ r k o, q_I h1 r k = q_I h r k → rk_at h 22 n r k o → rk_at h1 22 n' r k o := fun r k o er ⟨a, h1', h2⟩ => ⟨a, er.trans h1', q_cd_co2 gz hk _ _ _ h2⟩
  refine ⟨g7, (hP 3 (by decide)).trans v3, (hP 4 (by decide)).trans v4, (hP 5 (by decide)).trans v5, (hP 6 (by decide)).trans v6, v6b, vf, vg, vc, fun i hi => (congrFun (hz 25 (by decide) (by decide) (by decide) (by decide) (by decide)) i).trans (vF i hi), fun i hi => (congrFun (hz 26 (by decide) (by decide) (by decide) (by decide) (by decide)) i).trans (vG i hi), fun i hi => (congrFun (hz 27 (by decide) (by decide) (by decide) (by decide) (by decide)) i).trans (vC i hi), ?_, ck_N_co vN8 (by rw [eJ1]), ck_N_co vN9 (by rw [eJ1]), ?_, ?_⟩
  · show rk_L h1 22 n' (tx_up (ps_L s) (8 + j) (some L))
    refine ⟨?_, ?_, ?_, ?_⟩
    · intro k hk'
      rw [q_lw_up_n (by omega)]
      exact key _ _ _ (congrFun (hz 28 (by decide) (by decide) (by decide) (by decide) (by decide)) k) (vL.1 k hk')
    · intro k hk'
      by_cases hkj : k = j
      · subst hkj
        rw [q_lw_up_s]
        refine ⟨n, ?_, hc⟩
        refine (congrFun (g2 29 (by decide) (by decide) (by decide) (by decide)) k).trans ?_
        rw [ew]
        exact pk_us
      · rw [q_lw_up_n (by omega)]
        refine key _ _ _ ?_ (vL.2.1 k hk')
        refine (congrFun (g2 29 (by decide) (by decide) (by decide) (by decide)) k).trans ?_
        rw [ew]
        exact pk_un hkj
    · rw [q_lw_up_n (by omega)]
      exact key _ _ _ (congrFun (hz 30 (by decide) (by decide) (by decide) (by decide) (by decide)) 0) (vL.2.2.1)
    · rw [q_lw_up_n (by omega)]
      exact key _ _ _ (congrFun (hz 31 (by decide) (by decide) (by decide) (by decide) (by decide)) 0) (vL.2.2.2)
  · rw [g3 9 (by decide) (by decide), g3 10 (by decide) (by decide)]
    exact el
  · exact (g3 7 (by decide) (by decide)).trans e0
theorem v_law22_8 {h hr h1 : q_H} {K : q_TK} {m n n' t' : Nat} {s : q_PS} {L : q_lawT} {e : Option (Nat × Nat)} (hV : ck_V h K 22 n s) (eR : ∀ r, r ≠ 7 → r ≠ 30 → q_I hr r = q_I h r) (ew : q_I hr 30 = upd (q_I h 30) 0 (nI n)) (eJ : q_J hr = q_J h) (el : q_lfv K (q_I hr 7 9) (q_I hr 7 10) e) (e0 : q_I hr 7 7 = nI 0) (hg : q_gs K m 22 n hr t' n' h1) (hc : q_cd (q_I h1 (22 + 1)) (q_I h1 (22 + 2)) n' n L.1 L.2) : ck_V h1 K 22 n' (tx_putL s (tx_up (ps_L s) (16) (some L)) e) := by
  obtain ⟨v2, v3, v4, v5, v6, v6b, vf, vg, vc, vF, vG, vC, vL, vN8, vN9, vE, v7⟩ := id hV
  obtain ⟨g0, g1, g2, g3, g4, g5, g6, g7, gz, g8⟩ := hg
  have hz : ∀ r, r ≠ 7 → r ≠ 30 → r ≠ 22 → r ≠ 22 + 1 → r ≠ 22 + 2 → q_I h1 r = q_I h r := fun r a1 a0 a2 a3 a4 => (g2 r a1 a2 a3 a4).trans (eR r a1 a0)
  have hP : ∀ j, j ≠ 2 → q_I h1 22 j = q_I h 22 j := fun j hj => (g6 j hj).trans (congrFun (eR 22 (by decide) (by decide)) j)
  have hk : ∀ i, i < n → q_I h1 (22 + 1) i = q_I h (22 + 1) i ∧ q_I h1 (22 + 2) i = q_I h (22 + 2) i := fun i hi => ⟨((g8 i hi).1).trans (congrFun (eR _ (by decide) (by decide)) i), ((g8 i hi).2).trans (congrFun (eR _ (by decide) (by decide)) i)⟩
  have eJ1 : q_J h1 = q_J h := (congrArg (fun z => z.1) g1).trans eJ
  have key : ∀ r k o, q_I h1 r k = q_I h r k → rk_at h 22 n r k o → rk_at h1 22 n' r k o := fun r k o er ⟨a, h1', h2⟩ => ⟨a, er.trans h1', q_cd_co2 gz hk _ _ _ h2⟩
  refine ⟨g7, (hP 3 (by decide)).trans v3, (hP 4 (by decide)).trans v4, (hP 5 (by decide)).trans v5, (hP 6 (by decide)).trans v6, v6b, vf, vg, vc, fun i hi => (congrFun (hz 25 (by decide) (by decide) (by decide) (by decide) (by decide)) i).trans (vF i hi), fun i hi => (congrFun (hz 26 (by decide) (by decide) (by decide) (by decide) (by decide)) i).trans (vG i hi), fun i hi => (congrFun (hz 27 (by decide) (by decide) (by decide) (by decide) (by decide)) i).trans (vC i hi), ?_, ck_N_co vN8 (by rw [eJ1]), ck_N_co vN9 (by rw [eJ1]), ?_, ?_⟩
  · show rk_L h1 22 n' (tx_up (ps_L s) (16) (some L))
    refine ⟨?_, ?_, ?_, ?_⟩
    · intro k hk'
      rw [q_lw_up_n (by omega)]
      exact key _ _ _ (congrFun (hz 28 (by decide) (by decide) (by decide) (by decide) (by decide)) k) (vL.1 k hk')
    · intro k hk'
      rw [q_lw_up_n (by omega)]
      exact key _ _ _ (congrFun (hz 29 (by decide) (by decide) (by decide) (by decide) (by decide)) k) (vL.2.1 k hk')
    · rw [q_lw_up_s]
      refine ⟨n, ?_, hc⟩
      refine (congrFun (g2 30 (by decide) (by decide) (by decide) (by decide)) 0).trans ?_
      rw [ew]
      exact pk_us
    · rw [q_lw_up_n (by omega)]
      exact key _ _ _ (congrFun (hz 31 (by decide) (by decide) (by decide) (by decide) (by decide)) 0) (vL.2.2.2)
  · rw [g3 9 (by decide) (by decide), g3 10 (by decide) (by decide)]
    exact el
  · exact (g3 7 (by decide) (by decide)).trans e0
theorem v_law22_9 {h hr h1 : q_H} {K : q_TK} {m n n' t' : Nat} {s : q_PS} {L : q_lawT} {e : Option (Nat × Nat)} (hV : ck_V h K 22 n s) (eR : ∀ r, r ≠ 7 → r ≠ 31 → q_I hr r = q_I h r) (ew : q_I hr 31 = upd (q_I h 31) 0 (nI n)) (eJ : q_J hr = q_J h) (el : q_lfv K (q_I hr 7 9) (q_I hr 7 10) e) (e0 : q_I hr 7 7 = nI 0) (hg : q_gs K m 22 n hr t' n' h1) (hc : q_cd (q_I h1 (22 + 1)) (q_I h1 (22 + 2)) n' n L.1 L.2) : ck_V h1 K 22 n' (tx_putL s (tx_up (ps_L s) (17) (some L)) e) := by
  obtain ⟨v2, v3, v4, v5, v6, v6b, vf, vg, vc, vF, vG, vC, vL, vN8, vN9, vE, v7⟩ := id hV
  obtain ⟨g0, g1, g2, g3, g4, g5, g6, g7, gz, g8⟩ := hg
  have hz : ∀ r, r ≠ 7 → r ≠ 31 → r ≠ 22 → r ≠ 22 + 1 → r ≠ 22 + 2 → q_I h1 r = q_I h r := fun r a1 a0 a2 a3 a4 => (g2 r a1 a2 a3 a4).trans (eR r a1 a0)
  have hP : ∀ j, j ≠ 2 → q_I h1 22 j = q_I h 22 j := fun j hj => (g6 j hj).trans (congrFun (eR 22 (by decide) (by decide)) j)
  have hk : ∀ i, i < n → q_I h1 (22 + 1) i = q_I h (22 + 1) i ∧ q_I h1 (22 + 2) i = q_I h (22 + 2) i := fun i hi => ⟨((g8 i hi).1).trans (congrFun (eR _ (by decide) (by decide)) i), ((g8 i hi).2).trans (congrFun (eR _ (by decide) (by decide)) i)⟩
  have eJ1 : q_J h1 = q_J h := (congrArg (fun z => z.1) g1).trans eJ
  have key : ∀ r k o, q_I h1 r k = q_I h r k → rk_at h 22 n r k o → rk_at h1 22 n' r k o := fun r k o er ⟨a, h1', h2⟩ => ⟨a, er.trans h1', q_cd_co2 gz hk _ _ _ h2⟩
  refine ⟨g7, (hP 3 (by decide)).trans v3, (hP 4 (by decide)).trans v4, (hP 5 (by decide)).trans v5, (hP 6 (by decide)).trans v6, v6b, vf, vg, vc, fun i hi => (congrFun (hz 25 (by decide) (by decide) (by decide) (by decide) (by decide)) i).trans (vF i hi), fun i hi => (congrFun (hz 26 (by decide) (by decide) (by decide) (by decide) (by decide)) i).trans (vG i hi), fun i hi => (congrFun (hz 27 (by decide) (by decide) (by decide) (by decide) (by decide)) i).trans (vC i hi), ?_, ck_N_co vN8 (by rw [eJ1]), ck_N_co vN9 (by rw [eJ1]), ?_, ?_⟩
  · show rk_L h1 22 n' (tx_up (ps_L s) (17) (some L))
    refine ⟨?_, ?_, ?_, ?_⟩
    · intro k hk'
      rw [q_lw_up_n (by omega)]
      exact key _ _ _ (congrFun (hz 28 (by decide) (by decide) (by decide) (by decide) (by decide)) k) (vL.1 k hk')
    · intro k hk'
      rw [q_lw_up_n (by omega)]
      exact key _ _ _ (congrFun (hz 29 (by decide) (by decide) (by decide) (by decide) (by decide)) k) (vL.2.1 k hk')
    · rw [q_lw_up_n (by omega)]
      exact key _ _ _ (congrFun (hz 30 (by decide) (by decide) (by decide) (by decide) (by decide)) 0) (vL.2.2.1)
    · rw [q_lw_up_s]
      refine ⟨n, ?_, hc⟩
      refine (congrFun (g2 31 (by decide) (by decide) (by decide) (by decide)) 0).trans ?_
      rw [ew]
      exact pk_us
  · rw [g3 9 (by decide) (by decide), g3 10 (by decide) (by decide)]
    exact el
  · exact (g3 7 (by decide) (by decide)).trans e0
theorem v_law22_n {h hr h1 : q_H} {K : q_TK} {m n n' t' : Nat} {s : q_PS} {L : q_lawT} {e : Option (Nat × Nat)} (hV : ck_V h K 22 n s) (eR : ∀ r, r ≠ 7 → q_I hr r = q_I h r) (eJ : q_J hr = q_J h) (el : q_lfv K (q_I hr 7 9) (q_I hr 7 10) e) (e0 : q_I hr 7 7 = nI 0) (hg : q_gs K m 22 n hr t' n' h1) (hc : q_cd (q_I h1 (22 + 1)) (q_I h1 (22 + 2)) n' n L.1 L.2) : ck_V h1 K 22 n' (tx_putL s (ps_L s) e) := by
  obtain ⟨v2, v3, v4, v5, v6, v6b, vf, vg, vc, vF, vG, vC, vL, vN8, vN9, vE, v7⟩ := id hV
  obtain ⟨g0, g1, g2, g3, g4, g5, g6, g7, gz, g8⟩ := hg
  have hz : ∀ r, r ≠ 7 → r ≠ 22 → r ≠ 22 + 1 → r ≠ 22 + 2 → q_I h1 r = q_I h r := fun r a1 a2 a3 a4 => (g2 r a1 a2 a3 a4).trans (eR r a1)
  have hP : ∀ j, j ≠ 2 → q_I h1 22 j = q_I h 22 j := fun j hj => (g6 j hj).trans (congrFun (eR 22 (by decide)) j)
  have hk : ∀ i, i < n → q_I h1 (22 + 1) i = q_I h (22 + 1) i ∧ q_I h1 (22 + 2) i = q_I h (22 + 2) i := fun i hi => ⟨((g8 i hi).1).trans (congrFun (eR _ (by decide)) i), ((g8 i hi).2).trans (congrFun (eR _ (by decide)) i)⟩
  have eJ1 : q_J h1 = q_J h := (congrArg (fun z => z.1) g1).trans eJ
  have key : ∀ r k o, q_I h1 r k = q_I h r k → rk_at h 22 n r k o → rk_at h1 22 n' r k o := fun r k o er ⟨a, h1', h2⟩ => ⟨a, er.trans h1', q_cd_co2 gz hk _ _ _ h2⟩
  refine ⟨g7, (hP 3 (by decide)).trans v3, (hP 4 (by decide)).trans v4, (hP 5 (by decide)).trans v5, (hP 6 (by decide)).trans v6, v6b, vf, vg, vc, fun i hi => (congrFun (hz 25 (by decide) (by decide) (by decide) (by decide)) i).trans (vF i hi), fun i hi => (congrFun (hz 26 (by decide) (by decide) (by decide) (by decide)) i).trans (vG i hi), fun i hi => (congrFun (hz 27 (by decide) (by decide) (by decide) (by decide)) i).trans (vC i hi), ?_, ck_N_co vN8 (by rw [eJ1]), ck_N_co vN9 (by rw [eJ1]), ?_, ?_⟩
  · show rk_L h1 22 n' (ps_L s)
    refine ⟨?_, ?_, ?_, ?_⟩
    · intro k hk'
      skip
      exact key _ _ _ (congrFun (hz 28 (by decide) (by decide) (by decide) (by decide)) k) (vL.1 k hk')
    · intro k hk'
      skip
      exact key _ _ _ (congrFun (hz 29 (by decide) (by decide) (by decide) (by decide)) k) (vL.2.1 k hk')
    · skip
      exact key _ _ _ (congrFun (hz 30 (by decide) (by decide) (by decide) (by decide)) 0) (vL.2.2.1)
    · skip
      exact key _ _ _ (congrFun (hz 31 (by decide) (by decide) (by decide) (by decide)) 0) (vL.2.2.2)
  · rw [g3 9 (by decide) (by decide), g3 10 (by decide) (by decide)]
    exact el
  · exact (g3 7 (by decide) (by decide)).trans e0
theorem co_out10 (l : Launch) (g : q_GP) (h : q_H) {d i : Nat} (hi : i ≤ 13) {Q : Option Value → q_H → Prop} (q : Q (some (.int (nI 0))) h) : q_Ex l g d mX5_takeCold 18 [(0, .ref 7), (1, .int (nI 0)), (2, .int (nI i))] [] h Q := by
  refine xe_iload_n dX5_takeCold_18 rfl ?_
  refine xe_bipush dX5_takeCold_19 kb_12 ?_
  refine xn_icmp_gt (tgt := 92) dX5_takeCold_21 rfl (by omega) (by omega) (fun c1 => ?_) (fun c1 => ?_)
  · refine xe_iload_n dX5_takeCold_92 rfl ?_
    refine xn_if_eq (tgt := 109) dX5_takeCold_93 rfl (by omega) (fun c2 => ?_) (fun c2 => ?_)
    · refine xe_iconst dX5_takeCold_109 kc_0 ?_
      refine xe_ireturn dX5_takeCold_110 rfl (by first | rfl | decide +kernel) ?_
      exact q
    · omega
  · refine xe_iload_n dX5_takeCold_24 rfl ?_
    refine xn_if_eq (tgt := 92) dX5_takeCold_25 rfl (by omega) (fun c3 => ?_) (fun c3 => ?_)
    · refine xe_iload_n dX5_takeCold_92 rfl ?_
      refine xn_if_eq (tgt := 109) dX5_takeCold_93 rfl (by omega) (fun c4 => ?_) (fun c4 => ?_)
      · refine xe_iconst dX5_takeCold_109 kc_0 ?_
        refine xe_ireturn dX5_takeCold_110 rfl (by first | rfl | decide +kernel) ?_
        exact q
      · omega
    · omega
theorem co_loop10 (l : Launch) (g : q_GP) {K : q_TK} {m t0 : Nat} {h0 : q_H} (hR0 : ck_R h0 K m 10 t0) : ∀ (k : Nat) (c : List Nat) (e : Option (Nat × Nat)) (t : Nat) (h : q_H), q_Stat h → c.length + k = 12 → q_cor K m 10 h0 h t c e → q_Ex l g 2 mX5_takeCold 18 [(0, .ref 7), (1, .int (nI 1)), (2, .int (nI c.length))] [] h (q_coA K m 10 h0 (tx_co K k c e t)) := by
  intro k
  induction k with
  | zero =>
    intro c e t h hs hck ha
    have hR := cor_R (by decide) hR0 ha
    have hI2 := hR.1
    have hI3 := hR.2.1
    have h4 := hR.2.2.2.2.1
    have h5 := hR.2.2.2.2.2
    have h4m := hR.2.2.1.1
    have htm := hR.2.2.2.1
    have hok := (hR.2.2.1.2.2 t htm).1
    obtain ⟨a1, a2, a3, a4, a5, a6, a7, a8, a9, a10⟩ := id ha
    have hfr := cor_fr ha
    rw [tx_co]
    by_cases h2 : tk_T K t = 2
    · rw [if_pos h2]
      have hk5 : q_I h 7 5 = nI 2 := h5.trans (by rw [h2]; rfl)
      refine xe_iload_n dX5_takeCold_18 rfl ?_
      refine xe_bipush dX5_takeCold_19 kb_12 ?_
      refine xn_icmp_gt (tgt := 92) dX5_takeCold_21 rfl (by omega) (by omega) (fun c1 => ?_) (fun c1 => ?_)
      · omega
      · refine xe_iload_n dX5_takeCold_24 rfl ?_
        refine xn_if_eq (tgt := 92) dX5_takeCold_25 rfl (by omega) (fun c2 => ?_) (fun c2 => ?_)
        · omega
        · refine xe_aload_n dX5_takeCold_28 rfl ?_
          refine xe_getIv dX5_takeCold_29 flX5_41 (st7 hs) (by decide) rfl (v := nI 2) (hk5) ?_
          refine xe_iconst dX5_takeCold_32 kc_2 ?_
          refine xn_icmp_ne (tgt := 92) dX5_takeCold_33 rfl (by omega) (by omega) (fun c3 => ?_) (fun c3 => ?_)
          · omega
          · refine xe_iload_n dX5_takeCold_36 rfl ?_
            refine xe_bipush dX5_takeCold_37 kb_12 ?_
            refine xn_icmp_ge (tgt := 53) dX5_takeCold_39 rfl (by omega) (by omega) (fun c4 => ?_) (fun c4 => ?_)
            · refine xe_aload_n dX5_takeCold_53 rfl ?_
              refine xe_iconst dX5_takeCold_54 kc_2 ?_
              refine xe_callVI (d' := 0) (y' := mX5_fail) dX5_takeCold_55 mlX5_119 mvX5_fail rfl (st7 hs) (by decide) rfl (by decide) (by decide) (Nat.le_of_ble_eq_true rfl) (c_X5_fail l g _ (by exact hs) (p := 10) (t := t) (by refine ck_R_t (t' := t) hR ?_ ?_ ?_ ?_ (by omega) ?_ ?_ <;> first | exact rfl | exact h4 | exact h5) _) rfl ?_
              refine xe_istore_n (i := 1) dX5_takeCold_58 rfl (by decide) rfl ?_
              refine xe_iload_n dX5_takeCold_59 rfl ?_
              refine xn_if_eq (tgt := 86) dX5_takeCold_60 rfl (by omega) (fun c5 => ?_) (fun c5 => ?_)
              · refine xn_iinc dX5_takeCold_86 rfl kc_1 ?_
                refine xe_goto (tgt := 18) dX5_takeCold_89 rfl ?_
                refine xe_locals (L' := [(0, .ref 7), (1, .int (nI 0)), (2, .int (nI (c.length + 1)))]) (And.intro rfl (And.intro rfl (And.intro rfl trivial))) ?_
                exact co_out10 l g _ (by omega) ⟨rfl, (by repeat (first | exact hfr | refine fr_I (by decide) ?_ | refine fr_J (by decide) ?_)), rfl, rfl⟩
              · refine xe_aload_n dX5_takeCold_63 rfl ?_
                refine xe_getP dX5_takeCold_64 flX5_26 (st7 hs) (by decide) rfl hI3 ?_
                refine xe_getP dX5_takeCold_67 flX5_138 (st10 hs) (by decide) rfl (sp10_9 hs) ?_
                refine xe_iload_n dX5_takeCold_70 rfl ?_
                refine xe_aload_n dX5_takeCold_71 rfl ?_
                refine xe_getIv dX5_takeCold_72 flX5_70 (st7 hs) (by decide) rfl (v := (q_I h 7 6)) (rfl) ?_
                refine xn_iast dX5_takeCold_75 (st15 hs) (by omega) (by decide) ?_
                refine xe_aload_n dX5_takeCold_76 rfl ?_
                refine xe_getP dX5_takeCold_77 flX5_26 (st7 hs) (by decide) rfl hI3 ?_
                refine xe_iload_n dX5_takeCold_80 rfl ?_
                refine xe_iconst dX5_takeCold_81 kc_1 ?_
                refine xn_iadd dX5_takeCold_82 ?_
                refine xe_putI dX5_takeCold_83 flX5_135 (st10 hs) (by decide) rfl (Or.inl rfl) rfl rfl ?_
                refine xn_iinc dX5_takeCold_86 rfl kc_1 ?_
                refine xe_goto (tgt := 18) dX5_takeCold_89 rfl ?_
                refine xe_locals (L' := [(0, .ref 7), (1, .int (nI 0)), (2, .int (nI (c.length + 1)))]) (And.intro rfl (And.intro rfl (And.intro rfl trivial))) ?_
                exact co_out10 l g _ (by omega) ⟨rfl, (by repeat (first | exact hfr | refine fr_I (by decide) ?_ | refine fr_J (by decide) ?_)), rfl, rfl⟩
            · omega
    · skip
      rw [if_neg h2]
      cases k1 : tx_ck (tk_T K) 4 t with
      | some er =>
        refine xe_iload_n dX5_takeCold_18 rfl ?_
        refine xe_bipush dX5_takeCold_19 kb_12 ?_
        refine xn_icmp_gt (tgt := 92) dX5_takeCold_21 rfl (by omega) (by omega) (fun c1 => ?_) (fun c1 => ?_)
        · omega
        · refine xe_iload_n dX5_takeCold_24 rfl ?_
          refine xn_if_eq (tgt := 92) dX5_takeCold_25 rfl (by omega) (fun c2 => ?_) (fun c2 => ?_)
          · omega
          · refine xe_aload_n dX5_takeCold_28 rfl ?_
            refine xe_getIv dX5_takeCold_29 flX5_41 (st7 hs) (by decide) rfl (v := (q_kap (tk_T K t))) (h5) ?_
            refine xe_iconst dX5_takeCold_32 kc_2 ?_
            refine xe_icmp_ne (tgt := 92) dX5_takeCold_33 rfl (fun c3 => ?_) (fun c3 => ?_)
            · refine xe_iload_n dX5_takeCold_92 rfl ?_
              refine xn_if_eq (tgt := 109) dX5_takeCold_93 rfl (by omega) (fun c4 => ?_) (fun c4 => ?_)
              · omega
              · refine xe_aload_n dX5_takeCold_96 rfl ?_
                refine xe_bipush dX5_takeCold_97 kb_59 ?_
                refine xe_callVI (d' := 0) (y' := mX5_take) dX5_takeCold_99 mlX5_63 mvX5_take rfl (st7 hs) (by decide) rfl (by decide) (by decide) (Nat.le_of_ble_eq_true rfl) (c_X5_take_f l g _ (by exact hs) (p := 10) (t := t) (by refine ck_R_t (t' := t) hR ?_ ?_ ?_ ?_ (by omega) ?_ ?_ <;> first | exact rfl | exact h4 | exact h5) (k := 4) (by decide) (by decide) k1) rfl ?_
                refine xn_if_eq (tgt := 109) dX5_takeCold_102 rfl (by omega) (fun c5 => ?_) (fun c5 => ?_)
                · refine xe_iconst dX5_takeCold_109 kc_0 ?_
                  refine xe_ireturn dX5_takeCold_110 rfl (by first | rfl | decide +kernel) ?_
                  exact ⟨rfl, (by repeat (first | exact hfr | refine fr_I (by decide) ?_ | refine fr_J (by decide) ?_)), rfl, rfl⟩
                · omega
            · exact absurd (q_kap_inj (b := 2) hok (by decide) (by decide) c3) h2
      | none =>
        have go1 := ck_gn hR.2.2.1 (show t ≤ m by omega) k1 (by decide) (by decide)
        refine xe_iload_n dX5_takeCold_18 rfl ?_
        refine xe_bipush dX5_takeCold_19 kb_12 ?_
        refine xn_icmp_gt (tgt := 92) dX5_takeCold_21 rfl (by omega) (by omega) (fun c1 => ?_) (fun c1 => ?_)
        · omega
        · refine xe_iload_n dX5_takeCold_24 rfl ?_
          refine xn_if_eq (tgt := 92) dX5_takeCold_25 rfl (by omega) (fun c2 => ?_) (fun c2 => ?_)
          · omega
          · refine xe_aload_n dX5_takeCold_28 rfl ?_
            refine xe_getIv dX5_takeCold_29 flX5_41 (st7 hs) (by decide) rfl (v := (q_kap (tk_T K t))) (h5) ?_
            refine xe_iconst dX5_takeCold_32 kc_2 ?_
            refine xe_icmp_ne (tgt := 92) dX5_takeCold_33 rfl (fun c3 => ?_) (fun c3 => ?_)
            · refine xe_iload_n dX5_takeCold_92 rfl ?_
              refine xn_if_eq (tgt := 109) dX5_takeCold_93 rfl (by omega) (fun c4 => ?_) (fun c4 => ?_)
              · omega
              · refine xe_aload_n dX5_takeCold_96 rfl ?_
                refine xe_bipush dX5_takeCold_97 kb_59 ?_
                refine xe_callVI (d' := 0) (y' := mX5_take) dX5_takeCold_99 mlX5_63 mvX5_take rfl (st7 hs) (by decide) rfl (by decide) (by decide) (Nat.le_of_ble_eq_true rfl) (c_X5_take_t l g _ (by exact hs) (p := 10) (t := t) (by refine ck_R_t (t' := t) hR ?_ ?_ ?_ ?_ (by omega) ?_ ?_ <;> first | exact rfl | exact h4 | exact h5) (k := 4) (by decide) (by decide) (by decide) k1) rfl ?_
                refine xn_if_eq (tgt := 109) dX5_takeCold_102 rfl (by omega) (fun c5 => ?_) (fun c5 => ?_)
                · omega
                · refine xe_iconst dX5_takeCold_105 kc_1 ?_
                  refine xe_goto (tgt := 110) dX5_takeCold_106 rfl ?_
                  refine xe_ireturn dX5_takeCold_110 rfl (by first | rfl | decide +kernel) ?_
                  exact ⟨rfl, ⟨by show t + 1 ≤ m; omega, a2, fun r b1 b2 b3 => (q_Ine b1).trans (a3 r b1 b2 b3), a4, a5, a6, rfl, rfl, a9, a10⟩, by show c.length ≤ 12; omega⟩
            · exact absurd (q_kap_inj (b := 2) hok (by decide) (by decide) c3) h2
  | succ k ih =>
    intro c e t h hs hck ha
    have hR := cor_R (by decide) hR0 ha
    have hI2 := hR.1
    have hI3 := hR.2.1
    have h4 := hR.2.2.2.2.1
    have h5 := hR.2.2.2.2.2
    have h4m := hR.2.2.1.1
    have htm := hR.2.2.2.1
    have hok := (hR.2.2.1.2.2 t htm).1
    obtain ⟨a1, a2, a3, a4, a5, a6, a7, a8, a9, a10⟩ := id ha
    have hfr := cor_fr ha
    rw [tx_co]
    by_cases h2 : tk_T K t = 2
    · rw [if_pos h2]
      have hk5 : q_I h 7 5 = nI 2 := h5.trans (by rw [h2]; rfl)
      cases k1 : tx_ck (tk_T K) 2 t with
      | some er =>
        refine xe_iload_n dX5_takeCold_18 rfl ?_
        refine xe_bipush dX5_takeCold_19 kb_12 ?_
        refine xn_icmp_gt (tgt := 92) dX5_takeCold_21 rfl (by omega) (by omega) (fun c1 => ?_) (fun c1 => ?_)
        · omega
        · refine xe_iload_n dX5_takeCold_24 rfl ?_
          refine xn_if_eq (tgt := 92) dX5_takeCold_25 rfl (by omega) (fun c2 => ?_) (fun c2 => ?_)
          · omega
          · refine xe_aload_n dX5_takeCold_28 rfl ?_
            refine xe_getIv dX5_takeCold_29 flX5_41 (st7 hs) (by decide) rfl (v := nI 2) (hk5) ?_
            refine xe_iconst dX5_takeCold_32 kc_2 ?_
            refine xn_icmp_ne (tgt := 92) dX5_takeCold_33 rfl (by omega) (by omega) (fun c3 => ?_) (fun c3 => ?_)
            · omega
            · refine xe_iload_n dX5_takeCold_36 rfl ?_
              refine xe_bipush dX5_takeCold_37 kb_12 ?_
              refine xn_icmp_ge (tgt := 53) dX5_takeCold_39 rfl (by omega) (by omega) (fun c4 => ?_) (fun c4 => ?_)
              · omega
              · refine xe_aload_n dX5_takeCold_42 rfl ?_
                refine xe_iconst dX5_takeCold_43 kc_0 ?_
                refine xe_sipush dX5_takeCold_44 ks_999 ?_
                refine xe_callVI (d' := 1) (y' := mX5_takeInt) dX5_takeCold_47 mlX5_125 mvX5_takeInt rfl (st7 hs) (by decide) rfl (by decide) (by decide) (Nat.le_of_ble_eq_true rfl) (c_X5_takeInt_f l g _ (by exact hs) (p := 10) (t := t) (by refine ck_R_t (t' := t) hR ?_ ?_ ?_ ?_ (by omega) ?_ ?_ <;> first | exact rfl | exact h4 | exact h5) k1 _ _) rfl ?_
                refine xe_goto (tgt := 58) dX5_takeCold_50 rfl ?_
                refine xe_istore_n (i := 1) dX5_takeCold_58 rfl (by decide) rfl ?_
                refine xe_iload_n dX5_takeCold_59 rfl ?_
                refine xn_if_eq (tgt := 86) dX5_takeCold_60 rfl (by omega) (fun c5 => ?_) (fun c5 => ?_)
                · refine xn_iinc dX5_takeCold_86 rfl kc_1 ?_
                  refine xe_goto (tgt := 18) dX5_takeCold_89 rfl ?_
                  refine xe_locals (L' := [(0, .ref 7), (1, .int (nI 0)), (2, .int (nI (c.length + 1)))]) (And.intro rfl (And.intro rfl (And.intro rfl trivial))) ?_
                  exact co_out10 l g _ (by omega) ⟨rfl, (by repeat (first | exact hfr | refine fr_I (by decide) ?_ | refine fr_J (by decide) ?_)), rfl, rfl⟩
                · omega
      | none =>
        have go1 := ck_gn hR.2.2.1 (show t ≤ m by omega) k1 (by decide) (by decide)
        have hv := (hR.2.2.1.2.2 t htm).2.2.2.2.2 h2
        refine xe_iload_n dX5_takeCold_18 rfl ?_
        refine xe_bipush dX5_takeCold_19 kb_12 ?_
        refine xn_icmp_gt (tgt := 92) dX5_takeCold_21 rfl (by omega) (by omega) (fun c1 => ?_) (fun c1 => ?_)
        · omega
        · refine xe_iload_n dX5_takeCold_24 rfl ?_
          refine xn_if_eq (tgt := 92) dX5_takeCold_25 rfl (by omega) (fun c2 => ?_) (fun c2 => ?_)
          · omega
          · refine xe_aload_n dX5_takeCold_28 rfl ?_
            refine xe_getIv dX5_takeCold_29 flX5_41 (st7 hs) (by decide) rfl (v := nI 2) (hk5) ?_
            refine xe_iconst dX5_takeCold_32 kc_2 ?_
            refine xn_icmp_ne (tgt := 92) dX5_takeCold_33 rfl (by omega) (by omega) (fun c3 => ?_) (fun c3 => ?_)
            · omega
            · refine xe_iload_n dX5_takeCold_36 rfl ?_
              refine xe_bipush dX5_takeCold_37 kb_12 ?_
              refine xn_icmp_ge (tgt := 53) dX5_takeCold_39 rfl (by omega) (by omega) (fun c4 => ?_) (fun c4 => ?_)
              · omega
              · refine xe_aload_n dX5_takeCold_42 rfl ?_
                refine xe_iconst dX5_takeCold_43 kc_0 ?_
                refine xe_sipush dX5_takeCold_44 ks_999 ?_
                refine xe_callVIq (d' := 1) (y' := mX5_takeInt) dX5_takeCold_47 mlX5_125 mvX5_takeInt rfl (st7 hs) (by decide) rfl (by decide) (by decide) (Nat.le_of_ble_eq_true rfl) (c_X5_takeInt_t l g _ (by exact hs) (p := 10) (t := t) (by refine ck_R_t (t' := t) hR ?_ ?_ ?_ ?_ (by omega) ?_ ?_ <;> first | exact rfl | exact h4 | exact h5) (by exact a9) (lo := 0) (hi := 999) (by decide) (by decide) k1) rfl (fun h5 hq5 => ?_)
                obtain ⟨a5, b5, rfl, hl5⟩ := hq5
                refine xe_goto (tgt := 58) dX5_takeCold_50 rfl ?_
                refine xe_istore_n (i := 1) dX5_takeCold_58 rfl (by decide) rfl ?_
                refine xe_iload_n dX5_takeCold_59 rfl ?_
                refine xn_if_eq (tgt := 86) dX5_takeCold_60 rfl (by omega) (fun c6 => ?_) (fun c6 => ?_)
                · omega
                · refine xe_aload_n dX5_takeCold_63 rfl ?_
                  refine xe_getP dX5_takeCold_64 flX5_26 (st7 hs) (by decide) rfl hI3 ?_
                  refine xe_getP dX5_takeCold_67 flX5_138 (st10 hs) (by decide) rfl (sp10_9 hs) ?_
                  refine xe_iload_n dX5_takeCold_70 rfl ?_
                  refine xe_aload_n dX5_takeCold_71 rfl ?_
                  refine xe_getIv dX5_takeCold_72 flX5_70 (st7 hs) (by decide) rfl (v := nI (tk_V K t)) (rfl) ?_
                  refine xn_iast dX5_takeCold_75 (st15 hs) (by omega) (by decide) ?_
                  refine xe_aload_n dX5_takeCold_76 rfl ?_
                  refine xe_getP dX5_takeCold_77 flX5_26 (st7 hs) (by decide) rfl hI3 ?_
                  refine xe_iload_n dX5_takeCold_80 rfl ?_
                  refine xe_iconst dX5_takeCold_81 kc_1 ?_
                  refine xn_iadd dX5_takeCold_82 ?_
                  refine xe_putI dX5_takeCold_83 flX5_135 (st10 hs) (by decide) rfl (Or.inl rfl) rfl rfl ?_
                  refine xn_iinc dX5_takeCold_86 rfl kc_1 ?_
                  refine xe_goto (tgt := 18) dX5_takeCold_89 rfl ?_
                  refine xe_locals (L' := [(0, .ref 7), (1, .int (nI 1)), (2, .int (nI (c.length + 1)))]) (And.intro rfl (And.intro rfl (And.intro rfl trivial))) ?_
                  rw [show decide (tk_V K t < 0 ∨ 999 < tk_V K t) = decide (999 < tk_V K t) from decide_eq_decide.mpr ⟨fun q => q.elim (fun z => absurd z (Nat.not_lt_zero _)) id, Or.inr⟩] at hl5
                  have el : (c ++ [tk_V K t]).length = c.length + 1 := List.length_append
                  rw [← el]
                  refine ih (c ++ [tk_V K t]) _ (t + 1) _ (by exact hs) (by rw [el]; omega) ⟨by omega, a2, fun r b1 b2 b3 => (q_Ine b2).trans ((q_Ine b3).trans ((q_Ine b1).trans (a3 r b1 b2 b3))), fun j hj => (pk_un hj).trans (a4 j hj), ?_, ?_, rfl, rfl, hl5, a10⟩
                  · rw [el]
                    rfl
                  · exact q_row_app a6 rfl
    · skip
      rw [if_neg h2]
      cases k1 : tx_ck (tk_T K) 4 t with
      | some er =>
        refine xe_iload_n dX5_takeCold_18 rfl ?_
        refine xe_bipush dX5_takeCold_19 kb_12 ?_
        refine xn_icmp_gt (tgt := 92) dX5_takeCold_21 rfl (by omega) (by omega) (fun c1 => ?_) (fun c1 => ?_)
        · omega
        · refine xe_iload_n dX5_takeCold_24 rfl ?_
          refine xn_if_eq (tgt := 92) dX5_takeCold_25 rfl (by omega) (fun c2 => ?_) (fun c2 => ?_)
          · omega
          · refine xe_aload_n dX5_takeCold_28 rfl ?_
            refine xe_getIv dX5_takeCold_29 flX5_41 (st7 hs) (by decide) rfl (v := (q_kap (tk_T K t))) (h5) ?_
            refine xe_iconst dX5_takeCold_32 kc_2 ?_
            refine xe_icmp_ne (tgt := 92) dX5_takeCold_33 rfl (fun c3 => ?_) (fun c3 => ?_)
            · refine xe_iload_n dX5_takeCold_92 rfl ?_
              refine xn_if_eq (tgt := 109) dX5_takeCold_93 rfl (by omega) (fun c4 => ?_) (fun c4 => ?_)
              · omega
              · refine xe_aload_n dX5_takeCold_96 rfl ?_
                refine xe_bipush dX5_takeCold_97 kb_59 ?_
                refine xe_callVI (d' := 0) (y' := mX5_take) dX5_takeCold_99 mlX5_63 mvX5_take rfl (st7 hs) (by decide) rfl (by decide) (by decide) (Nat.le_of_ble_eq_true rfl) (c_X5_take_f l g _ (by exact hs) (p := 10) (t := t) (by refine ck_R_t (t' := t) hR ?_ ?_ ?_ ?_ (by omega) ?_ ?_ <;> first | exact rfl | exact h4 | exact h5) (k := 4) (by decide) (by decide) k1) rfl ?_
                refine xn_if_eq (tgt := 109) dX5_takeCold_102 rfl (by omega) (fun c5 => ?_) (fun c5 => ?_)
                · refine xe_iconst dX5_takeCold_109 kc_0 ?_
                  refine xe_ireturn dX5_takeCold_110 rfl (by first | rfl | decide +kernel) ?_
                  exact ⟨rfl, (by repeat (first | exact hfr | refine fr_I (by decide) ?_ | refine fr_J (by decide) ?_)), rfl, rfl⟩
                · omega
            · exact absurd (q_kap_inj (b := 2) hok (by decide) (by decide) c3) h2
      | none =>
        have go1 := ck_gn hR.2.2.1 (show t ≤ m by omega) k1 (by decide) (by decide)
        refine xe_iload_n dX5_takeCold_18 rfl ?_
        refine xe_bipush dX5_takeCold_19 kb_12 ?_
        refine xn_icmp_gt (tgt := 92) dX5_takeCold_21 rfl (by omega) (by omega) (fun c1 => ?_) (fun c1 => ?_)
        · omega
        · refine xe_iload_n dX5_takeCold_24 rfl ?_
          refine xn_if_eq (tgt := 92) dX5_takeCold_25 rfl (by omega) (fun c2 => ?_) (fun c2 => ?_)
          · omega
          · refine xe_aload_n dX5_takeCold_28 rfl ?_
            refine xe_getIv dX5_takeCold_29 flX5_41 (st7 hs) (by decide) rfl (v := (q_kap (tk_T K t))) (h5) ?_
            refine xe_iconst dX5_takeCold_32 kc_2 ?_
            refine xe_icmp_ne (tgt := 92) dX5_takeCold_33 rfl (fun c3 => ?_) (fun c3 => ?_)
            · refine xe_iload_n dX5_takeCold_92 rfl ?_
              refine xn_if_eq (tgt := 109) dX5_takeCold_93 rfl (by omega) (fun c4 => ?_) (fun c4 => ?_)
              · omega
              · refine xe_aload_n dX5_takeCold_96 rfl ?_
                refine xe_bipush dX5_takeCold_97 kb_59 ?_
                refine xe_callVI (d' := 0) (y' := mX5_take) dX5_takeCold_99 mlX5_63 mvX5_take rfl (st7 hs) (by decide) rfl (by decide) (by decide) (Nat.le_of_ble_eq_true rfl) (c_X5_take_t l g _ (by exact hs) (p := 10) (t := t) (by refine ck_R_t (t' := t) hR ?_ ?_ ?_ ?_ (by omega) ?_ ?_ <;> first | exact rfl | exact h4 | exact h5) (k := 4) (by decide) (by decide) (by decide) k1) rfl ?_
                refine xn_if_eq (tgt := 109) dX5_takeCold_102 rfl (by omega) (fun c5 => ?_) (fun c5 => ?_)
                · omega
                · refine xe_iconst dX5_takeCold_105 kc_1 ?_
                  refine xe_goto (tgt := 110) dX5_takeCold_106 rfl ?_
                  refine xe_ireturn dX5_takeCold_110 rfl (by first | rfl | decide +kernel) ?_
                  exact ⟨rfl, ⟨by show t + 1 ≤ m; omega, a2, fun r b1 b2 b3 => (q_Ine b1).trans (a3 r b1 b2 b3), a4, a5, a6, rfl, rfl, a9, a10⟩, by show c.length ≤ 12; omega⟩
            · exact absurd (q_kap_inj (b := 2) hok (by decide) (by decide) c3) h2
theorem tx_co_le {K : q_TK} : ∀ (k : Nat) (c : List Nat) (e : Option (Nat × Nat)) (t : Nat) (x : (List Nat × Option (Nat × Nat)) × Nat), tx_co K k c e t = .inr x → t < x.2
  | 0, c, e, t, x, h => by
    rw [tx_co] at h
    split at h
    · cases h
    · obtain ⟨h1, h2⟩ := tx_b_inr h
      cases h2
      exact Nat.lt_succ_self t
  | k + 1, c, e, t, x, h => by
    rw [tx_co] at h
    split at h
    · obtain ⟨h1, h2⟩ := tx_b_inr h
      have := tx_co_le k _ _ _ x h2
      omega
    · obtain ⟨h1, h2⟩ := tx_b_inr h
      cases h2
      exact Nat.lt_succ_self t
theorem c_X5_takeCold10 (l : Launch) (g : q_GP) (h : q_H) (hs : q_Stat h) {K : q_TK} {m t n : Nat} {s : q_PS} (hR : ck_R h K m 10 t) (hV : ck_V h K 10 n s) (hnt : n ≤ 10 + t) : q_Ct l g 2 mX5_takeCold [.ref 7] h (q_tlA K m 10 h (tx_cold K s t)) := by
  have hI2 := hR.1
  have hI3 := hR.2.1
  have h4 := hR.2.2.2.2.1
  have h5 := hR.2.2.2.2.2
  have h4m := hR.2.2.1.1
  have htm := hR.2.2.2.1
  obtain ⟨v2, v3, v4, v5, v6, v6b, vf, vg, vc, vF, vG, vC, vL, vN8, vN9, vE, v7⟩ := id hV
  have l8 := vN8.1
  have l9 := vN9.1
  unfold tx_cold
  cases k1 : tx_ck (tk_T K) 26 t with
  | some er =>
    refine q_CtV mvX5_takeCold (Nat.le_of_ble_eq_true rfl) ?_
    refine xe_aload_n dX5_takeCold_0 rfl ?_
    refine xe_getP dX5_takeCold_1 flX5_26 (st7 hs) (by decide) rfl hI3 ?_
    refine xe_iconst dX5_takeCold_4 kc_0 ?_
    refine xe_putI dX5_takeCold_5 flX5_135 (st10 hs) (by decide) rfl (Or.inl rfl) rfl rfl ?_
    refine xe_aload_n dX5_takeCold_8 rfl ?_
    refine xe_sipush dX5_takeCold_9 ks_262 ?_
    refine xe_callVI (d' := 0) (y' := mX5_take) dX5_takeCold_12 mlX5_63 mvX5_take rfl (st7 hs) (by decide) rfl (by decide) (by decide) (Nat.le_of_ble_eq_true rfl) (c_X5_take_f l g _ (by exact hs) (p := 10) (t := t) (by refine ck_R_t (t' := t) hR ?_ ?_ ?_ ?_ (by omega) ?_ ?_ <;> first | exact rfl | exact h4 | exact h5) (k := 26) (by decide) (by decide) k1) rfl ?_
    refine xe_istore_n (i := 1) dX5_takeCold_15 rfl (by decide) rfl ?_
    refine xe_iconst dX5_takeCold_16 kc_0 ?_
    refine xe_istore_n (i := 2) dX5_takeCold_17 rfl (by decide) rfl ?_
    refine xe_locals (L' := [(0, .ref 7), (1, .int (nI 0)), (2, .int (nI 0))]) (And.intro rfl (And.intro rfl (And.intro rfl trivial))) ?_
    exact co_out10 l g _ (by decide) ⟨rfl, (by repeat (first | exact fr_r | refine fr_I (by decide) ?_ | refine fr_J (by decide) ?_)), rfl, rfl⟩
  | none =>
    have go1 := ck_gn hR.2.2.1 (show t ≤ m by omega) k1 (by decide) (by decide)
    refine q_CtV mvX5_takeCold (Nat.le_of_ble_eq_true rfl) ?_
    refine xe_aload_n dX5_takeCold_0 rfl ?_
    refine xe_getP dX5_takeCold_1 flX5_26 (st7 hs) (by decide) rfl hI3 ?_
    refine xe_iconst dX5_takeCold_4 kc_0 ?_
    refine xe_putI dX5_takeCold_5 flX5_135 (st10 hs) (by decide) rfl (Or.inl rfl) rfl rfl ?_
    refine xe_aload_n dX5_takeCold_8 rfl ?_
    refine xe_sipush dX5_takeCold_9 ks_262 ?_
    refine xe_callVI (d' := 0) (y' := mX5_take) dX5_takeCold_12 mlX5_63 mvX5_take rfl (st7 hs) (by decide) rfl (by decide) (by decide) (Nat.le_of_ble_eq_true rfl) (c_X5_take_t l g _ (by exact hs) (p := 10) (t := t) (by refine ck_R_t (t' := t) hR ?_ ?_ ?_ ?_ (by omega) ?_ ?_ <;> first | exact rfl | exact h4 | exact h5) (k := 26) (by decide) (by decide) (by decide) k1) rfl ?_
    refine xe_istore_n (i := 1) dX5_takeCold_15 rfl (by decide) rfl ?_
    refine xe_iconst dX5_takeCold_16 kc_0 ?_
    refine xe_istore_n (i := 2) dX5_takeCold_17 rfl (by decide) rfl ?_
    refine xe_locals (L' := [(0, .ref 7), (1, .int (nI 1)), (2, .int (nI 0))]) (And.intro rfl (And.intro rfl (And.intro rfl trivial))) ?_
    refine xe_post (fun r h1 q => ?_) (co_loop10 l g (t0 := t) hR 12 [] (ps_e s) (t + 1) _ (by exact hs) rfl ⟨by omega, rfl, fun r b1 b2 b3 => (q_Ine b1).trans (q_Ine b2), fun j hj => pk_un hj, rfl, fun i hi => absurd hi (Nat.not_lt_zero _), rfl, rfl, vE, v7⟩)
    show q_tlA K m 10 h (tx_r (tx_co K 12 [] (ps_e s) (t + 1)) _) r h1
    have hle := tx_co_le (K := K) 12 [] (ps_e s) (t + 1)
    generalize tx_co K 12 [] (ps_e s) (t + 1) = o at q hle
    cases o with
    | inl er => exact q
    | inr x =>
      obtain ⟨q1, q2, q3⟩ := q
      have hle2 := hle x rfl
      exact ⟨q1, cor_fr q2, q2.1, q2.2.2.2.2.2.2.1, q2.2.2.2.2.2.2.2.1, n, by omega, v_cold10 hV q2 q3⟩
theorem lw_inl {l : Launch} {g : q_GP} {d : Nat} {y : q_MI} {as : List Value} {h h' : q_H} {K : q_TK} {m p n : Nat} {o : (Nat × Nat) ⊕ (q_lawT × Nat)} {er : Nat × Nat} (e : o = .inl er) (C : q_Ct l g d y as h (q_lwA K m p n h' o)) : q_Ct l g d y as h (fun r h1 => r = some (.int (nI 0)) ∧ q_bad K p h' er h1) := by
  rw [e] at C
  exact C
theorem lw_inr {l : Launch} {g : q_GP} {d : Nat} {y : q_MI} {as : List Value} {h h' : q_H} {K : q_TK} {m p n : Nat} {o : (Nat × Nat) ⊕ (q_lawT × Nat)} {x : q_lawT × Nat} (e : o = .inr x) (C : q_Ct l g d y as h (q_lwA K m p n h' o)) : q_Ct l g d y as h (fun r h1 => r = some (.int (nI 1)) ∧ ∃ n1, q_gs K m p n h' x.2 n1 h1 ∧ n1 ≤ 10 + x.2 ∧ q_cd (q_I h1 (p + 1)) (q_I h1 (p + 2)) n1 n x.1.1 x.1.2) := by
  rw [e] at C
  exact C
theorem q_kap_sw : ∀ a : Fin 37, tk_ok a.1 = true → ¬ (20 ≤ a.1 ∧ a.1 ≤ 27) → (q_kap a.1).toInt < 256 ∨ 263 < (q_kap a.1).toInt := by decide +kernel
theorem c_X5_takeTell10 (l : Launch) (g : q_GP) (h : q_H) (hs : q_Stat h) {K : q_TK} {m t n : Nat} {s : q_PS} (hR : ck_R h K m 10 t) (hV : ck_V h K 10 n s) (hnt : n ≤ 10 + t) : q_Ct l g 23 mX5_takeTell [.ref 7] h (q_tlA K m 10 h (tx_tell K s t)) := by
  have hI2 := hR.1
  have hI3 := hR.2.1
  have h4 := hR.2.2.2.2.1
  have h5 := hR.2.2.2.2.2
  have h4m := hR.2.2.1.1
  have htm := hR.2.2.2.1
  obtain ⟨v2, v3, v4, v5, v6, v6b, vf, vg, vc, vF, vG, vC, vL, vN8, vN9, vE, v7⟩ := id hV
  have l8 := vN8.1
  have l9 := vN9.1
  have hok := (hR.2.2.1.2.2 t htm).1
  unfold tx_tell
  have hpass : ∀ (o : (Nat × Nat) ⊕ (q_PS × Nat)) (y : q_MI), q_Ct l g 2 y [.ref 7] h (q_tlA K m 10 h o) → q_Ct l g 2 y [.ref 7] h (fun r h1 => ∃ x : Int32, r = some (.int x) ∧ (q_tlA K m 10 h o (some (.int x)) h1 ∧ (x = nI 0 ∨ x = nI 1))) := fun o y C => q_Ct_post (fun r h1 q => by
    cases o with
    | inl e => exact ⟨nI 0, q.1, ⟨rfl, q.2⟩, Or.inl rfl⟩
    | inr e => exact ⟨nI 1, q.1, ⟨rfl, q.2⟩, Or.inr rfl⟩) C
  by_cases t20 : tk_T K t = 20
  · rw [if_pos t20]
    have hk5 : q_I h 7 5 = nI 256 := h5.trans (by rw [t20]; rfl)
    refine q_CtV mvX5_takeTell (Nat.le_of_ble_eq_true rfl) ?_
    refine xe_aload_n dX5_takeTell_0 rfl ?_
    refine xe_getIv dX5_takeTell_1 flX5_41 (st7 hs) (by decide) rfl (v := nI 256) (hk5) ?_
    refine xe_tsw_in (tgt := 52) dX5_takeTell_4 (by decide) (by decide) rfl rfl ?_
    refine xe_aload_n dX5_takeTell_52 rfl ?_
    refine xe_callVIn (d' := 2) (y' := mX5_takeMan) dX5_takeTell_53 mlX5_87 mvX5_takeMan rfl (st7 hs) (by decide) rfl (by decide) (by decide) (Nat.le_of_ble_eq_true rfl) (hpass _ _ (c_X5_takeMan10 l g _ hs hR hV hnt)) rfl (fun rv h1 hq => ?_)
    refine xe_ireturn dX5_takeTell_56 rfl (by rcases hq.2 with q | q <;> rw [q] <;> decide +kernel) ?_
    exact hq.1
  rw [if_neg t20]
  by_cases t21 : tk_T K t = 21
  · rw [if_pos t21]
    have hk5 : q_I h 7 5 = nI 257 := h5.trans (by rw [t21]; rfl)
    refine q_CtV mvX5_takeTell (Nat.le_of_ble_eq_true rfl) ?_
    refine xe_aload_n dX5_takeTell_0 rfl ?_
    refine xe_getIv dX5_takeTell_1 flX5_41 (st7 hs) (by decide) rfl (v := nI 257) (hk5) ?_
    refine xe_tsw_in (tgt := 57) dX5_takeTell_4 (by decide) (by decide) rfl rfl ?_
    refine xe_aload_n dX5_takeTell_57 rfl ?_
    refine xe_callVIn (d' := 2) (y' := mX5_takeDeed) dX5_takeTell_58 mlX5_90 mvX5_takeDeed rfl (st7 hs) (by decide) rfl (by decide) (by decide) (Nat.le_of_ble_eq_true rfl) (hpass _ _ (c_X5_takeDeed10 l g _ hs hR hV hnt)) rfl (fun rv h1 hq => ?_)
    refine xe_ireturn dX5_takeTell_61 rfl (by rcases hq.2 with q | q <;> rw [q] <;> decide +kernel) ?_
    exact hq.1
  rw [if_neg t21]
  by_cases t22 : tk_T K t = 22
  · rw [if_pos t22]
    have hk5 : q_I h 7 5 = nI 258 := h5.trans (by rw [t22]; rfl)
    unfold tx_named
    cases k1 : tx_ck (tk_T K) 22 t with
    | some er =>
      refine q_CtV mvX5_takeTell (Nat.le_of_ble_eq_true rfl) ?_
      refine xe_aload_n dX5_takeTell_0 rfl ?_
      refine xe_getIv dX5_takeTell_1 flX5_41 (st7 hs) (by decide) rfl (v := nI 258) (hk5) ?_
      refine xe_tsw_in (tgt := 62) dX5_takeTell_4 (by decide) (by decide) rfl rfl ?_
      refine xe_aload_n dX5_takeTell_62 rfl ?_
      refine xe_sipush dX5_takeTell_63 ks_258 ?_
      refine xe_callVI (d' := 0) (y' := mX5_take) dX5_takeTell_66 mlX5_63 mvX5_take rfl (st7 hs) (by decide) rfl (by decide) (by decide) (Nat.le_of_ble_eq_true rfl) (c_X5_take_f l g _ (by exact hs) (p := 10) (t := t) (by refine ck_R_t (t' := t) hR ?_ ?_ ?_ ?_ (by omega) ?_ ?_ <;> first | exact rfl | exact h4 | exact h5) (k := 22) (by decide) (by decide) k1) rfl ?_
      refine xn_if_eq (tgt := 112) dX5_takeTell_69 rfl (by omega) (fun c1 => ?_) (fun c1 => ?_)
      · refine xe_iconst dX5_takeTell_112 kc_0 ?_
        refine xe_ireturn dX5_takeTell_113 rfl (by first | rfl | decide +kernel) ?_
        exact ⟨rfl, (by repeat (first | exact fr_r | refine fr_I (by decide) ?_ | refine fr_J (by decide) ?_)), rfl, rfl⟩
      · omega
    | none =>
      have go1 := ck_gn hR.2.2.1 (show t ≤ m by omega) k1 (by decide) (by decide)
      show q_Ct l g 23 mX5_takeTell _ h (q_tlA K m 10 h (tx_b (tx_ck (tk_T K) 1 (t + 1)) _))
      cases k2 : tx_ck (tk_T K) 1 (t + 1) with
      | some er =>
        refine q_CtV mvX5_takeTell (Nat.le_of_ble_eq_true rfl) ?_
        refine xe_aload_n dX5_takeTell_0 rfl ?_
        refine xe_getIv dX5_takeTell_1 flX5_41 (st7 hs) (by decide) rfl (v := nI 258) (hk5) ?_
        refine xe_tsw_in (tgt := 62) dX5_takeTell_4 (by decide) (by decide) rfl rfl ?_
        refine xe_aload_n dX5_takeTell_62 rfl ?_
        refine xe_sipush dX5_takeTell_63 ks_258 ?_
        refine xe_callVI (d' := 0) (y' := mX5_take) dX5_takeTell_66 mlX5_63 mvX5_take rfl (st7 hs) (by decide) rfl (by decide) (by decide) (Nat.le_of_ble_eq_true rfl) (c_X5_take_t l g _ (by exact hs) (p := 10) (t := t) (by refine ck_R_t (t' := t) hR ?_ ?_ ?_ ?_ (by omega) ?_ ?_ <;> first | exact rfl | exact h4 | exact h5) (k := 22) (by decide) (by decide) (by decide) k1) rfl ?_
        refine xn_if_eq (tgt := 112) dX5_takeTell_69 rfl (by omega) (fun c1 => ?_) (fun c1 => ?_)
        · omega
        · refine xe_aload_n dX5_takeTell_72 rfl ?_
          refine xe_aload_n dX5_takeTell_73 rfl ?_
          refine xe_getP dX5_takeTell_74 flX5_19 (st7 hs) (by decide) rfl (sp7_1 hs) ?_
          refine xe_aload_n dX5_takeTell_77 rfl ?_
          refine xe_getP dX5_takeTell_78 flX5_26 (st7 hs) (by decide) rfl hI3 ?_
          refine xe_getIv dX5_takeTell_81 flX5_84 (st10 hs) (by decide) rfl (v := nI ((ps_d s).length)) (v4) ?_
          refine xe_callVI (d' := 1) (y' := mX5_takeOldName) dX5_takeTell_84 mlX5_93 mvX5_takeOldName rfl (st7 hs) (by decide) rfl (by decide) (by decide) (Nat.le_of_ble_eq_true rfl) (c_X5_takeOldName_f l g _ (by exact hs) (p := 10) (t := (t + 1)) (by refine ck_R_t (t' := (t + 1)) hR ?_ ?_ ?_ ?_ (by omega) ?_ ?_ <;> first | exact rfl | exact h4 | exact h5) k2 _ _) rfl ?_
          refine xn_if_eq (tgt := 112) dX5_takeTell_87 rfl (by omega) (fun c2 => ?_) (fun c2 => ?_)
          · refine xe_iconst dX5_takeTell_112 kc_0 ?_
            refine xe_ireturn dX5_takeTell_113 rfl (by first | rfl | decide +kernel) ?_
            exact ⟨rfl, (by repeat (first | exact fr_r | refine fr_I (by decide) ?_ | refine fr_J (by decide) ?_)), rfl, rfl⟩
          · omega
      | none =>
        have go2 := ck_gn hR.2.2.1 (show t + 1 ≤ m by omega) k2 (by decide) (by decide)
        cases kf : tx_find (tk_N K (t + 1)) (ps_d s) 0 with
        | some j =>
          have kj := tx_find_lt _ 0 j kf
          show q_Ct l g 23 mX5_takeTell _ h (q_tlA K m 10 h (tx_r (tx_law K (t + 2)) _))
          cases kl : tx_law K (t + 2) with
          | inl er =>
            refine q_CtV mvX5_takeTell (Nat.le_of_ble_eq_true rfl) ?_
            refine xe_aload_n dX5_takeTell_0 rfl ?_
            refine xe_getIv dX5_takeTell_1 flX5_41 (st7 hs) (by decide) rfl (v := nI 258) (hk5) ?_
            refine xe_tsw_in (tgt := 62) dX5_takeTell_4 (by decide) (by decide) rfl rfl ?_
            refine xe_aload_n dX5_takeTell_62 rfl ?_
            refine xe_sipush dX5_takeTell_63 ks_258 ?_
            refine xe_callVI (d' := 0) (y' := mX5_take) dX5_takeTell_66 mlX5_63 mvX5_take rfl (st7 hs) (by decide) rfl (by decide) (by decide) (Nat.le_of_ble_eq_true rfl) (c_X5_take_t l g _ (by exact hs) (p := 10) (t := t) (by refine ck_R_t (t' := t) hR ?_ ?_ ?_ ?_ (by omega) ?_ ?_ <;> first | exact rfl | exact h4 | exact h5) (k := 22) (by decide) (by decide) (by decide) k1) rfl ?_
            refine xn_if_eq (tgt := 112) dX5_takeTell_69 rfl (by omega) (fun c1 => ?_) (fun c1 => ?_)
            · omega
            · refine xe_aload_n dX5_takeTell_72 rfl ?_
              refine xe_aload_n dX5_takeTell_73 rfl ?_
              refine xe_getP dX5_takeTell_74 flX5_19 (st7 hs) (by decide) rfl (sp7_1 hs) ?_
              refine xe_aload_n dX5_takeTell_77 rfl ?_
              refine xe_getP dX5_takeTell_78 flX5_26 (st7 hs) (by decide) rfl hI3 ?_
              refine xe_getIv dX5_takeTell_81 flX5_84 (st10 hs) (by decide) rfl (v := nI ((ps_d s).length)) (v4) ?_
              refine xe_callVIq (d' := 1) (y' := mX5_takeOldName) dX5_takeTell_84 mlX5_93 mvX5_takeOldName rfl (st7 hs) (by decide) rfl (by decide) (by decide) (Nat.le_of_ble_eq_true rfl) (c_X5_takeOldName9_t l g _ (by exact hs) (p := 10) (t := (t + 1)) (by refine ck_R_t (t' := (t + 1)) hR ?_ ?_ ?_ ?_ (by omega) ?_ ?_ <;> first | exact rfl | exact h4 | exact h5) (by exact vE) (ns := ps_d s) (by exact vN9) k2) rfl (fun h2 hq2 => ?_)
              obtain ⟨a2, b2, rfl, hl2⟩ := hq2
              refine xn_if_eq (tgt := 112) dX5_takeTell_87 rfl (by omega) (fun c3 => ?_) (fun c3 => ?_)
              · omega
              · refine xe_aload_n dX5_takeTell_90 rfl ?_
                refine xe_aload_n dX5_takeTell_91 rfl ?_
                refine xe_getP dX5_takeTell_92 flX5_26 (st7 hs) (by decide) rfl hI3 ?_
                refine xe_getP dX5_takeTell_95 flX5_97 (st10 hs) (by decide) rfl (sp10_10 hs) ?_
                refine xe_aload_n dX5_takeTell_98 rfl ?_
                refine xe_getIv dX5_takeTell_99 flX5_70 (st7 hs) (by decide) rfl (v := nI j) ((by show q_ofi (tx_find (tk_N K (t + 1)) (ps_d s) 0) = _; rw [kf]; rfl)) ?_
                refine xe_callVIq (d' := 22) (y' := mX5_takeLaw) dX5_takeTell_102 mlX5_100 mvX5_takeLaw rfl (st7 hs) (by decide) rfl (by decide) (by decide) (Nat.le_of_ble_eq_true rfl) (lw_inl kl (c_X5_takeLaw10_6 l g _ (by exact hs) (t := (t + 1 + 1)) (n := n) (by refine ck_R_t (t' := (t + 1 + 1)) hR ?_ ?_ ?_ ?_ (by omega) ?_ ?_ <;> first | exact rfl | exact h4 | exact h5) (by exact v2) (by omega) (j := j) (by omega))) rfl (fun h1 hq => ?_)
                refine xn_if_eq (tgt := 112) dX5_takeTell_105 rfl (by omega) (fun c4 => ?_) (fun c4 => ?_)
                · refine xe_iconst dX5_takeTell_112 kc_0 ?_
                  refine xe_ireturn dX5_takeTell_113 rfl (by first | rfl | decide +kernel) ?_
                  exact ⟨rfl, (fr_em (by repeat (first | exact fr_r | refine fr_I (by decide) ?_ | refine fr_J (by decide) ?_)) hq.1), hq.2.1, hq.2.2⟩
                · omega
          | inr x =>
            refine q_CtV mvX5_takeTell (Nat.le_of_ble_eq_true rfl) ?_
            refine xe_aload_n dX5_takeTell_0 rfl ?_
            refine xe_getIv dX5_takeTell_1 flX5_41 (st7 hs) (by decide) rfl (v := nI 258) (hk5) ?_
            refine xe_tsw_in (tgt := 62) dX5_takeTell_4 (by decide) (by decide) rfl rfl ?_
            refine xe_aload_n dX5_takeTell_62 rfl ?_
            refine xe_sipush dX5_takeTell_63 ks_258 ?_
            refine xe_callVI (d' := 0) (y' := mX5_take) dX5_takeTell_66 mlX5_63 mvX5_take rfl (st7 hs) (by decide) rfl (by decide) (by decide) (Nat.le_of_ble_eq_true rfl) (c_X5_take_t l g _ (by exact hs) (p := 10) (t := t) (by refine ck_R_t (t' := t) hR ?_ ?_ ?_ ?_ (by omega) ?_ ?_ <;> first | exact rfl | exact h4 | exact h5) (k := 22) (by decide) (by decide) (by decide) k1) rfl ?_
            refine xn_if_eq (tgt := 112) dX5_takeTell_69 rfl (by omega) (fun c1 => ?_) (fun c1 => ?_)
            · omega
            · refine xe_aload_n dX5_takeTell_72 rfl ?_
              refine xe_aload_n dX5_takeTell_73 rfl ?_
              refine xe_getP dX5_takeTell_74 flX5_19 (st7 hs) (by decide) rfl (sp7_1 hs) ?_
              refine xe_aload_n dX5_takeTell_77 rfl ?_
              refine xe_getP dX5_takeTell_78 flX5_26 (st7 hs) (by decide) rfl hI3 ?_
              refine xe_getIv dX5_takeTell_81 flX5_84 (st10 hs) (by decide) rfl (v := nI ((ps_d s).length)) (v4) ?_
              refine xe_callVIq (d' := 1) (y' := mX5_takeOldName) dX5_takeTell_84 mlX5_93 mvX5_takeOldName rfl (st7 hs) (by decide) rfl (by decide) (by decide) (Nat.le_of_ble_eq_true rfl) (c_X5_takeOldName9_t l g _ (by exact hs) (p := 10) (t := (t + 1)) (by refine ck_R_t (t' := (t + 1)) hR ?_ ?_ ?_ ?_ (by omega) ?_ ?_ <;> first | exact rfl | exact h4 | exact h5) (by exact vE) (ns := ps_d s) (by exact vN9) k2) rfl (fun h2 hq2 => ?_)
              obtain ⟨a2, b2, rfl, hl2⟩ := hq2
              refine xn_if_eq (tgt := 112) dX5_takeTell_87 rfl (by omega) (fun c3 => ?_) (fun c3 => ?_)
              · omega
              · refine xe_aload_n dX5_takeTell_90 rfl ?_
                refine xe_aload_n dX5_takeTell_91 rfl ?_
                refine xe_getP dX5_takeTell_92 flX5_26 (st7 hs) (by decide) rfl hI3 ?_
                refine xe_getP dX5_takeTell_95 flX5_97 (st10 hs) (by decide) rfl (sp10_10 hs) ?_
                refine xe_aload_n dX5_takeTell_98 rfl ?_
                refine xe_getIv dX5_takeTell_99 flX5_70 (st7 hs) (by decide) rfl (v := nI j) ((by show q_ofi (tx_find (tk_N K (t + 1)) (ps_d s) 0) = _; rw [kf]; rfl)) ?_
                refine xe_callVIq (d' := 22) (y' := mX5_takeLaw) dX5_takeTell_102 mlX5_100 mvX5_takeLaw rfl (st7 hs) (by decide) rfl (by decide) (by decide) (Nat.le_of_ble_eq_true rfl) (lw_inr kl (c_X5_takeLaw10_6 l g _ (by exact hs) (t := (t + 1 + 1)) (n := n) (by refine ck_R_t (t' := (t + 1 + 1)) hR ?_ ?_ ?_ ?_ (by omega) ?_ ?_ <;> first | exact rfl | exact h4 | exact h5) (by exact v2) (by omega) (j := j) (by omega))) rfl (fun h1 hq => ?_)
                refine xn_if_eq (tgt := 112) dX5_takeTell_105 rfl (by omega) (fun c4 => ?_) (fun c4 => ?_)
                · omega
                · refine xe_iconst dX5_takeTell_108 kc_1 ?_
                  refine xe_goto (tgt := 113) dX5_takeTell_109 rfl ?_
                  refine xe_ireturn dX5_takeTell_113 rfl (by first | rfl | decide +kernel) ?_
                  obtain ⟨n1, g1, g2, g3⟩ := hq
                  refine ⟨rfl, fr_em (by repeat (first | exact fr_r | refine fr_I (by decide) ?_ | refine fr_J (by decide) ?_)) (gs_em g1 (by have := g1.1; omega)), g1.1, g1.2.2.2.2.1, g1.2.2.2.2.2.1, n1, g2, ?_⟩
                  rw [kf] at hl2
                  show ck_V h1 K 10 n1 (tx_putL s (tx_up (ps_L s) (0 + j) (some x.1)) _)
                  rw [Nat.zero_add]
                  refine v_law10_6 (by omega) hV ?_ ?_ ?_ ?_ ?_ g1 g3
                  · exact (by intro r a1 a2; repeat (first | exact rfl | refine (q_Ine (by assumption)).trans ?_))
                  · rfl
                  · rfl
                  · exact hl2
                  · exact v7
        | none =>
          show q_Ct l g 23 mX5_takeTell _ h (q_tlA K m 10 h (tx_r (tx_law K (t + 2)) _))
          cases kl : tx_law K (t + 2) with
          | inl er =>
            refine q_CtV mvX5_takeTell (Nat.le_of_ble_eq_true rfl) ?_
            refine xe_aload_n dX5_takeTell_0 rfl ?_
            refine xe_getIv dX5_takeTell_1 flX5_41 (st7 hs) (by decide) rfl (v := nI 258) (hk5) ?_
            refine xe_tsw_in (tgt := 62) dX5_takeTell_4 (by decide) (by decide) rfl rfl ?_
            refine xe_aload_n dX5_takeTell_62 rfl ?_
            refine xe_sipush dX5_takeTell_63 ks_258 ?_
            refine xe_callVI (d' := 0) (y' := mX5_take) dX5_takeTell_66 mlX5_63 mvX5_take rfl (st7 hs) (by decide) rfl (by decide) (by decide) (Nat.le_of_ble_eq_true rfl) (c_X5_take_t l g _ (by exact hs) (p := 10) (t := t) (by refine ck_R_t (t' := t) hR ?_ ?_ ?_ ?_ (by omega) ?_ ?_ <;> first | exact rfl | exact h4 | exact h5) (k := 22) (by decide) (by decide) (by decide) k1) rfl ?_
            refine xn_if_eq (tgt := 112) dX5_takeTell_69 rfl (by omega) (fun c1 => ?_) (fun c1 => ?_)
            · omega
            · refine xe_aload_n dX5_takeTell_72 rfl ?_
              refine xe_aload_n dX5_takeTell_73 rfl ?_
              refine xe_getP dX5_takeTell_74 flX5_19 (st7 hs) (by decide) rfl (sp7_1 hs) ?_
              refine xe_aload_n dX5_takeTell_77 rfl ?_
              refine xe_getP dX5_takeTell_78 flX5_26 (st7 hs) (by decide) rfl hI3 ?_
              refine xe_getIv dX5_takeTell_81 flX5_84 (st10 hs) (by decide) rfl (v := nI ((ps_d s).length)) (v4) ?_
              refine xe_callVIq (d' := 1) (y' := mX5_takeOldName) dX5_takeTell_84 mlX5_93 mvX5_takeOldName rfl (st7 hs) (by decide) rfl (by decide) (by decide) (Nat.le_of_ble_eq_true rfl) (c_X5_takeOldName9_t l g _ (by exact hs) (p := 10) (t := (t + 1)) (by refine ck_R_t (t' := (t + 1)) hR ?_ ?_ ?_ ?_ (by omega) ?_ ?_ <;> first | exact rfl | exact h4 | exact h5) (by exact vE) (ns := ps_d s) (by exact vN9) k2) rfl (fun h2 hq2 => ?_)
              obtain ⟨a2, b2, rfl, hl2⟩ := hq2
              refine xn_if_eq (tgt := 112) dX5_takeTell_87 rfl (by omega) (fun c3 => ?_) (fun c3 => ?_)
              · omega
              · refine xe_aload_n dX5_takeTell_90 rfl ?_
                refine xe_aload_n dX5_takeTell_91 rfl ?_
                refine xe_getP dX5_takeTell_92 flX5_26 (st7 hs) (by decide) rfl hI3 ?_
                refine xe_getP dX5_takeTell_95 flX5_97 (st10 hs) (by decide) rfl (sp10_10 hs) ?_
                refine xe_aload_n dX5_takeTell_98 rfl ?_
                refine xe_getIv dX5_takeTell_99 flX5_70 (st7 hs) (by decide) rfl (v := (-1)) ((by show q_ofi (tx_find (tk_N K (t + 1)) (ps_d s) 0) = _; rw [kf]; rfl)) ?_
                refine xe_callVIq (d' := 22) (y' := mX5_takeLaw) dX5_takeTell_102 mlX5_100 mvX5_takeLaw rfl (st7 hs) (by decide) rfl (by decide) (by decide) (Nat.le_of_ble_eq_true rfl) (lw_inl kl (c_X5_takeLaw10_n l g _ (by exact hs) (t := (t + 1 + 1)) (n := n) (by refine ck_R_t (t' := (t + 1 + 1)) hR ?_ ?_ ?_ ?_ (by omega) ?_ ?_ <;> first | exact rfl | exact h4 | exact h5) (by exact v2) (by omega) _)) rfl (fun h1 hq => ?_)
                refine xn_if_eq (tgt := 112) dX5_takeTell_105 rfl (by omega) (fun c4 => ?_) (fun c4 => ?_)
                · refine xe_iconst dX5_takeTell_112 kc_0 ?_
                  refine xe_ireturn dX5_takeTell_113 rfl (by first | rfl | decide +kernel) ?_
                  exact ⟨rfl, (fr_em (by repeat (first | exact fr_r | refine fr_I (by decide) ?_ | refine fr_J (by decide) ?_)) hq.1), hq.2.1, hq.2.2⟩
                · omega
          | inr x =>
            refine q_CtV mvX5_takeTell (Nat.le_of_ble_eq_true rfl) ?_
            refine xe_aload_n dX5_takeTell_0 rfl ?_
            refine xe_getIv dX5_takeTell_1 flX5_41 (st7 hs) (by decide) rfl (v := nI 258) (hk5) ?_
            refine xe_tsw_in (tgt := 62) dX5_takeTell_4 (by decide) (by decide) rfl rfl ?_
            refine xe_aload_n dX5_takeTell_62 rfl ?_
            refine xe_sipush dX5_takeTell_63 ks_258 ?_
            refine xe_callVI (d' := 0) (y' := mX5_take) dX5_takeTell_66 mlX5_63 mvX5_take rfl (st7 hs) (by decide) rfl (by decide) (by decide) (Nat.le_of_ble_eq_true rfl) (c_X5_take_t l g _ (by exact hs) (p := 10) (t := t) (by refine ck_R_t (t' := t) hR ?_ ?_ ?_ ?_ (by omega) ?_ ?_ <;> first | exact rfl | exact h4 | exact h5) (k := 22) (by decide) (by decide) (by decide) k1) rfl ?_
            refine xn_if_eq (tgt := 112) dX5_takeTell_69 rfl (by omega) (fun c1 => ?_) (fun c1 => ?_)
            · omega
            · refine xe_aload_n dX5_takeTell_72 rfl ?_
              refine xe_aload_n dX5_takeTell_73 rfl ?_
              refine xe_getP dX5_takeTell_74 flX5_19 (st7 hs) (by decide) rfl (sp7_1 hs) ?_
              refine xe_aload_n dX5_takeTell_77 rfl ?_
              refine xe_getP dX5_takeTell_78 flX5_26 (st7 hs) (by decide) rfl hI3 ?_
              refine xe_getIv dX5_takeTell_81 flX5_84 (st10 hs) (by decide) rfl (v := nI ((ps_d s).length)) (v4) ?_
              refine xe_callVIq (d' := 1) (y' := mX5_takeOldName) dX5_takeTell_84 mlX5_93 mvX5_takeOldName rfl (st7 hs) (by decide) rfl (by decide) (by decide) (Nat.le_of_ble_eq_true rfl) (c_X5_takeOldName9_t l g _ (by exact hs) (p := 10) (t := (t + 1)) (by refine ck_R_t (t' := (t + 1)) hR ?_ ?_ ?_ ?_ (by omega) ?_ ?_ <;> first | exact rfl | exact h4 | exact h5) (by exact vE) (ns := ps_d s) (by exact vN9) k2) rfl (fun h2 hq2 => ?_)
              obtain ⟨a2, b2, rfl, hl2⟩ := hq2
              refine xn_if_eq (tgt := 112) dX5_takeTell_87 rfl (by omega) (fun c3 => ?_) (fun c3 => ?_)
              · omega
              · refine xe_aload_n dX5_takeTell_90 rfl ?_
                refine xe_aload_n dX5_takeTell_91 rfl ?_
                refine xe_getP dX5_takeTell_92 flX5_26 (st7 hs) (by decide) rfl hI3 ?_
                refine xe_getP dX5_takeTell_95 flX5_97 (st10 hs) (by decide) rfl (sp10_10 hs) ?_
                refine xe_aload_n dX5_takeTell_98 rfl ?_
                refine xe_getIv dX5_takeTell_99 flX5_70 (st7 hs) (by decide) rfl (v := (-1)) ((by show q_ofi (tx_find (tk_N K (t + 1)) (ps_d s) 0) = _; rw [kf]; rfl)) ?_
                refine xe_callVIq (d' := 22) (y' := mX5_takeLaw) dX5_takeTell_102 mlX5_100 mvX5_takeLaw rfl (st7 hs) (by decide) rfl (by decide) (by decide) (Nat.le_of_ble_eq_true rfl) (lw_inr kl (c_X5_takeLaw10_n l g _ (by exact hs) (t := (t + 1 + 1)) (n := n) (by refine ck_R_t (t' := (t + 1 + 1)) hR ?_ ?_ ?_ ?_ (by omega) ?_ ?_ <;> first | exact rfl | exact h4 | exact h5) (by exact v2) (by omega) _)) rfl (fun h1 hq => ?_)
                refine xn_if_eq (tgt := 112) dX5_takeTell_105 rfl (by omega) (fun c4 => ?_) (fun c4 => ?_)
                · omega
                · refine xe_iconst dX5_takeTell_108 kc_1 ?_
                  refine xe_goto (tgt := 113) dX5_takeTell_109 rfl ?_
                  refine xe_ireturn dX5_takeTell_113 rfl (by first | rfl | decide +kernel) ?_
                  obtain ⟨n1, g1, g2, g3⟩ := hq
                  refine ⟨rfl, fr_em (by repeat (first | exact fr_r | refine fr_I (by decide) ?_ | refine fr_J (by decide) ?_)) (gs_em g1 (by have := g1.1; omega)), g1.1, g1.2.2.2.2.1, g1.2.2.2.2.2.1, n1, g2, ?_⟩
                  rw [kf] at hl2
                  refine v_law10_n hV ?_ ?_ ?_ ?_ g1 g3
                  · exact (by intro r a1; repeat (first | exact rfl | refine (q_Ine (by assumption)).trans ?_))
                  · rfl
                  · exact hl2
                  · exact v7
  rw [if_neg t22]
  by_cases t23 : tk_T K t = 23
  · rw [if_pos t23]
    have hk5 : q_I h 7 5 = nI 259 := h5.trans (by rw [t23]; rfl)
    unfold tx_plain
    cases k1 : tx_ck (tk_T K) 23 t with
    | some er =>
      refine q_CtV mvX5_takeTell (Nat.le_of_ble_eq_true rfl) ?_
      refine xe_aload_n dX5_takeTell_0 rfl ?_
      refine xe_getIv dX5_takeTell_1 flX5_41 (st7 hs) (by decide) rfl (v := nI 259) (hk5) ?_
      refine xe_tsw_in (tgt := 114) dX5_takeTell_4 (by decide) (by decide) rfl rfl ?_
      refine xe_aload_n dX5_takeTell_114 rfl ?_
      refine xe_sipush dX5_takeTell_115 ks_259 ?_
      refine xe_callVI (d' := 0) (y' := mX5_take) dX5_takeTell_118 mlX5_63 mvX5_take rfl (st7 hs) (by decide) rfl (by decide) (by decide) (Nat.le_of_ble_eq_true rfl) (c_X5_take_f l g _ (by exact hs) (p := 10) (t := t) (by refine ck_R_t (t' := t) hR ?_ ?_ ?_ ?_ (by omega) ?_ ?_ <;> first | exact rfl | exact h4 | exact h5) (k := 23) (by decide) (by decide) k1) rfl ?_
      refine xn_if_eq (tgt := 143) dX5_takeTell_121 rfl (by omega) (fun c1 => ?_) (fun c1 => ?_)
      · refine xe_iconst dX5_takeTell_143 kc_0 ?_
        refine xe_ireturn dX5_takeTell_144 rfl (by first | rfl | decide +kernel) ?_
        exact ⟨rfl, (by repeat (first | exact fr_r | refine fr_I (by decide) ?_ | refine fr_J (by decide) ?_)), rfl, rfl⟩
      · omega
    | none =>
      have go1 := ck_gn hR.2.2.1 (show t ≤ m by omega) k1 (by decide) (by decide)
      show q_Ct l g 23 mX5_takeTell _ h (q_tlA K m 10 h (tx_r (tx_law K (t + 1)) _))
      cases kl : tx_law K (t + 1) with
      | inl er =>
        refine q_CtV mvX5_takeTell (Nat.le_of_ble_eq_true rfl) ?_
        refine xe_aload_n dX5_takeTell_0 rfl ?_
        refine xe_getIv dX5_takeTell_1 flX5_41 (st7 hs) (by decide) rfl (v := nI 259) (hk5) ?_
        refine xe_tsw_in (tgt := 114) dX5_takeTell_4 (by decide) (by decide) rfl rfl ?_
        refine xe_aload_n dX5_takeTell_114 rfl ?_
        refine xe_sipush dX5_takeTell_115 ks_259 ?_
        refine xe_callVI (d' := 0) (y' := mX5_take) dX5_takeTell_118 mlX5_63 mvX5_take rfl (st7 hs) (by decide) rfl (by decide) (by decide) (Nat.le_of_ble_eq_true rfl) (c_X5_take_t l g _ (by exact hs) (p := 10) (t := t) (by refine ck_R_t (t' := t) hR ?_ ?_ ?_ ?_ (by omega) ?_ ?_ <;> first | exact rfl | exact h4 | exact h5) (k := 23) (by decide) (by decide) (by decide) k1) rfl ?_
        refine xn_if_eq (tgt := 143) dX5_takeTell_121 rfl (by omega) (fun c1 => ?_) (fun c1 => ?_)
        · omega
        · refine xe_aload_n dX5_takeTell_124 rfl ?_
          refine xe_aload_n dX5_takeTell_125 rfl ?_
          refine xe_getP dX5_takeTell_126 flX5_26 (st7 hs) (by decide) rfl hI3 ?_
          refine xe_getP dX5_takeTell_129 flX5_104 (st10 hs) (by decide) rfl (sp10_12 hs) ?_
          refine xe_iconst dX5_takeTell_132 kc_0 ?_
          refine xe_callVIq (d' := 22) (y' := mX5_takeLaw) dX5_takeTell_133 mlX5_100 mvX5_takeLaw rfl (st7 hs) (by decide) rfl (by decide) (by decide) (Nat.le_of_ble_eq_true rfl) (lw_inl kl (c_X5_takeLaw10_8 l g _ (by exact hs) (t := (t + 1)) (n := n) (by refine ck_R_t (t' := (t + 1)) hR ?_ ?_ ?_ ?_ (by omega) ?_ ?_ <;> first | exact rfl | exact h4 | exact h5) (by exact v2) (by omega))) rfl (fun h1 hq => ?_)
          refine xn_if_eq (tgt := 143) dX5_takeTell_136 rfl (by omega) (fun c2 => ?_) (fun c2 => ?_)
          · refine xe_iconst dX5_takeTell_143 kc_0 ?_
            refine xe_ireturn dX5_takeTell_144 rfl (by first | rfl | decide +kernel) ?_
            exact ⟨rfl, (fr_em (by repeat (first | exact fr_r | refine fr_I (by decide) ?_ | refine fr_J (by decide) ?_)) hq.1), hq.2.1, hq.2.2⟩
          · omega
      | inr x =>
        refine q_CtV mvX5_takeTell (Nat.le_of_ble_eq_true rfl) ?_
        refine xe_aload_n dX5_takeTell_0 rfl ?_
        refine xe_getIv dX5_takeTell_1 flX5_41 (st7 hs) (by decide) rfl (v := nI 259) (hk5) ?_
        refine xe_tsw_in (tgt := 114) dX5_takeTell_4 (by decide) (by decide) rfl rfl ?_
        refine xe_aload_n dX5_takeTell_114 rfl ?_
        refine xe_sipush dX5_takeTell_115 ks_259 ?_
        refine xe_callVI (d' := 0) (y' := mX5_take) dX5_takeTell_118 mlX5_63 mvX5_take rfl (st7 hs) (by decide) rfl (by decide) (by decide) (Nat.le_of_ble_eq_true rfl) (c_X5_take_t l g _ (by exact hs) (p := 10) (t := t) (by refine ck_R_t (t' := t) hR ?_ ?_ ?_ ?_ (by omega) ?_ ?_ <;> first | exact rfl | exact h4 | exact h5) (k := 23) (by decide) (by decide) (by decide) k1) rfl ?_
        refine xn_if_eq (tgt := 143) dX5_takeTell_121 rfl (by omega) (fun c1 => ?_) (fun c1 => ?_)
        · omega
        · refine xe_aload_n dX5_takeTell_124 rfl ?_
          refine xe_aload_n dX5_takeTell_125 rfl ?_
          refine xe_getP dX5_takeTell_126 flX5_26 (st7 hs) (by decide) rfl hI3 ?_
          refine xe_getP dX5_takeTell_129 flX5_104 (st10 hs) (by decide) rfl (sp10_12 hs) ?_
          refine xe_iconst dX5_takeTell_132 kc_0 ?_
          refine xe_callVIq (d' := 22) (y' := mX5_takeLaw) dX5_takeTell_133 mlX5_100 mvX5_takeLaw rfl (st7 hs) (by decide) rfl (by decide) (by decide) (Nat.le_of_ble_eq_true rfl) (lw_inr kl (c_X5_takeLaw10_8 l g _ (by exact hs) (t := (t + 1)) (n := n) (by refine ck_R_t (t' := (t + 1)) hR ?_ ?_ ?_ ?_ (by omega) ?_ ?_ <;> first | exact rfl | exact h4 | exact h5) (by exact v2) (by omega))) rfl (fun h1 hq => ?_)
          refine xn_if_eq (tgt := 143) dX5_takeTell_136 rfl (by omega) (fun c2 => ?_) (fun c2 => ?_)
          · omega
          · refine xe_iconst dX5_takeTell_139 kc_1 ?_
            refine xe_goto (tgt := 144) dX5_takeTell_140 rfl ?_
            refine xe_ireturn dX5_takeTell_144 rfl (by first | rfl | decide +kernel) ?_
            obtain ⟨n1, g1, g2, g3⟩ := hq
            refine ⟨rfl, fr_em (by repeat (first | exact fr_r | refine fr_I (by decide) ?_ | refine fr_J (by decide) ?_)) (gs_em g1 (by have := g1.1; omega)), g1.1, g1.2.2.2.2.1, g1.2.2.2.2.2.1, n1, g2, ?_⟩
            refine v_law10_8 hV ?_ ?_ ?_ ?_ ?_ g1 g3
            · exact (by intro r a1 a2; repeat (first | exact rfl | refine (q_Ine (by assumption)).trans ?_))
            · rfl
            · rfl
            · exact vE
            · exact v7
  rw [if_neg t23]
  by_cases t24 : tk_T K t = 24
  · rw [if_pos t24]
    have hk5 : q_I h 7 5 = nI 260 := h5.trans (by rw [t24]; rfl)
    unfold tx_plain
    cases k1 : tx_ck (tk_T K) 24 t with
    | some er =>
      refine q_CtV mvX5_takeTell (Nat.le_of_ble_eq_true rfl) ?_
      refine xe_aload_n dX5_takeTell_0 rfl ?_
      refine xe_getIv dX5_takeTell_1 flX5_41 (st7 hs) (by decide) rfl (v := nI 260) (hk5) ?_
      refine xe_tsw_in (tgt := 145) dX5_takeTell_4 (by decide) (by decide) rfl rfl ?_
      refine xe_aload_n dX5_takeTell_145 rfl ?_
      refine xe_sipush dX5_takeTell_146 ks_260 ?_
      refine xe_callVI (d' := 0) (y' := mX5_take) dX5_takeTell_149 mlX5_63 mvX5_take rfl (st7 hs) (by decide) rfl (by decide) (by decide) (Nat.le_of_ble_eq_true rfl) (c_X5_take_f l g _ (by exact hs) (p := 10) (t := t) (by refine ck_R_t (t' := t) hR ?_ ?_ ?_ ?_ (by omega) ?_ ?_ <;> first | exact rfl | exact h4 | exact h5) (k := 24) (by decide) (by decide) k1) rfl ?_
      refine xn_if_eq (tgt := 174) dX5_takeTell_152 rfl (by omega) (fun c1 => ?_) (fun c1 => ?_)
      · refine xe_iconst dX5_takeTell_174 kc_0 ?_
        refine xe_ireturn dX5_takeTell_175 rfl (by first | rfl | decide +kernel) ?_
        exact ⟨rfl, (by repeat (first | exact fr_r | refine fr_I (by decide) ?_ | refine fr_J (by decide) ?_)), rfl, rfl⟩
      · omega
    | none =>
      have go1 := ck_gn hR.2.2.1 (show t ≤ m by omega) k1 (by decide) (by decide)
      show q_Ct l g 23 mX5_takeTell _ h (q_tlA K m 10 h (tx_r (tx_law K (t + 1)) _))
      cases kl : tx_law K (t + 1) with
      | inl er =>
        refine q_CtV mvX5_takeTell (Nat.le_of_ble_eq_true rfl) ?_
        refine xe_aload_n dX5_takeTell_0 rfl ?_
        refine xe_getIv dX5_takeTell_1 flX5_41 (st7 hs) (by decide) rfl (v := nI 260) (hk5) ?_
        refine xe_tsw_in (tgt := 145) dX5_takeTell_4 (by decide) (by decide) rfl rfl ?_
        refine xe_aload_n dX5_takeTell_145 rfl ?_
        refine xe_sipush dX5_takeTell_146 ks_260 ?_
        refine xe_callVI (d' := 0) (y' := mX5_take) dX5_takeTell_149 mlX5_63 mvX5_take rfl (st7 hs) (by decide) rfl (by decide) (by decide) (Nat.le_of_ble_eq_true rfl) (c_X5_take_t l g _ (by exact hs) (p := 10) (t := t) (by refine ck_R_t (t' := t) hR ?_ ?_ ?_ ?_ (by omega) ?_ ?_ <;> first | exact rfl | exact h4 | exact h5) (k := 24) (by decide) (by decide) (by decide) k1) rfl ?_
        refine xn_if_eq (tgt := 174) dX5_takeTell_152 rfl (by omega) (fun c1 => ?_) (fun c1 => ?_)
        · omega
        · refine xe_aload_n dX5_takeTell_155 rfl ?_
          refine xe_aload_n dX5_takeTell_156 rfl ?_
          refine xe_getP dX5_takeTell_157 flX5_26 (st7 hs) (by decide) rfl hI3 ?_
          refine xe_getP dX5_takeTell_160 flX5_107 (st10 hs) (by decide) rfl (sp10_13 hs) ?_
          refine xe_iconst dX5_takeTell_163 kc_0 ?_
          refine xe_callVIq (d' := 22) (y' := mX5_takeLaw) dX5_takeTell_164 mlX5_100 mvX5_takeLaw rfl (st7 hs) (by decide) rfl (by decide) (by decide) (Nat.le_of_ble_eq_true rfl) (lw_inl kl (c_X5_takeLaw10_9 l g _ (by exact hs) (t := (t + 1)) (n := n) (by refine ck_R_t (t' := (t + 1)) hR ?_ ?_ ?_ ?_ (by omega) ?_ ?_ <;> first | exact rfl | exact h4 | exact h5) (by exact v2) (by omega))) rfl (fun h1 hq => ?_)
          refine xn_if_eq (tgt := 174) dX5_takeTell_167 rfl (by omega) (fun c2 => ?_) (fun c2 => ?_)
          · refine xe_iconst dX5_takeTell_174 kc_0 ?_
            refine xe_ireturn dX5_takeTell_175 rfl (by first | rfl | decide +kernel) ?_
            exact ⟨rfl, (fr_em (by repeat (first | exact fr_r | refine fr_I (by decide) ?_ | refine fr_J (by decide) ?_)) hq.1), hq.2.1, hq.2.2⟩
          · omega
      | inr x =>
        refine q_CtV mvX5_takeTell (Nat.le_of_ble_eq_true rfl) ?_
        refine xe_aload_n dX5_takeTell_0 rfl ?_
        refine xe_getIv dX5_takeTell_1 flX5_41 (st7 hs) (by decide) rfl (v := nI 260) (hk5) ?_
        refine xe_tsw_in (tgt := 145) dX5_takeTell_4 (by decide) (by decide) rfl rfl ?_
        refine xe_aload_n dX5_takeTell_145 rfl ?_
        refine xe_sipush dX5_takeTell_146 ks_260 ?_
        refine xe_callVI (d' := 0) (y' := mX5_take) dX5_takeTell_149 mlX5_63 mvX5_take rfl (st7 hs) (by decide) rfl (by decide) (by decide) (Nat.le_of_ble_eq_true rfl) (c_X5_take_t l g _ (by exact hs) (p := 10) (t := t) (by refine ck_R_t (t' := t) hR ?_ ?_ ?_ ?_ (by omega) ?_ ?_ <;> first | exact rfl | exact h4 | exact h5) (k := 24) (by decide) (by decide) (by decide) k1) rfl ?_
        refine xn_if_eq (tgt := 174) dX5_takeTell_152 rfl (by omega) (fun c1 => ?_) (fun c1 => ?_)
        · omega
        · refine xe_aload_n dX5_takeTell_155 rfl ?_
          refine xe_aload_n dX5_takeTell_156 rfl ?_
          refine xe_getP dX5_takeTell_157 flX5_26 (st7 hs) (by decide) rfl hI3 ?_
          refine xe_getP dX5_takeTell_160 flX5_107 (st10 hs) (by decide) rfl (sp10_13 hs) ?_
          refine xe_iconst dX5_takeTell_163 kc_0 ?_
          refine xe_callVIq (d' := 22) (y' := mX5_takeLaw) dX5_takeTell_164 mlX5_100 mvX5_takeLaw rfl (st7 hs) (by decide) rfl (by decide) (by decide) (Nat.le_of_ble_eq_true rfl) (lw_inr kl (c_X5_takeLaw10_9 l g _ (by exact hs) (t := (t + 1)) (n := n) (by refine ck_R_t (t' := (t + 1)) hR ?_ ?_ ?_ ?_ (by omega) ?_ ?_ <;> first | exact rfl | exact h4 | exact h5) (by exact v2) (by omega))) rfl (fun h1 hq => ?_)
          refine xn_if_eq (tgt := 174) dX5_takeTell_167 rfl (by omega) (fun c2 => ?_) (fun c2 => ?_)
          · omega
          · refine xe_iconst dX5_takeTell_170 kc_1 ?_
            refine xe_goto (tgt := 175) dX5_takeTell_171 rfl ?_
            refine xe_ireturn dX5_takeTell_175 rfl (by first | rfl | decide +kernel) ?_
            obtain ⟨n1, g1, g2, g3⟩ := hq
            refine ⟨rfl, fr_em (by repeat (first | exact fr_r | refine fr_I (by decide) ?_ | refine fr_J (by decide) ?_)) (gs_em g1 (by have := g1.1; omega)), g1.1, g1.2.2.2.2.1, g1.2.2.2.2.2.1, n1, g2, ?_⟩
            refine v_law10_9 hV ?_ ?_ ?_ ?_ ?_ g1 g3
            · exact (by intro r a1 a2; repeat (first | exact rfl | refine (q_Ine (by assumption)).trans ?_))
            · rfl
            · rfl
            · exact vE
            · exact v7
  rw [if_neg t24]
  by_cases t25 : tk_T K t = 25
  · rw [if_pos t25]
    have hk5 : q_I h 7 5 = nI 261 := h5.trans (by rw [t25]; rfl)
    unfold tx_named
    cases k1 : tx_ck (tk_T K) 25 t with
    | some er =>
      refine q_CtV mvX5_takeTell (Nat.le_of_ble_eq_true rfl) ?_
      refine xe_aload_n dX5_takeTell_0 rfl ?_
      refine xe_getIv dX5_takeTell_1 flX5_41 (st7 hs) (by decide) rfl (v := nI 261) (hk5) ?_
      refine xe_tsw_in (tgt := 176) dX5_takeTell_4 (by decide) (by decide) rfl rfl ?_
      refine xe_aload_n dX5_takeTell_176 rfl ?_
      refine xe_sipush dX5_takeTell_177 ks_261 ?_
      refine xe_callVI (d' := 0) (y' := mX5_take) dX5_takeTell_180 mlX5_63 mvX5_take rfl (st7 hs) (by decide) rfl (by decide) (by decide) (Nat.le_of_ble_eq_true rfl) (c_X5_take_f l g _ (by exact hs) (p := 10) (t := t) (by refine ck_R_t (t' := t) hR ?_ ?_ ?_ ?_ (by omega) ?_ ?_ <;> first | exact rfl | exact h4 | exact h5) (k := 25) (by decide) (by decide) k1) rfl ?_
      refine xn_if_eq (tgt := 226) dX5_takeTell_183 rfl (by omega) (fun c1 => ?_) (fun c1 => ?_)
      · refine xe_iconst dX5_takeTell_226 kc_0 ?_
        refine xe_ireturn dX5_takeTell_227 rfl (by first | rfl | decide +kernel) ?_
        exact ⟨rfl, (by repeat (first | exact fr_r | refine fr_I (by decide) ?_ | refine fr_J (by decide) ?_)), rfl, rfl⟩
      · omega
    | none =>
      have go1 := ck_gn hR.2.2.1 (show t ≤ m by omega) k1 (by decide) (by decide)
      show q_Ct l g 23 mX5_takeTell _ h (q_tlA K m 10 h (tx_b (tx_ck (tk_T K) 1 (t + 1)) _))
      cases k2 : tx_ck (tk_T K) 1 (t + 1) with
      | some er =>
        refine q_CtV mvX5_takeTell (Nat.le_of_ble_eq_true rfl) ?_
        refine xe_aload_n dX5_takeTell_0 rfl ?_
        refine xe_getIv dX5_takeTell_1 flX5_41 (st7 hs) (by decide) rfl (v := nI 261) (hk5) ?_
        refine xe_tsw_in (tgt := 176) dX5_takeTell_4 (by decide) (by decide) rfl rfl ?_
        refine xe_aload_n dX5_takeTell_176 rfl ?_
        refine xe_sipush dX5_takeTell_177 ks_261 ?_
        refine xe_callVI (d' := 0) (y' := mX5_take) dX5_takeTell_180 mlX5_63 mvX5_take rfl (st7 hs) (by decide) rfl (by decide) (by decide) (Nat.le_of_ble_eq_true rfl) (c_X5_take_t l g _ (by exact hs) (p := 10) (t := t) (by refine ck_R_t (t' := t) hR ?_ ?_ ?_ ?_ (by omega) ?_ ?_ <;> first | exact rfl | exact h4 | exact h5) (k := 25) (by decide) (by decide) (by decide) k1) rfl ?_
        refine xn_if_eq (tgt := 226) dX5_takeTell_183 rfl (by omega) (fun c1 => ?_) (fun c1 => ?_)
        · omega
        · refine xe_aload_n dX5_takeTell_186 rfl ?_
          refine xe_aload_n dX5_takeTell_187 rfl ?_
          refine xe_getP dX5_takeTell_188 flX5_15 (st7 hs) (by decide) rfl (sp7_0 hs) ?_
          refine xe_aload_n dX5_takeTell_191 rfl ?_
          refine xe_getP dX5_takeTell_192 flX5_26 (st7 hs) (by decide) rfl hI3 ?_
          refine xe_getIv dX5_takeTell_195 flX5_77 (st10 hs) (by decide) rfl (v := nI ((ps_m s).length)) (v3) ?_
          refine xe_callVI (d' := 1) (y' := mX5_takeOldName) dX5_takeTell_198 mlX5_93 mvX5_takeOldName rfl (st7 hs) (by decide) rfl (by decide) (by decide) (Nat.le_of_ble_eq_true rfl) (c_X5_takeOldName_f l g _ (by exact hs) (p := 10) (t := (t + 1)) (by refine ck_R_t (t' := (t + 1)) hR ?_ ?_ ?_ ?_ (by omega) ?_ ?_ <;> first | exact rfl | exact h4 | exact h5) k2 _ _) rfl ?_
          refine xn_if_eq (tgt := 226) dX5_takeTell_201 rfl (by omega) (fun c2 => ?_) (fun c2 => ?_)
          · refine xe_iconst dX5_takeTell_226 kc_0 ?_
            refine xe_ireturn dX5_takeTell_227 rfl (by first | rfl | decide +kernel) ?_
            exact ⟨rfl, (by repeat (first | exact fr_r | refine fr_I (by decide) ?_ | refine fr_J (by decide) ?_)), rfl, rfl⟩
          · omega
      | none =>
        have go2 := ck_gn hR.2.2.1 (show t + 1 ≤ m by omega) k2 (by decide) (by decide)
        cases kf : tx_find (tk_N K (t + 1)) (ps_m s) 0 with
        | some j =>
          have kj := tx_find_lt _ 0 j kf
          show q_Ct l g 23 mX5_takeTell _ h (q_tlA K m 10 h (tx_r (tx_law K (t + 2)) _))
          cases kl : tx_law K (t + 2) with
          | inl er =>
            refine q_CtV mvX5_takeTell (Nat.le_of_ble_eq_true rfl) ?_
            refine xe_aload_n dX5_takeTell_0 rfl ?_
            refine xe_getIv dX5_takeTell_1 flX5_41 (st7 hs) (by decide) rfl (v := nI 261) (hk5) ?_
            refine xe_tsw_in (tgt := 176) dX5_takeTell_4 (by decide) (by decide) rfl rfl ?_
            refine xe_aload_n dX5_takeTell_176 rfl ?_
            refine xe_sipush dX5_takeTell_177 ks_261 ?_
            refine xe_callVI (d' := 0) (y' := mX5_take) dX5_takeTell_180 mlX5_63 mvX5_take rfl (st7 hs) (by decide) rfl (by decide) (by decide) (Nat.le_of_ble_eq_true rfl) (c_X5_take_t l g _ (by exact hs) (p := 10) (t := t) (by refine ck_R_t (t' := t) hR ?_ ?_ ?_ ?_ (by omega) ?_ ?_ <;> first | exact rfl | exact h4 | exact h5) (k := 25) (by decide) (by decide) (by decide) k1) rfl ?_
            refine xn_if_eq (tgt := 226) dX5_takeTell_183 rfl (by omega) (fun c1 => ?_) (fun c1 => ?_)
            · omega
            · refine xe_aload_n dX5_takeTell_186 rfl ?_
              refine xe_aload_n dX5_takeTell_187 rfl ?_
              refine xe_getP dX5_takeTell_188 flX5_15 (st7 hs) (by decide) rfl (sp7_0 hs) ?_
              refine xe_aload_n dX5_takeTell_191 rfl ?_
              refine xe_getP dX5_takeTell_192 flX5_26 (st7 hs) (by decide) rfl hI3 ?_
              refine xe_getIv dX5_takeTell_195 flX5_77 (st10 hs) (by decide) rfl (v := nI ((ps_m s).length)) (v3) ?_
              refine xe_callVIq (d' := 1) (y' := mX5_takeOldName) dX5_takeTell_198 mlX5_93 mvX5_takeOldName rfl (st7 hs) (by decide) rfl (by decide) (by decide) (Nat.le_of_ble_eq_true rfl) (c_X5_takeOldName8_t l g _ (by exact hs) (p := 10) (t := (t + 1)) (by refine ck_R_t (t' := (t + 1)) hR ?_ ?_ ?_ ?_ (by omega) ?_ ?_ <;> first | exact rfl | exact h4 | exact h5) (by exact vE) (ns := ps_m s) (by exact vN8) k2) rfl (fun h2 hq2 => ?_)
              obtain ⟨a2, b2, rfl, hl2⟩ := hq2
              refine xn_if_eq (tgt := 226) dX5_takeTell_201 rfl (by omega) (fun c3 => ?_) (fun c3 => ?_)
              · omega
              · refine xe_aload_n dX5_takeTell_204 rfl ?_
                refine xe_aload_n dX5_takeTell_205 rfl ?_
                refine xe_getP dX5_takeTell_206 flX5_26 (st7 hs) (by decide) rfl hI3 ?_
                refine xe_getP dX5_takeTell_209 flX5_110 (st10 hs) (by decide) rfl (sp10_11 hs) ?_
                refine xe_aload_n dX5_takeTell_212 rfl ?_
                refine xe_getIv dX5_takeTell_213 flX5_70 (st7 hs) (by decide) rfl (v := nI j) ((by show q_ofi (tx_find (tk_N K (t + 1)) (ps_m s) 0) = _; rw [kf]; rfl)) ?_
                refine xe_callVIq (d' := 22) (y' := mX5_takeLaw) dX5_takeTell_216 mlX5_100 mvX5_takeLaw rfl (st7 hs) (by decide) rfl (by decide) (by decide) (Nat.le_of_ble_eq_true rfl) (lw_inl kl (c_X5_takeLaw10_7 l g _ (by exact hs) (t := (t + 1 + 1)) (n := n) (by refine ck_R_t (t' := (t + 1 + 1)) hR ?_ ?_ ?_ ?_ (by omega) ?_ ?_ <;> first | exact rfl | exact h4 | exact h5) (by exact v2) (by omega) (j := j) (by omega))) rfl (fun h1 hq => ?_)
                refine xn_if_eq (tgt := 226) dX5_takeTell_219 rfl (by omega) (fun c4 => ?_) (fun c4 => ?_)
                · refine xe_iconst dX5_takeTell_226 kc_0 ?_
                  refine xe_ireturn dX5_takeTell_227 rfl (by first | rfl | decide +kernel) ?_
                  exact ⟨rfl, (fr_em (by repeat (first | exact fr_r | refine fr_I (by decide) ?_ | refine fr_J (by decide) ?_)) hq.1), hq.2.1, hq.2.2⟩
                · omega
          | inr x =>
            refine q_CtV mvX5_takeTell (Nat.le_of_ble_eq_true rfl) ?_
            refine xe_aload_n dX5_takeTell_0 rfl ?_
            refine xe_getIv dX5_takeTell_1 flX5_41 (st7 hs) (by decide) rfl (v := nI 261) (hk5) ?_
            refine xe_tsw_in (tgt := 176) dX5_takeTell_4 (by decide) (by decide) rfl rfl ?_
            refine xe_aload_n dX5_takeTell_176 rfl ?_
            refine xe_sipush dX5_takeTell_177 ks_261 ?_
            refine xe_callVI (d' := 0) (y' := mX5_take) dX5_takeTell_180 mlX5_63 mvX5_take rfl (st7 hs) (by decide) rfl (by decide) (by decide) (Nat.le_of_ble_eq_true rfl) (c_X5_take_t l g _ (by exact hs) (p := 10) (t := t) (by refine ck_R_t (t' := t) hR ?_ ?_ ?_ ?_ (by omega) ?_ ?_ <;> first | exact rfl | exact h4 | exact h5) (k := 25) (by decide) (by decide) (by decide) k1) rfl ?_
            refine xn_if_eq (tgt := 226) dX5_takeTell_183 rfl (by omega) (fun c1 => ?_) (fun c1 => ?_)
            · omega
            · refine xe_aload_n dX5_takeTell_186 rfl ?_
              refine xe_aload_n dX5_takeTell_187 rfl ?_
              refine xe_getP dX5_takeTell_188 flX5_15 (st7 hs) (by decide) rfl (sp7_0 hs) ?_
              refine xe_aload_n dX5_takeTell_191 rfl ?_
              refine xe_getP dX5_takeTell_192 flX5_26 (st7 hs) (by decide) rfl hI3 ?_
              refine xe_getIv dX5_takeTell_195 flX5_77 (st10 hs) (by decide) rfl (v := nI ((ps_m s).length)) (v3) ?_
              refine xe_callVIq (d' := 1) (y' := mX5_takeOldName) dX5_takeTell_198 mlX5_93 mvX5_takeOldName rfl (st7 hs) (by decide) rfl (by decide) (by decide) (Nat.le_of_ble_eq_true rfl) (c_X5_takeOldName8_t l g _ (by exact hs) (p := 10) (t := (t + 1)) (by refine ck_R_t (t' := (t + 1)) hR ?_ ?_ ?_ ?_ (by omega) ?_ ?_ <;> first | exact rfl | exact h4 | exact h5) (by exact vE) (ns := ps_m s) (by exact vN8) k2) rfl (fun h2 hq2 => ?_)
              obtain ⟨a2, b2, rfl, hl2⟩ := hq2
              refine xn_if_eq (tgt := 226) dX5_takeTell_201 rfl (by omega) (fun c3 => ?_) (fun c3 => ?_)
              · omega
              · refine xe_aload_n dX5_takeTell_204 rfl ?_
                refine xe_aload_n dX5_takeTell_205 rfl ?_
                refine xe_getP dX5_takeTell_206 flX5_26 (st7 hs) (by decide) rfl hI3 ?_
                refine xe_getP dX5_takeTell_209 flX5_110 (st10 hs) (by decide) rfl (sp10_11 hs) ?_
                refine xe_aload_n dX5_takeTell_212 rfl ?_
                refine xe_getIv dX5_takeTell_213 flX5_70 (st7 hs) (by decide) rfl (v := nI j) ((by show q_ofi (tx_find (tk_N K (t + 1)) (ps_m s) 0) = _; rw [kf]; rfl)) ?_
                refine xe_callVIq (d' := 22) (y' := mX5_takeLaw) dX5_takeTell_216 mlX5_100 mvX5_takeLaw rfl (st7 hs) (by decide) rfl (by decide) (by decide) (Nat.le_of_ble_eq_true rfl) (lw_inr kl (c_X5_takeLaw10_7 l g _ (by exact hs) (t := (t + 1 + 1)) (n := n) (by refine ck_R_t (t' := (t + 1 + 1)) hR ?_ ?_ ?_ ?_ (by omega) ?_ ?_ <;> first | exact rfl | exact h4 | exact h5) (by exact v2) (by omega) (j := j) (by omega))) rfl (fun h1 hq => ?_)
                refine xn_if_eq (tgt := 226) dX5_takeTell_219 rfl (by omega) (fun c4 => ?_) (fun c4 => ?_)
                · omega
                · refine xe_iconst dX5_takeTell_222 kc_1 ?_
                  refine xe_goto (tgt := 227) dX5_takeTell_223 rfl ?_
                  refine xe_ireturn dX5_takeTell_227 rfl (by first | rfl | decide +kernel) ?_
                  obtain ⟨n1, g1, g2, g3⟩ := hq
                  refine ⟨rfl, fr_em (by repeat (first | exact fr_r | refine fr_I (by decide) ?_ | refine fr_J (by decide) ?_)) (gs_em g1 (by have := g1.1; omega)), g1.1, g1.2.2.2.2.1, g1.2.2.2.2.2.1, n1, g2, ?_⟩
                  rw [kf] at hl2
                  refine v_law10_7 (by omega) hV ?_ ?_ ?_ ?_ ?_ g1 g3
                  · exact (by intro r a1 a2; repeat (first | exact rfl | refine (q_Ine (by assumption)).trans ?_))
                  · rfl
                  · rfl
                  · exact hl2
                  · exact v7
        | none =>
          show q_Ct l g 23 mX5_takeTell _ h (q_tlA K m 10 h (tx_r (tx_law K (t + 2)) _))
          cases kl : tx_law K (t + 2) with
          | inl er =>
            refine q_CtV mvX5_takeTell (Nat.le_of_ble_eq_true rfl) ?_
            refine xe_aload_n dX5_takeTell_0 rfl ?_
            refine xe_getIv dX5_takeTell_1 flX5_41 (st7 hs) (by decide) rfl (v := nI 261) (hk5) ?_
            refine xe_tsw_in (tgt := 176) dX5_takeTell_4 (by decide) (by decide) rfl rfl ?_
            refine xe_aload_n dX5_takeTell_176 rfl ?_
            refine xe_sipush dX5_takeTell_177 ks_261 ?_
            refine xe_callVI (d' := 0) (y' := mX5_take) dX5_takeTell_180 mlX5_63 mvX5_take rfl (st7 hs) (by decide) rfl (by decide) (by decide) (Nat.le_of_ble_eq_true rfl) (c_X5_take_t l g _ (by exact hs) (p := 10) (t := t) (by refine ck_R_t (t' := t) hR ?_ ?_ ?_ ?_ (by omega) ?_ ?_ <;> first | exact rfl | exact h4 | exact h5) (k := 25) (by decide) (by decide) (by decide) k1) rfl ?_
            refine xn_if_eq (tgt := 226) dX5_takeTell_183 rfl (by omega) (fun c1 => ?_) (fun c1 => ?_)
            · omega
            · refine xe_aload_n dX5_takeTell_186 rfl ?_
              refine xe_aload_n dX5_takeTell_187 rfl ?_
              refine xe_getP dX5_takeTell_188 flX5_15 (st7 hs) (by decide) rfl (sp7_0 hs) ?_
              refine xe_aload_n dX5_takeTell_191 rfl ?_
              refine xe_getP dX5_takeTell_192 flX5_26 (st7 hs) (by decide) rfl hI3 ?_
              refine xe_getIv dX5_takeTell_195 flX5_77 (st10 hs) (by decide) rfl (v := nI ((ps_m s).length)) (v3) ?_
              refine xe_callVIq (d' := 1) (y' := mX5_takeOldName) dX5_takeTell_198 mlX5_93 mvX5_takeOldName rfl (st7 hs) (by decide) rfl (by decide) (by decide) (Nat.le_of_ble_eq_true rfl) (c_X5_takeOldName8_t l g _ (by exact hs) (p := 10) (t := (t + 1)) (by refine ck_R_t (t' := (t + 1)) hR ?_ ?_ ?_ ?_ (by omega) ?_ ?_ <;> first | exact rfl | exact h4 | exact h5) (by exact vE) (ns := ps_m s) (by exact vN8) k2) rfl (fun h2 hq2 => ?_)
              obtain ⟨a2, b2, rfl, hl2⟩ := hq2
              refine xn_if_eq (tgt := 226) dX5_takeTell_201 rfl (by omega) (fun c3 => ?_) (fun c3 => ?_)
              · omega
              · refine xe_aload_n dX5_takeTell_204 rfl ?_
                refine xe_aload_n dX5_takeTell_205 rfl ?_
                refine xe_getP dX5_takeTell_206 flX5_26 (st7 hs) (by decide) rfl hI3 ?_
                refine xe_getP dX5_takeTell_209 flX5_110 (st10 hs) (by decide) rfl (sp10_11 hs) ?_
                refine xe_aload_n dX5_takeTell_212 rfl ?_
                refine xe_getIv dX5_takeTell_213 flX5_70 (st7 hs) (by decide) rfl (v := (-1)) ((by show q_ofi (tx_find (tk_N K (t + 1)) (ps_m s) 0) = _; rw [kf]; rfl)) ?_
                refine xe_callVIq (d' := 22) (y' := mX5_takeLaw) dX5_takeTell_216 mlX5_100 mvX5_takeLaw rfl (st7 hs) (by decide) rfl (by decide) (by decide) (Nat.le_of_ble_eq_true rfl) (lw_inl kl (c_X5_takeLaw10_n l g _ (by exact hs) (t := (t + 1 + 1)) (n := n) (by refine ck_R_t (t' := (t + 1 + 1)) hR ?_ ?_ ?_ ?_ (by omega) ?_ ?_ <;> first | exact rfl | exact h4 | exact h5) (by exact v2) (by omega) _)) rfl (fun h1 hq => ?_)
                refine xn_if_eq (tgt := 226) dX5_takeTell_219 rfl (by omega) (fun c4 => ?_) (fun c4 => ?_)
                · refine xe_iconst dX5_takeTell_226 kc_0 ?_
                  refine xe_ireturn dX5_takeTell_227 rfl (by first | rfl | decide +kernel) ?_
                  exact ⟨rfl, (fr_em (by repeat (first | exact fr_r | refine fr_I (by decide) ?_ | refine fr_J (by decide) ?_)) hq.1), hq.2.1, hq.2.2⟩
                · omega
          | inr x =>
            refine q_CtV mvX5_takeTell (Nat.le_of_ble_eq_true rfl) ?_
            refine xe_aload_n dX5_takeTell_0 rfl ?_
            refine xe_getIv dX5_takeTell_1 flX5_41 (st7 hs) (by decide) rfl (v := nI 261) (hk5) ?_
            refine xe_tsw_in (tgt := 176) dX5_takeTell_4 (by decide) (by decide) rfl rfl ?_
            refine xe_aload_n dX5_takeTell_176 rfl ?_
            refine xe_sipush dX5_takeTell_177 ks_261 ?_
            refine xe_callVI (d' := 0) (y' := mX5_take) dX5_takeTell_180 mlX5_63 mvX5_take rfl (st7 hs) (by decide) rfl (by decide) (by decide) (Nat.le_of_ble_eq_true rfl) (c_X5_take_t l g _ (by exact hs) (p := 10) (t := t) (by refine ck_R_t (t' := t) hR ?_ ?_ ?_ ?_ (by omega) ?_ ?_ <;> first | exact rfl | exact h4 | exact h5) (k := 25) (by decide) (by decide) (by decide) k1) rfl ?_
            refine xn_if_eq (tgt := 226) dX5_takeTell_183 rfl (by omega) (fun c1 => ?_) (fun c1 => ?_)
            · omega
            · refine xe_aload_n dX5_takeTell_186 rfl ?_
              refine xe_aload_n dX5_takeTell_187 rfl ?_
              refine xe_getP dX5_takeTell_188 flX5_15 (st7 hs) (by decide) rfl (sp7_0 hs) ?_
              refine xe_aload_n dX5_takeTell_191 rfl ?_
              refine xe_getP dX5_takeTell_192 flX5_26 (st7 hs) (by decide) rfl hI3 ?_
              refine xe_getIv dX5_takeTell_195 flX5_77 (st10 hs) (by decide) rfl (v := nI ((ps_m s).length)) (v3) ?_
              refine xe_callVIq (d' := 1) (y' := mX5_takeOldName) dX5_takeTell_198 mlX5_93 mvX5_takeOldName rfl (st7 hs) (by decide) rfl (by decide) (by decide) (Nat.le_of_ble_eq_true rfl) (c_X5_takeOldName8_t l g _ (by exact hs) (p := 10) (t := (t + 1)) (by refine ck_R_t (t' := (t + 1)) hR ?_ ?_ ?_ ?_ (by omega) ?_ ?_ <;> first | exact rfl | exact h4 | exact h5) (by exact vE) (ns := ps_m s) (by exact vN8) k2) rfl (fun h2 hq2 => ?_)
              obtain ⟨a2, b2, rfl, hl2⟩ := hq2
              refine xn_if_eq (tgt := 226) dX5_takeTell_201 rfl (by omega) (fun c3 => ?_) (fun c3 => ?_)
              · omega
              · refine xe_aload_n dX5_takeTell_204 rfl ?_
                refine xe_aload_n dX5_takeTell_205 rfl ?_
                refine xe_getP dX5_takeTell_206 flX5_26 (st7 hs) (by decide) rfl hI3 ?_
                refine xe_getP dX5_takeTell_209 flX5_110 (st10 hs) (by decide) rfl (sp10_11 hs) ?_
                refine xe_aload_n dX5_takeTell_212 rfl ?_
                refine xe_getIv dX5_takeTell_213 flX5_70 (st7 hs) (by decide) rfl (v := (-1)) ((by show q_ofi (tx_find (tk_N K (t + 1)) (ps_m s) 0) = _; rw [kf]; rfl)) ?_
                refine xe_callVIq (d' := 22) (y' := mX5_takeLaw) dX5_takeTell_216 mlX5_100 mvX5_takeLaw rfl (st7 hs) (by decide) rfl (by decide) (by decide) (Nat.le_of_ble_eq_true rfl) (lw_inr kl (c_X5_takeLaw10_n l g _ (by exact hs) (t := (t + 1 + 1)) (n := n) (by refine ck_R_t (t' := (t + 1 + 1)) hR ?_ ?_ ?_ ?_ (by omega) ?_ ?_ <;> first | exact rfl | exact h4 | exact h5) (by exact v2) (by omega) _)) rfl (fun h1 hq => ?_)
                refine xn_if_eq (tgt := 226) dX5_takeTell_219 rfl (by omega) (fun c4 => ?_) (fun c4 => ?_)
                · omega
                · refine xe_iconst dX5_takeTell_222 kc_1 ?_
                  refine xe_goto (tgt := 227) dX5_takeTell_223 rfl ?_
                  refine xe_ireturn dX5_takeTell_227 rfl (by first | rfl | decide +kernel) ?_
                  obtain ⟨n1, g1, g2, g3⟩ := hq
                  refine ⟨rfl, fr_em (by repeat (first | exact fr_r | refine fr_I (by decide) ?_ | refine fr_J (by decide) ?_)) (gs_em g1 (by have := g1.1; omega)), g1.1, g1.2.2.2.2.1, g1.2.2.2.2.2.1, n1, g2, ?_⟩
                  rw [kf] at hl2
                  refine v_law10_n hV ?_ ?_ ?_ ?_ g1 g3
                  · exact (by intro r a1; repeat (first | exact rfl | refine (q_Ine (by assumption)).trans ?_))
                  · rfl
                  · exact hl2
                  · exact v7
  rw [if_neg t25]
  by_cases t26 : tk_T K t = 26
  · rw [if_pos t26]
    have hk5 : q_I h 7 5 = nI 262 := h5.trans (by rw [t26]; rfl)
    refine q_CtV mvX5_takeTell (Nat.le_of_ble_eq_true rfl) ?_
    refine xe_aload_n dX5_takeTell_0 rfl ?_
    refine xe_getIv dX5_takeTell_1 flX5_41 (st7 hs) (by decide) rfl (v := nI 262) (hk5) ?_
    refine xe_tsw_in (tgt := 228) dX5_takeTell_4 (by decide) (by decide) rfl rfl ?_
    refine xe_aload_n dX5_takeTell_228 rfl ?_
    refine xe_callVIn (d' := 2) (y' := mX5_takeCold) dX5_takeTell_229 mlX5_113 mvX5_takeCold rfl (st7 hs) (by decide) rfl (by decide) (by decide) (Nat.le_of_ble_eq_true rfl) (hpass _ _ (c_X5_takeCold10 l g _ hs hR hV hnt)) rfl (fun rv h1 hq => ?_)
    refine xe_ireturn dX5_takeTell_232 rfl (by rcases hq.2 with q | q <;> rw [q] <;> decide +kernel) ?_
    exact hq.1
  rw [if_neg t26]
  by_cases t27 : tk_T K t = 27
  · rw [if_pos t27]
    have hk5 : q_I h 7 5 = nI 263 := h5.trans (by rw [t27]; rfl)
    refine q_CtV mvX5_takeTell (Nat.le_of_ble_eq_true rfl) ?_
    refine xe_aload_n dX5_takeTell_0 rfl ?_
    refine xe_getIv dX5_takeTell_1 flX5_41 (st7 hs) (by decide) rfl (v := nI 263) (hk5) ?_
    refine xe_tsw_in (tgt := 233) dX5_takeTell_4 (by decide) (by decide) rfl rfl ?_
    refine xe_aload_n dX5_takeTell_233 rfl ?_
    refine xe_callVIn (d' := 2) (y' := mX5_takeMoult) dX5_takeTell_234 mlX5_116 mvX5_takeMoult rfl (st7 hs) (by decide) rfl (by decide) (by decide) (Nat.le_of_ble_eq_true rfl) (hpass _ _ (c_X5_takeMoult10 l g _ hs hR hV hnt)) rfl (fun rv h1 hq => ?_)
    refine xe_ireturn dX5_takeTell_237 rfl (by rcases hq.2 with q | q <;> rw [q] <;> decide +kernel) ?_
    exact hq.1
  rw [if_neg t27]
  have hsw : (q_kap (tk_T K t)).toInt < 256 ∨ 263 < (q_kap (tk_T K t)).toInt := q_kap_sw ⟨tk_T K t, tk_lt hok⟩ hok (by show ¬ (20 ≤ tk_T K t ∧ tk_T K t ≤ 27); omega)
  refine q_CtV mvX5_takeTell (Nat.le_of_ble_eq_true rfl) ?_
  refine xe_aload_n dX5_takeTell_0 rfl ?_
  refine xe_getIv dX5_takeTell_1 flX5_41 (st7 hs) (by decide) rfl (v := (q_kap (tk_T K t))) (h5) ?_
  refine xe_tsw_out (tgt := 238) dX5_takeTell_4 (hsw) rfl ?_
  refine xe_aload_n dX5_takeTell_238 rfl ?_
  refine xe_iconst dX5_takeTell_239 kc_1 ?_
  refine xe_callVI (d' := 0) (y' := mX5_fail) dX5_takeTell_240 mlX5_119 mvX5_fail rfl (st7 hs) (by decide) rfl (by decide) (by decide) (Nat.le_of_ble_eq_true rfl) (c_X5_fail l g _ (by exact hs) (p := 10) (t := t) (by refine ck_R_t (t' := t) hR ?_ ?_ ?_ ?_ (by omega) ?_ ?_ <;> first | exact rfl | exact h4 | exact h5) _) rfl ?_
  refine xe_ireturn dX5_takeTell_243 rfl (by first | rfl | decide +kernel) ?_
  exact ⟨rfl, (by repeat (first | exact fr_r | refine fr_I (by decide) ?_ | refine fr_J (by decide) ?_)), rfl, rfl⟩
theorem co_out22 (l : Launch) (g : q_GP) (h : q_H) {d i : Nat} (hi : i ≤ 13) {Q : Option Value → q_H → Prop} (q : Q (some (.int (nI 0))) h) : q_Ex l g d mX5_takeCold 18 [(0, .ref 7), (1, .int (nI 0)), (2, .int (nI i))] [] h Q := by
  refine xe_iload_n dX5_takeCold_18 rfl ?_
  refine xe_bipush dX5_takeCold_19 kb_12 ?_
  refine xn_icmp_gt (tgt := 92) dX5_takeCold_21 rfl (by omega) (by omega) (fun c1 => ?_) (fun c1 => ?_)
  · refine xe_iload_n dX5_takeCold_92 rfl ?_
    refine xn_if_eq (tgt := 109) dX5_takeCold_93 rfl (by omega) (fun c2 => ?_) (fun c2 => ?_)
    · refine xe_iconst dX5_takeCold_109 kc_0 ?_
      refine xe_ireturn dX5_takeCold_110 rfl (by first | rfl | decide +kernel) ?_
      exact q
    · omega
  · refine xe_iload_n dX5_takeCold_24 rfl ?_
    refine xn_if_eq (tgt := 92) dX5_takeCold_25 rfl (by omega) (fun c3 => ?_) (fun c3 => ?_)
    · refine xe_iload_n dX5_takeCold_92 rfl ?_
      refine xn_if_eq (tgt := 109) dX5_takeCold_93 rfl (by omega) (fun c4 => ?_) (fun c4 => ?_)
      · refine xe_iconst dX5_takeCold_109 kc_0 ?_
        refine xe_ireturn dX5_takeCold_110 rfl (by first | rfl | decide +kernel) ?_
        exact q
      · omega
    · omega
theorem co_loop22 (l : Launch) (g : q_GP) {K : q_TK} {m t0 : Nat} {h0 : q_H} (hR0 : ck_R h0 K m 22 t0) : ∀ (k : Nat) (c : List Nat) (e : Option (Nat × Nat)) (t : Nat) (h : q_H), q_Stat h → c.length + k = 12 → q_cor K m 22 h0 h t c e → q_Ex l g 2 mX5_takeCold 18 [(0, .ref 7), (1, .int (nI 1)), (2, .int (nI c.length))] [] h (q_coA K m 22 h0 (tx_co K k c e t)) := by
  intro k
  induction k with
  | zero =>
    intro c e t h hs hck ha
    have hR := cor_R (by decide) hR0 ha
    have hI2 := hR.1
    have hI3 := hR.2.1
    have h4 := hR.2.2.2.2.1
    have h5 := hR.2.2.2.2.2
    have h4m := hR.2.2.1.1
    have htm := hR.2.2.2.1
    have hok := (hR.2.2.1.2.2 t htm).1
    obtain ⟨a1, a2, a3, a4, a5, a6, a7, a8, a9, a10⟩ := id ha
    have hfr := cor_fr ha
    rw [tx_co]
    by_cases h2 : tk_T K t = 2
    · rw [if_pos h2]
      have hk5 : q_I h 7 5 = nI 2 := h5.trans (by rw [h2]; rfl)
      refine xe_iload_n dX5_takeCold_18 rfl ?_
      refine xe_bipush dX5_takeCold_19 kb_12 ?_
      refine xn_icmp_gt (tgt := 92) dX5_takeCold_21 rfl (by omega) (by omega) (fun c1 => ?_) (fun c1 => ?_)
      · omega
      · refine xe_iload_n dX5_takeCold_24 rfl ?_
        refine xn_if_eq (tgt := 92) dX5_takeCold_25 rfl (by omega) (fun c2 => ?_) (fun c2 => ?_)
        · omega
        · refine xe_aload_n dX5_takeCold_28 rfl ?_
          refine xe_getIv dX5_takeCold_29 flX5_41 (st7 hs) (by decide) rfl (v := nI 2) (hk5) ?_
          refine xe_iconst dX5_takeCold_32 kc_2 ?_
          refine xn_icmp_ne (tgt := 92) dX5_takeCold_33 rfl (by omega) (by omega) (fun c3 => ?_) (fun c3 => ?_)
          · omega
          · refine xe_iload_n dX5_takeCold_36 rfl ?_
            refine xe_bipush dX5_takeCold_37 kb_12 ?_
            refine xn_icmp_ge (tgt := 53) dX5_takeCold_39 rfl (by omega) (by omega) (fun c4 => ?_) (fun c4 => ?_)
            · refine xe_aload_n dX5_takeCold_53 rfl ?_
              refine xe_iconst dX5_takeCold_54 kc_2 ?_
              refine xe_callVI (d' := 0) (y' := mX5_fail) dX5_takeCold_55 mlX5_119 mvX5_fail rfl (st7 hs) (by decide) rfl (by decide) (by decide) (Nat.le_of_ble_eq_true rfl) (c_X5_fail l g _ (by exact hs) (p := 22) (t := t) (by refine ck_R_t (t' := t) hR ?_ ?_ ?_ ?_ (by omega) ?_ ?_ <;> first | exact rfl | exact h4 | exact h5) _) rfl ?_
              refine xe_istore_n (i := 1) dX5_takeCold_58 rfl (by decide) rfl ?_
              refine xe_iload_n dX5_takeCold_59 rfl ?_
              refine xn_if_eq (tgt := 86) dX5_takeCold_60 rfl (by omega) (fun c5 => ?_) (fun c5 => ?_)
              · refine xn_iinc dX5_takeCold_86 rfl kc_1 ?_
                refine xe_goto (tgt := 18) dX5_takeCold_89 rfl ?_
                refine xe_locals (L' := [(0, .ref 7), (1, .int (nI 0)), (2, .int (nI (c.length + 1)))]) (And.intro rfl (And.intro rfl (And.intro rfl trivial))) ?_
                exact co_out22 l g _ (by omega) ⟨rfl, (by repeat (first | exact hfr | refine fr_I (by decide) ?_ | refine fr_J (by decide) ?_)), rfl, rfl⟩
              · refine xe_aload_n dX5_takeCold_63 rfl ?_
                refine xe_getP dX5_takeCold_64 flX5_26 (st7 hs) (by decide) rfl hI3 ?_
                refine xe_getP dX5_takeCold_67 flX5_138 (st22 hs) (by decide) rfl (sp22_9 hs) ?_
                refine xe_iload_n dX5_takeCold_70 rfl ?_
                refine xe_aload_n dX5_takeCold_71 rfl ?_
                refine xe_getIv dX5_takeCold_72 flX5_70 (st7 hs) (by decide) rfl (v := (q_I h 7 6)) (rfl) ?_
                refine xn_iast dX5_takeCold_75 (st27 hs) (by omega) (by decide) ?_
                refine xe_aload_n dX5_takeCold_76 rfl ?_
                refine xe_getP dX5_takeCold_77 flX5_26 (st7 hs) (by decide) rfl hI3 ?_
                refine xe_iload_n dX5_takeCold_80 rfl ?_
                refine xe_iconst dX5_takeCold_81 kc_1 ?_
                refine xn_iadd dX5_takeCold_82 ?_
                refine xe_putI dX5_takeCold_83 flX5_135 (st22 hs) (by decide) rfl (Or.inl rfl) rfl rfl ?_
                refine xn_iinc dX5_takeCold_86 rfl kc_1 ?_
                refine xe_goto (tgt := 18) dX5_takeCold_89 rfl ?_
                refine xe_locals (L' := [(0, .ref 7), (1, .int (nI 0)), (2, .int (nI (c.length + 1)))]) (And.intro rfl (And.intro rfl (And.intro rfl trivial))) ?_
                exact co_out22 l g _ (by omega) ⟨rfl, (by repeat (first | exact hfr | refine fr_I (by decide) ?_ | refine fr_J (by decide) ?_)), rfl, rfl⟩
            · omega
    · skip
      rw [if_neg h2]
      cases k1 : tx_ck (tk_T K) 4 t with
      | some er =>
        refine xe_iload_n dX5_takeCold_18 rfl ?_
        refine xe_bipush dX5_takeCold_19 kb_12 ?_
        refine xn_icmp_gt (tgt := 92) dX5_takeCold_21 rfl (by omega) (by omega) (fun c1 => ?_) (fun c1 => ?_)
        · omega
        · refine xe_iload_n dX5_takeCold_24 rfl ?_
          refine xn_if_eq (tgt := 92) dX5_takeCold_25 rfl (by omega) (fun c2 => ?_) (fun c2 => ?_)
          · omega
          · refine xe_aload_n dX5_takeCold_28 rfl ?_
            refine xe_getIv dX5_takeCold_29 flX5_41 (st7 hs) (by decide) rfl (v := (q_kap (tk_T K t))) (h5) ?_
            refine xe_iconst dX5_takeCold_32 kc_2 ?_
            refine xe_icmp_ne (tgt := 92) dX5_takeCold_33 rfl (fun c3 => ?_) (fun c3 => ?_)
            · refine xe_iload_n dX5_takeCold_92 rfl ?_
              refine xn_if_eq (tgt := 109) dX5_takeCold_93 rfl (by omega) (fun c4 => ?_) (fun c4 => ?_)
              · omega
              · refine xe_aload_n dX5_takeCold_96 rfl ?_
                refine xe_bipush dX5_takeCold_97 kb_59 ?_
                refine xe_callVI (d' := 0) (y' := mX5_take) dX5_takeCold_99 mlX5_63 mvX5_take rfl (st7 hs) (by decide) rfl (by decide) (by decide) (Nat.le_of_ble_eq_true rfl) (c_X5_take_f l g _ (by exact hs) (p := 22) (t := t) (by refine ck_R_t (t' := t) hR ?_ ?_ ?_ ?_ (by omega) ?_ ?_ <;> first | exact rfl | exact h4 | exact h5) (k := 4) (by decide) (by decide) k1) rfl ?_
                refine xn_if_eq (tgt := 109) dX5_takeCold_102 rfl (by omega) (fun c5 => ?_) (fun c5 => ?_)
                · refine xe_iconst dX5_takeCold_109 kc_0 ?_
                  refine xe_ireturn dX5_takeCold_110 rfl (by first | rfl | decide +kernel) ?_
                  exact ⟨rfl, (by repeat (first | exact hfr | refine fr_I (by decide) ?_ | refine fr_J (by decide) ?_)), rfl, rfl⟩
                · omega
            · exact absurd (q_kap_inj (b := 2) hok (by decide) (by decide) c3) h2
      | none =>
        have go1 := ck_gn hR.2.2.1 (show t ≤ m by omega) k1 (by decide) (by decide)
        refine xe_iload_n dX5_takeCold_18 rfl ?_
        refine xe_bipush dX5_takeCold_19 kb_12 ?_
        refine xn_icmp_gt (tgt := 92) dX5_takeCold_21 rfl (by omega) (by omega) (fun c1 => ?_) (fun c1 => ?_)
        · omega
        · refine xe_iload_n dX5_takeCold_24 rfl ?_
          refine xn_if_eq (tgt := 92) dX5_takeCold_25 rfl (by omega) (fun c2 => ?_) (fun c2 => ?_)
          · omega
          · refine xe_aload_n dX5_takeCold_28 rfl ?_
            refine xe_getIv dX5_takeCold_29 flX5_41 (st7 hs) (by decide) rfl (v := (q_kap (tk_T K t))) (h5) ?_
            refine xe_iconst dX5_takeCold_32 kc_2 ?_
            refine xe_icmp_ne (tgt := 92) dX5_takeCold_33 rfl (fun c3 => ?_) (fun c3 => ?_)
            · refine xe_iload_n dX5_takeCold_92 rfl ?_
              refine xn_if_eq (tgt := 109) dX5_takeCold_93 rfl (by omega) (fun c4 => ?_) (fun c4 => ?_)
              · omega
              · refine xe_aload_n dX5_takeCold_96 rfl ?_
                refine xe_bipush dX5_takeCold_97 kb_59 ?_
                refine xe_callVI (d' := 0) (y' := mX5_take) dX5_takeCold_99 mlX5_63 mvX5_take rfl (st7 hs) (by decide) rfl (by decide) (by decide) (Nat.le_of_ble_eq_true rfl) (c_X5_take_t l g _ (by exact hs) (p := 22) (t := t) (by refine ck_R_t (t' := t) hR ?_ ?_ ?_ ?_ (by omega) ?_ ?_ <;> first | exact rfl | exact h4 | exact h5) (k := 4) (by decide) (by decide) (by decide) k1) rfl ?_
                refine xn_if_eq (tgt := 109) dX5_takeCold_102 rfl (by omega) (fun c5 => ?_) (fun c5 => ?_)
                · omega
                · refine xe_iconst dX5_takeCold_105 kc_1 ?_
                  refine xe_goto (tgt := 110) dX5_takeCold_106 rfl ?_
                  refine xe_ireturn dX5_takeCold_110 rfl (by first | rfl | decide +kernel) ?_
                  exact ⟨rfl, ⟨by show t + 1 ≤ m; omega, a2, fun r b1 b2 b3 => (q_Ine b1).trans (a3 r b1 b2 b3), a4, a5, a6, rfl, rfl, a9, a10⟩, by show c.length ≤ 12; omega⟩
            · exact absurd (q_kap_inj (b := 2) hok (by decide) (by decide) c3) h2
  | succ k ih =>
    intro c e t h hs hck ha
    have hR := cor_R (by decide) hR0 ha
    have hI2 := hR.1
    have hI3 := hR.2.1
    have h4 := hR.2.2.2.2.1
    have h5 := hR.2.2.2.2.2
    have h4m := hR.2.2.1.1
    have htm := hR.2.2.2.1
    have hok := (hR.2.2.1.2.2 t htm).1
    obtain ⟨a1, a2, a3, a4, a5, a6, a7, a8, a9, a10⟩ := id ha
    have hfr := cor_fr ha
    rw [tx_co]
    by_cases h2 : tk_T K t = 2
    · rw [if_pos h2]
      have hk5 : q_I h 7 5 = nI 2 := h5.trans (by rw [h2]; rfl)
      cases k1 : tx_ck (tk_T K) 2 t with
      | some er =>
        refine xe_iload_n dX5_takeCold_18 rfl ?_
        refine xe_bipush dX5_takeCold_19 kb_12 ?_
        refine xn_icmp_gt (tgt := 92) dX5_takeCold_21 rfl (by omega) (by omega) (fun c1 => ?_) (fun c1 => ?_)
        · omega
        · refine xe_iload_n dX5_takeCold_24 rfl ?_
          refine xn_if_eq (tgt := 92) dX5_takeCold_25 rfl (by omega) (fun c2 => ?_) (fun c2 => ?_)
          · omega
          · refine xe_aload_n dX5_takeCold_28 rfl ?_
            refine xe_getIv dX5_takeCold_29 flX5_41 (st7 hs) (by decide) rfl (v := nI 2) (hk5) ?_
            refine xe_iconst dX5_takeCold_32 kc_2 ?_
            refine xn_icmp_ne (tgt := 92) dX5_takeCold_33 rfl (by omega) (by omega) (fun c3 => ?_) (fun c3 => ?_)
            · omega
            · refine xe_iload_n dX5_takeCold_36 rfl ?_
              refine xe_bipush dX5_takeCold_37 kb_12 ?_
              refine xn_icmp_ge (tgt := 53) dX5_takeCold_39 rfl (by omega) (by omega) (fun c4 => ?_) (fun c4 => ?_)
              · omega
              · refine xe_aload_n dX5_takeCold_42 rfl ?_
                refine xe_iconst dX5_takeCold_43 kc_0 ?_
                refine xe_sipush dX5_takeCold_44 ks_999 ?_
                refine xe_callVI (d' := 1) (y' := mX5_takeInt) dX5_takeCold_47 mlX5_125 mvX5_takeInt rfl (st7 hs) (by decide) rfl (by decide) (by decide) (Nat.le_of_ble_eq_true rfl) (c_X5_takeInt_f l g _ (by exact hs) (p := 22) (t := t) (by refine ck_R_t (t' := t) hR ?_ ?_ ?_ ?_ (by omega) ?_ ?_ <;> first | exact rfl | exact h4 | exact h5) k1 _ _) rfl ?_
                refine xe_goto (tgt := 58) dX5_takeCold_50 rfl ?_
                refine xe_istore_n (i := 1) dX5_takeCold_58 rfl (by decide) rfl ?_
                refine xe_iload_n dX5_takeCold_59 rfl ?_
                refine xn_if_eq (tgt := 86) dX5_takeCold_60 rfl (by omega) (fun c5 => ?_) (fun c5 => ?_)
                · refine xn_iinc dX5_takeCold_86 rfl kc_1 ?_
                  refine xe_goto (tgt := 18) dX5_takeCold_89 rfl ?_
                  refine xe_locals (L' := [(0, .ref 7), (1, .int (nI 0)), (2, .int (nI (c.length + 1)))]) (And.intro rfl (And.intro rfl (And.intro rfl trivial))) ?_
                  exact co_out22 l g _ (by omega) ⟨rfl, (by repeat (first | exact hfr | refine fr_I (by decide) ?_ | refine fr_J (by decide) ?_)), rfl, rfl⟩
                · omega
      | none =>
        have go1 := ck_gn hR.2.2.1 (show t ≤ m by omega) k1 (by decide) (by decide)
        have hv := (hR.2.2.1.2.2 t htm).2.2.2.2.2 h2
        refine xe_iload_n dX5_takeCold_18 rfl ?_
        refine xe_bipush dX5_takeCold_19 kb_12 ?_
        refine xn_icmp_gt (tgt := 92) dX5_takeCold_21 rfl (by omega) (by omega) (fun c1 => ?_) (fun c1 => ?_)
        · omega
        · refine xe_iload_n dX5_takeCold_24 rfl ?_
          refine xn_if_eq (tgt := 92) dX5_takeCold_25 rfl (by omega) (fun c2 => ?_) (fun c2 => ?_)
          · omega
          · refine xe_aload_n dX5_takeCold_28 rfl ?_
            refine xe_getIv dX5_takeCold_29 flX5_41 (st7 hs) (by decide) rfl (v := nI 2) (hk5) ?_
            refine xe_iconst dX5_takeCold_32 kc_2 ?_
            refine xn_icmp_ne (tgt := 92) dX5_takeCold_33 rfl (by omega) (by omega) (fun c3 => ?_) (fun c3 => ?_)
            · omega
            · refine xe_iload_n dX5_takeCold_36 rfl ?_
              refine xe_bipush dX5_takeCold_37 kb_12 ?_
              refine xn_icmp_ge (tgt := 53) dX5_takeCold_39 rfl (by omega) (by omega) (fun c4 => ?_) (fun c4 => ?_)
              · omega
              · refine xe_aload_n dX5_takeCold_42 rfl ?_
                refine xe_iconst dX5_takeCold_43 kc_0 ?_
                refine xe_sipush dX5_takeCold_44 ks_999 ?_
                refine xe_callVIq (d' := 1) (y' := mX5_takeInt) dX5_takeCold_47 mlX5_125 mvX5_takeInt rfl (st7 hs) (by decide) rfl (by decide) (by decide) (Nat.le_of_ble_eq_true rfl) (c_X5_takeInt_t l g _ (by exact hs) (p := 22) (t := t) (by refine ck_R_t (t' := t) hR ?_ ?_ ?_ ?_ (by omega) ?_ ?_ <;> first | exact rfl | exact h4 | exact h5) (by exact a9) (lo := 0) (hi := 999) (by decide) (by decide) k1) rfl (fun h5 hq5 => ?_)
                obtain ⟨a5, b5, rfl, hl5⟩ := hq5
                refine xe_goto (tgt := 58) dX5_takeCold_50 rfl ?_
                refine xe_istore_n (i := 1) dX5_takeCold_58 rfl (by decide) rfl ?_
                refine xe_iload_n dX5_takeCold_59 rfl ?_
                refine xn_if_eq (tgt := 86) dX5_takeCold_60 rfl (by omega) (fun c6 => ?_) (fun c6 => ?_)
                · omega
                · refine xe_aload_n dX5_takeCold_63 rfl ?_
                  refine xe_getP dX5_takeCold_64 flX5_26 (st7 hs) (by decide) rfl hI3 ?_
                  refine xe_getP dX5_takeCold_67 flX5_138 (st22 hs) (by decide) rfl (sp22_9 hs) ?_
                  refine xe_iload_n dX5_takeCold_70 rfl ?_
                  refine xe_aload_n dX5_takeCold_71 rfl ?_
                  refine xe_getIv dX5_takeCold_72 flX5_70 (st7 hs) (by decide) rfl (v := nI (tk_V K t)) (rfl) ?_
                  refine xn_iast dX5_takeCold_75 (st27 hs) (by omega) (by decide) ?_
                  refine xe_aload_n dX5_takeCold_76 rfl ?_
                  refine xe_getP dX5_takeCold_77 flX5_26 (st7 hs) (by decide) rfl hI3 ?_
                  refine xe_iload_n dX5_takeCold_80 rfl ?_
                  refine xe_iconst dX5_takeCold_81 kc_1 ?_
                  refine xn_iadd dX5_takeCold_82 ?_
                  refine xe_putI dX5_takeCold_83 flX5_135 (st22 hs) (by decide) rfl (Or.inl rfl) rfl rfl ?_
                  refine xn_iinc dX5_takeCold_86 rfl kc_1 ?_
                  refine xe_goto (tgt := 18) dX5_takeCold_89 rfl ?_
                  refine xe_locals (L' := [(0, .ref 7), (1, .int (nI 1)), (2, .int (nI (c.length + 1)))]) (And.intro rfl (And.intro rfl (And.intro rfl trivial))) ?_
                  rw [show decide (tk_V K t < 0 ∨ 999 < tk_V K t) = decide (999 < tk_V K t) from decide_eq_decide.mpr ⟨fun q => q.elim (fun z => absurd z (Nat.not_lt_zero _)) id, Or.inr⟩] at hl5
                  have el : (c ++ [tk_V K t]).length = c.length + 1 := List.length_append
                  rw [← el]
                  refine ih (c ++ [tk_V K t]) _ (t + 1) _ (by exact hs) (by rw [el]; omega) ⟨by omega, a2, fun r b1 b2 b3 => (q_Ine b2).trans ((q_Ine b3).trans ((q_Ine b1).trans (a3 r b1 b2 b3))), fun j hj => (pk_un hj).trans (a4 j hj), ?_, ?_, rfl, rfl, hl5, a10⟩
                  · rw [el]
                    rfl
                  · exact q_row_app a6 rfl
    · skip
      rw [if_neg h2]
      cases k1 : tx_ck (tk_T K) 4 t with
      | some er =>
        refine xe_iload_n dX5_takeCold_18 rfl ?_
        refine xe_bipush dX5_takeCold_19 kb_12 ?_
        refine xn_icmp_gt (tgt := 92) dX5_takeCold_21 rfl (by omega) (by omega) (fun c1 => ?_) (fun c1 => ?_)
        · omega
        · refine xe_iload_n dX5_takeCold_24 rfl ?_
          refine xn_if_eq (tgt := 92) dX5_takeCold_25 rfl (by omega) (fun c2 => ?_) (fun c2 => ?_)
          · omega
          · refine xe_aload_n dX5_takeCold_28 rfl ?_
            refine xe_getIv dX5_takeCold_29 flX5_41 (st7 hs) (by decide) rfl (v := (q_kap (tk_T K t))) (h5) ?_
            refine xe_iconst dX5_takeCold_32 kc_2 ?_
            refine xe_icmp_ne (tgt := 92) dX5_takeCold_33 rfl (fun c3 => ?_) (fun c3 => ?_)
            · refine xe_iload_n dX5_takeCold_92 rfl ?_
              refine xn_if_eq (tgt := 109) dX5_takeCold_93 rfl (by omega) (fun c4 => ?_) (fun c4 => ?_)
              · omega
              · refine xe_aload_n dX5_takeCold_96 rfl ?_
                refine xe_bipush dX5_takeCold_97 kb_59 ?_
                refine xe_callVI (d' := 0) (y' := mX5_take) dX5_takeCold_99 mlX5_63 mvX5_take rfl (st7 hs) (by decide) rfl (by decide) (by decide) (Nat.le_of_ble_eq_true rfl) (c_X5_take_f l g _ (by exact hs) (p := 22) (t := t) (by refine ck_R_t (t' := t) hR ?_ ?_ ?_ ?_ (by omega) ?_ ?_ <;> first | exact rfl | exact h4 | exact h5) (k := 4) (by decide) (by decide) k1) rfl ?_
                refine xn_if_eq (tgt := 109) dX5_takeCold_102 rfl (by omega) (fun c5 => ?_) (fun c5 => ?_)
                · refine xe_iconst dX5_takeCold_109 kc_0 ?_
                  refine xe_ireturn dX5_takeCold_110 rfl (by first | rfl | decide +kernel) ?_
                  exact ⟨rfl, (by repeat (first | exact hfr | refine fr_I (by decide) ?_ | refine fr_J (by decide) ?_)), rfl, rfl⟩
                · omega
            · exact absurd (q_kap_inj (b := 2) hok (by decide) (by decide) c3) h2
      | none =>
        have go1 := ck_gn hR.2.2.1 (show t ≤ m by omega) k1 (by decide) (by decide)
        refine xe_iload_n dX5_takeCold_18 rfl ?_
        refine xe_bipush dX5_takeCold_19 kb_12 ?_
        refine xn_icmp_gt (tgt := 92) dX5_takeCold_21 rfl (by omega) (by omega) (fun c1 => ?_) (fun c1 => ?_)
        · omega
        · refine xe_iload_n dX5_takeCold_24 rfl ?_
          refine xn_if_eq (tgt := 92) dX5_takeCold_25 rfl (by omega) (fun c2 => ?_) (fun c2 => ?_)
          · omega
          · refine xe_aload_n dX5_takeCold_28 rfl ?_
            refine xe_getIv dX5_takeCold_29 flX5_41 (st7 hs) (by decide) rfl (v := (q_kap (tk_T K t))) (h5) ?_
            refine xe_iconst dX5_takeCold_32 kc_2 ?_
            refine xe_icmp_ne (tgt := 92) dX5_takeCold_33 rfl (fun c3 => ?_) (fun c3 => ?_)
            · refine xe_iload_n dX5_takeCold_92 rfl ?_
              refine xn_if_eq (tgt := 109) dX5_takeCold_93 rfl (by omega) (fun c4 => ?_) (fun c4 => ?_)
              · omega
              · refine xe_aload_n dX5_takeCold_96 rfl ?_
                refine xe_bipush dX5_takeCold_97 kb_59 ?_
                refine xe_callVI (d' := 0) (y' := mX5_take) dX5_takeCold_99 mlX5_63 mvX5_take rfl (st7 hs) (by decide) rfl (by decide) (by decide) (Nat.le_of_ble_eq_true rfl) (c_X5_take_t l g _ (by exact hs) (p := 22) (t := t) (by refine ck_R_t (t' := t) hR ?_ ?_ ?_ ?_ (by omega) ?_ ?_ <;> first | exact rfl | exact h4 | exact h5) (k := 4) (by decide) (by decide) (by decide) k1) rfl ?_
                refine xn_if_eq (tgt := 109) dX5_takeCold_102 rfl (by omega) (fun c5 => ?_) (fun c5 => ?_)
                · omega
                · refine xe_iconst dX5_takeCold_105 kc_1 ?_
                  refine xe_goto (tgt := 110) dX5_takeCold_106 rfl ?_
                  refine xe_ireturn dX5_takeCold_110 rfl (by first | rfl | decide +kernel) ?_
                  exact ⟨rfl, ⟨by show t + 1 ≤ m; omega, a2, fun r b1 b2 b3 => (q_Ine b1).trans (a3 r b1 b2 b3), a4, a5, a6, rfl, rfl, a9, a10⟩, by show c.length ≤ 12; omega⟩
            · exact absurd (q_kap_inj (b := 2) hok (by decide) (by decide) c3) h2
theorem c_X5_takeCold22 (l : Launch) (g : q_GP) (h : q_H) (hs : q_Stat h) {K : q_TK} {m t n : Nat} {s : q_PS} (hR : ck_R h K m 22 t) (hV : ck_V h K 22 n s) (hnt : n ≤ 10 + t) : q_Ct l g 2 mX5_takeCold [.ref 7] h (q_tlA K m 22 h (tx_cold K s t)) := by
  have hI2 := hR.1
  have hI3 := hR.2.1
  have h4 := hR.2.2.2.2.1
  have h5 := hR.2.2.2.2.2
  have h4m := hR.2.2.1.1
  have htm := hR.2.2.2.1
  obtain ⟨v2, v3, v4, v5, v6, v6b, vf, vg, vc, vF, vG, vC, vL, vN8, vN9, vE, v7⟩ := id hV
  have l8 := vN8.1
  have l9 := vN9.1
  unfold tx_cold
  cases k1 : tx_ck (tk_T K) 26 t with
  | some er =>
    refine q_CtV mvX5_takeCold (Nat.le_of_ble_eq_true rfl) ?_
    refine xe_aload_n dX5_takeCold_0 rfl ?_
    refine xe_getP dX5_takeCold_1 flX5_26 (st7 hs) (by decide) rfl hI3 ?_
    refine xe_iconst dX5_takeCold_4 kc_0 ?_
    refine xe_putI dX5_takeCold_5 flX5_135 (st22 hs) (by decide) rfl (Or.inl rfl) rfl rfl ?_
    refine xe_aload_n dX5_takeCold_8 rfl ?_
    refine xe_sipush dX5_takeCold_9 ks_262 ?_
    refine xe_callVI (d' := 0) (y' := mX5_take) dX5_takeCold_12 mlX5_63 mvX5_take rfl (st7 hs) (by decide) rfl (by decide) (by decide) (Nat.le_of_ble_eq_true rfl) (c_X5_take_f l g _ (by exact hs) (p := 22) (t := t) (by refine ck_R_t (t' := t) hR ?_ ?_ ?_ ?_ (by omega) ?_ ?_ <;> first | exact rfl | exact h4 | exact h5) (k := 26) (by decide) (by decide) k1) rfl ?_
    refine xe_istore_n (i := 1) dX5_takeCold_15 rfl (by decide) rfl ?_
    refine xe_iconst dX5_takeCold_16 kc_0 ?_
    refine xe_istore_n (i := 2) dX5_takeCold_17 rfl (by decide) rfl ?_
    refine xe_locals (L' := [(0, .ref 7), (1, .int (nI 0)), (2, .int (nI 0))]) (And.intro rfl (And.intro rfl (And.intro rfl trivial))) ?_
    exact co_out22 l g _ (by decide) ⟨rfl, (by repeat (first | exact fr_r | refine fr_I (by decide) ?_ | refine fr_J (by decide) ?_)), rfl, rfl⟩
  | none =>
    have go1 := ck_gn hR.2.2.1 (show t ≤ m by omega) k1 (by decide) (by decide)
    refine q_CtV mvX5_takeCold (Nat.le_of_ble_eq_true rfl) ?_
    refine xe_aload_n dX5_takeCold_0 rfl ?_
    refine xe_getP dX5_takeCold_1 flX5_26 (st7 hs) (by decide) rfl hI3 ?_
    refine xe_iconst dX5_takeCold_4 kc_0 ?_
    refine xe_putI dX5_takeCold_5 flX5_135 (st22 hs) (by decide) rfl (Or.inl rfl) rfl rfl ?_
    refine xe_aload_n dX5_takeCold_8 rfl ?_
    refine xe_sipush dX5_takeCold_9 ks_262 ?_
    refine xe_callVI (d' := 0) (y' := mX5_take) dX5_takeCold_12 mlX5_63 mvX5_take rfl (st7 hs) (by decide) rfl (by decide) (by decide) (Nat.le_of_ble_eq_true rfl) (c_X5_take_t l g _ (by exact hs) (p := 22) (t := t) (by refine ck_R_t (t' := t) hR ?_ ?_ ?_ ?_ (by omega) ?_ ?_ <;> first | exact rfl | exact h4 | exact h5) (k := 26) (by decide) (by decide) (by decide) k1) rfl ?_
    refine xe_istore_n (i := 1) dX5_takeCold_15 rfl (by decide) rfl ?_
    refine xe_iconst dX5_takeCold_16 kc_0 ?_
    refine xe_istore_n (i := 2) dX5_takeCold_17 rfl (by decide) rfl ?_
    refine xe_locals (L' := [(0, .ref 7), (1, .int (nI 1)), (2, .int (nI 0))]) (And.intro rfl (And.intro rfl (And.intro rfl trivial))) ?_
    refine xe_post (fun r h1 q => ?_) (co_loop22 l g (t0 := t) hR 12 [] (ps_e s) (t + 1) _ (by exact hs) rfl ⟨by omega, rfl, fun r b1 b2 b3 => (q_Ine b1).trans (q_Ine b2), fun j hj => pk_un hj, rfl, fun i hi => absurd hi (Nat.not_lt_zero _), rfl, rfl, vE, v7⟩)
    show q_tlA K m 22 h (tx_r (tx_co K 12 [] (ps_e s) (t + 1)) _) r h1
    have hle := tx_co_le (K := K) 12 [] (ps_e s) (t + 1)
    generalize tx_co K 12 [] (ps_e s) (t + 1) = o at q hle
    cases o with
    | inl er => exact q
    | inr x =>
      obtain ⟨q1, q2, q3⟩ := q
      have hle2 := hle x rfl
      exact ⟨q1, cor_fr q2, q2.1, q2.2.2.2.2.2.2.1, q2.2.2.2.2.2.2.2.1, n, by omega, v_cold22 hV q2 q3⟩
theorem c_X5_takeTell22 (l : Launch) (g : q_GP) (h : q_H) (hs : q_Stat h) {K : q_TK} {m t n : Nat} {s : q_PS} (hR : ck_R h K m 22 t) (hV : ck_V h K 22 n s) (hnt : n ≤ 10 + t) : q_Ct l g 23 mX5_takeTell [.ref 7] h (q_tlA K m 22 h (tx_tell K s t)) := by
  have hI2 := hR.1
  have hI3 := hR.2.1
  have h4 := hR.2.2.2.2.1
  have h5 := hR.2.2.2.2.2
  have h4m := hR.2.2.1.1
  have htm := hR.2.2.2.1
  obtain ⟨v2, v3, v4, v5, v6, v6b, vf, vg, vc, vF, vG, vC, vL, vN8, vN9, vE, v7⟩ := id hV
  have l8 := vN8.1
  have l9 := vN9.1
  have hok := (hR.2.2.1.2.2 t htm).1
  unfold tx_tell
  have hpass : ∀ (o : (Nat × Nat) ⊕ (q_PS × Nat)) (y : q_MI), q_Ct l g 2 y [.ref 7] h (q_tlA K m 22 h o) → q_Ct l g 2 y [.ref 7] h (fun r h1 => ∃ x : Int32, r = some (.int x) ∧ (q_tlA K m 22 h o (some (.int x)) h1 ∧ (x = nI 0 ∨ x = nI 1))) := fun o y C => q_Ct_post (fun r h1 q => by
    cases o with
    | inl e => exact ⟨nI 0, q.1, ⟨rfl, q.2⟩, Or.inl rfl⟩
    | inr e => exact ⟨nI 1, q.1, ⟨rfl, q.2⟩, Or.inr rfl⟩) C
  by_cases t20 : tk_T K t = 20
  · rw [if_pos t20]
    have hk5 : q_I h 7 5 = nI 256 := h5.trans (by rw [t20]; rfl)
    refine q_CtV mvX5_takeTell (Nat.le_of_ble_eq_true rfl) ?_
    refine xe_aload_n dX5_takeTell_0 rfl ?_
    refine xe_getIv dX5_takeTell_1 flX5_41 (st7 hs) (by decide) rfl (v := nI 256) (hk5) ?_
    refine xe_tsw_in (tgt := 52) dX5_takeTell_4 (by decide) (by decide) rfl rfl ?_
    refine xe_aload_n dX5_takeTell_52 rfl ?_
    refine xe_callVIn (d' := 2) (y' := mX5_takeMan) dX5_takeTell_53 mlX5_87 mvX5_takeMan rfl (st7 hs) (by decide) rfl (by decide) (by decide) (Nat.le_of_ble_eq_true rfl) (hpass _ _ (c_X5_takeMan22 l g _ hs hR hV hnt)) rfl (fun rv h1 hq => ?_)
    refine xe_ireturn dX5_takeTell_56 rfl (by rcases hq.2 with q | q <;> rw [q] <;> decide +kernel) ?_
    exact hq.1
  rw [if_neg t20]
  by_cases t21 : tk_T K t = 21
  · rw [if_pos t21]
    have hk5 : q_I h 7 5 = nI 257 := h5.trans (by rw [t21]; rfl)
    refine q_CtV mvX5_takeTell (Nat.le_of_ble_eq_true rfl) ?_
    refine xe_aload_n dX5_takeTell_0 rfl ?_
    refine xe_getIv dX5_takeTell_1 flX5_41 (st7 hs) (by decide) rfl (v := nI 257) (hk5) ?_
    refine xe_tsw_in (tgt := 57) dX5_takeTell_4 (by decide) (by decide) rfl rfl ?_
    refine xe_aload_n dX5_takeTell_57 rfl ?_
    refine xe_callVIn (d' := 2) (y' := mX5_takeDeed) dX5_takeTell_58 mlX5_90 mvX5_takeDeed rfl (st7 hs) (by decide) rfl (by decide) (by decide) (Nat.le_of_ble_eq_true rfl) (hpass _ _ (c_X5_takeDeed22 l g _ hs hR hV hnt)) rfl (fun rv h1 hq => ?_)
    refine xe_ireturn dX5_takeTell_61 rfl (by rcases hq.2 with q | q <;> rw [q] <;> decide +kernel) ?_
    exact hq.1
  rw [if_neg t21]
  by_cases t22 : tk_T K t = 22
  · rw [if_pos t22]
    have hk5 : q_I h 7 5 = nI 258 := h5.trans (by rw [t22]; rfl)
    unfold tx_named
    cases k1 : tx_ck (tk_T K) 22 t with
    | some er =>
      refine q_CtV mvX5_takeTell (Nat.le_of_ble_eq_true rfl) ?_
      refine xe_aload_n dX5_takeTell_0 rfl ?_
      refine xe_getIv dX5_takeTell_1 flX5_41 (st7 hs) (by decide) rfl (v := nI 258) (hk5) ?_
      refine xe_tsw_in (tgt := 62) dX5_takeTell_4 (by decide) (by decide) rfl rfl ?_
      refine xe_aload_n dX5_takeTell_62 rfl ?_
      refine xe_sipush dX5_takeTell_63 ks_258 ?_
      refine xe_callVI (d' := 0) (y' := mX5_take) dX5_takeTell_66 mlX5_63 mvX5_take rfl (st7 hs) (by decide) rfl (by decide) (by decide) (Nat.le_of_ble_eq_true rfl) (c_X5_take_f l g _ (by exact hs) (p := 22) (t := t) (by refine ck_R_t (t' := t) hR ?_ ?_ ?_ ?_ (by omega) ?_ ?_ <;> first | exact rfl | exact h4 | exact h5) (k := 22) (by decide) (by decide) k1) rfl ?_
      refine xn_if_eq (tgt := 112) dX5_takeTell_69 rfl (by omega) (fun c1 => ?_) (fun c1 => ?_)
      · refine xe_iconst dX5_takeTell_112 kc_0 ?_
        refine xe_ireturn dX5_takeTell_113 rfl (by first | rfl | decide +kernel) ?_
        exact ⟨rfl, (by repeat (first | exact fr_r | refine fr_I (by decide) ?_ | refine fr_J (by decide) ?_)), rfl, rfl⟩
      · omega
    | none =>
      have go1 := ck_gn hR.2.2.1 (show t ≤ m by omega) k1 (by decide) (by decide)
      show q_Ct l g 23 mX5_takeTell _ h (q_tlA K m 22 h (tx_b (tx_ck (tk_T K) 1 (t + 1)) _))
      cases k2 : tx_ck (tk_T K) 1 (t + 1) with
      | some er =>
        refine q_CtV mvX5_takeTell (Nat.le_of_ble_eq_true rfl) ?_
        refine xe_aload_n dX5_takeTell_0 rfl ?_
        refine xe_getIv dX5_takeTell_1 flX5_41 (st7 hs) (by decide) rfl (v := nI 258) (hk5) ?_
        refine xe_tsw_in (tgt := 62) dX5_takeTell_4 (by decide) (by decide) rfl rfl ?_
        refine xe_aload_n dX5_takeTell_62 rfl ?_
        refine xe_sipush dX5_takeTell_63 ks_258 ?_
        refine xe_callVI (d' := 0) (y' := mX5_take) dX5_takeTell_66 mlX5_63 mvX5_take rfl (st7 hs) (by decide) rfl (by decide) (by decide) (Nat.le_of_ble_eq_true rfl) (c_X5_take_t l g _ (by exact hs) (p := 22) (t := t) (by refine ck_R_t (t' := t) hR ?_ ?_ ?_ ?_ (by omega) ?_ ?_ <;> first | exact rfl | exact h4 | exact h5) (k := 22) (by decide) (by decide) (by decide) k1) rfl ?_
        refine xn_if_eq (tgt := 112) dX5_takeTell_69 rfl (by omega) (fun c1 => ?_) (fun c1 => ?_)
        · omega
        · refine xe_aload_n dX5_takeTell_72 rfl ?_
          refine xe_aload_n dX5_takeTell_73 rfl ?_
          refine xe_getP dX5_takeTell_74 flX5_19 (st7 hs) (by decide) rfl (sp7_1 hs) ?_
          refine xe_aload_n dX5_takeTell_77 rfl ?_
          refine xe_getP dX5_takeTell_78 flX5_26 (st7 hs) (by decide) rfl hI3 ?_
          refine xe_getIv dX5_takeTell_81 flX5_84 (st22 hs) (by decide) rfl (v := nI ((ps_d s).length)) (v4) ?_
          refine xe_callVI (d' := 1) (y' := mX5_takeOldName) dX5_takeTell_84 mlX5_93 mvX5_takeOldName rfl (st7 hs) (by decide) rfl (by decide) (by decide) (Nat.le_of_ble_eq_true rfl) (c_X5_takeOldName_f l g _ (by exact hs) (p := 22) (t := (t + 1)) (by refine ck_R_t (t' := (t + 1)) hR ?_ ?_ ?_ ?_ (by omega) ?_ ?_ <;> first | exact rfl | exact h4 | exact h5) k2 _ _) rfl ?_
          refine xn_if_eq (tgt := 112) dX5_takeTell_87 rfl (by omega) (fun c2 => ?_) (fun c2 => ?_)
          · refine xe_iconst dX5_takeTell_112 kc_0 ?_
            refine xe_ireturn dX5_takeTell_113 rfl (by first | rfl | decide +kernel) ?_
            exact ⟨rfl, (by repeat (first | exact fr_r | refine fr_I (by decide) ?_ | refine fr_J (by decide) ?_)), rfl, rfl⟩
          · omega
      | none =>
        have go2 := ck_gn hR.2.2.1 (show t + 1 ≤ m by omega) k2 (by decide) (by decide)
        cases kf : tx_find (tk_N K (t + 1)) (ps_d s) 0 with
        | some j =>
          have kj := tx_find_lt _ 0 j kf
          show q_Ct l g 23 mX5_takeTell _ h (q_tlA K m 22 h (tx_r (tx_law K (t + 2)) _))
          cases kl : tx_law K (t + 2) with
          | inl er =>
            refine q_CtV mvX5_takeTell (Nat.le_of_ble_eq_true rfl) ?_
            refine xe_aload_n dX5_takeTell_0 rfl ?_
            refine xe_getIv dX5_takeTell_1 flX5_41 (st7 hs) (by decide) rfl (v := nI 258) (hk5) ?_
            refine xe_tsw_in (tgt := 62) dX5_takeTell_4 (by decide) (by decide) rfl rfl ?_
            refine xe_aload_n dX5_takeTell_62 rfl ?_
            refine xe_sipush dX5_takeTell_63 ks_258 ?_
            refine xe_callVI (d' := 0) (y' := mX5_take) dX5_takeTell_66 mlX5_63 mvX5_take rfl (st7 hs) (by decide) rfl (by decide) (by decide) (Nat.le_of_ble_eq_true rfl) (c_X5_take_t l g _ (by exact hs) (p := 22) (t := t) (by refine ck_R_t (t' := t) hR ?_ ?_ ?_ ?_ (by omega) ?_ ?_ <;> first | exact rfl | exact h4 | exact h5) (k := 22) (by decide) (by decide) (by decide) k1) rfl ?_
            refine xn_if_eq (tgt := 112) dX5_takeTell_69 rfl (by omega) (fun c1 => ?_) (fun c1 => ?_)
            · omega
            · refine xe_aload_n dX5_takeTell_72 rfl ?_
              refine xe_aload_n dX5_takeTell_73 rfl ?_
              refine xe_getP dX5_takeTell_74 flX5_19 (st7 hs) (by decide) rfl (sp7_1 hs) ?_
              refine xe_aload_n dX5_takeTell_77 rfl ?_
              refine xe_getP dX5_takeTell_78 flX5_26 (st7 hs) (by decide) rfl hI3 ?_
              refine xe_getIv dX5_takeTell_81 flX5_84 (st22 hs) (by decide) rfl (v := nI ((ps_d s).length)) (v4) ?_
              refine xe_callVIq (d' := 1) (y' := mX5_takeOldName) dX5_takeTell_84 mlX5_93 mvX5_takeOldName rfl (st7 hs) (by decide) rfl (by decide) (by decide) (Nat.le_of_ble_eq_true rfl) (c_X5_takeOldName9_t l g _ (by exact hs) (p := 22) (t := (t + 1)) (by refine ck_R_t (t' := (t + 1)) hR ?_ ?_ ?_ ?_ (by omega) ?_ ?_ <;> first | exact rfl | exact h4 | exact h5) (by exact vE) (ns := ps_d s) (by exact vN9) k2) rfl (fun h2 hq2 => ?_)
              obtain ⟨a2, b2, rfl, hl2⟩ := hq2
              refine xn_if_eq (tgt := 112) dX5_takeTell_87 rfl (by omega) (fun c3 => ?_) (fun c3 => ?_)
              · omega
              · refine xe_aload_n dX5_takeTell_90 rfl ?_
                refine xe_aload_n dX5_takeTell_91 rfl ?_
                refine xe_getP dX5_takeTell_92 flX5_26 (st7 hs) (by decide) rfl hI3 ?_
                refine xe_getP dX5_takeTell_95 flX5_97 (st22 hs) (by decide) rfl (sp22_10 hs) ?_
                refine xe_aload_n dX5_takeTell_98 rfl ?_
                refine xe_getIv dX5_takeTell_99 flX5_70 (st7 hs) (by decide) rfl (v := nI j) ((by show q_ofi (tx_find (tk_N K (t + 1)) (ps_d s) 0) = _; rw [kf]; rfl)) ?_
                refine xe_callVIq (d' := 22) (y' := mX5_takeLaw) dX5_takeTell_102 mlX5_100 mvX5_takeLaw rfl (st7 hs) (by decide) rfl (by decide) (by decide) (Nat.le_of_ble_eq_true rfl) (lw_inl kl (c_X5_takeLaw22_6 l g _ (by exact hs) (t := (t + 1 + 1)) (n := n) (by refine ck_R_t (t' := (t + 1 + 1)) hR ?_ ?_ ?_ ?_ (by omega) ?_ ?_ <;> first | exact rfl | exact h4 | exact h5) (by exact v2) (by omega) (j := j) (by omega))) rfl (fun h1 hq => ?_)
                refine xn_if_eq (tgt := 112) dX5_takeTell_105 rfl (by omega) (fun c4 => ?_) (fun c4 => ?_)
                · refine xe_iconst dX5_takeTell_112 kc_0 ?_
                  refine xe_ireturn dX5_takeTell_113 rfl (by first | rfl | decide +kernel) ?_
                  exact ⟨rfl, (fr_em (by repeat (first | exact fr_r | refine fr_I (by decide) ?_ | refine fr_J (by decide) ?_)) hq.1), hq.2.1, hq.2.2⟩
                · omega
          | inr x =>
            refine q_CtV mvX5_takeTell (Nat.le_of_ble_eq_true rfl) ?_
            refine xe_aload_n dX5_takeTell_0 rfl ?_
            refine xe_getIv dX5_takeTell_1 flX5_41 (st7 hs) (by decide) rfl (v := nI 258) (hk5) ?_
            refine xe_tsw_in (tgt := 62) dX5_takeTell_4 (by decide) (by decide) rfl rfl ?_
            refine xe_aload_n dX5_takeTell_62 rfl ?_
            refine xe_sipush dX5_takeTell_63 ks_258 ?_
            refine xe_callVI (d' := 0) (y' := mX5_take) dX5_takeTell_66 mlX5_63 mvX5_take rfl (st7 hs) (by decide) rfl (by decide) (by decide) (Nat.le_of_ble_eq_true rfl) (c_X5_take_t l g _ (by exact hs) (p := 22) (t := t) (by refine ck_R_t (t' := t) hR ?_ ?_ ?_ ?_ (by omega) ?_ ?_ <;> first | exact rfl | exact h4 | exact h5) (k := 22) (by decide) (by decide) (by decide) k1) rfl ?_
            refine xn_if_eq (tgt := 112) dX5_takeTell_69 rfl (by omega) (fun c1 => ?_) (fun c1 => ?_)
            · omega
            · refine xe_aload_n dX5_takeTell_72 rfl ?_
              refine xe_aload_n dX5_takeTell_73 rfl ?_
              refine xe_getP dX5_takeTell_74 flX5_19 (st7 hs) (by decide) rfl (sp7_1 hs) ?_
              refine xe_aload_n dX5_takeTell_77 rfl ?_
              refine xe_getP dX5_takeTell_78 flX5_26 (st7 hs) (by decide) rfl hI3 ?_
              refine xe_getIv dX5_takeTell_81 flX5_84 (st22 hs) (by decide) rfl (v := nI ((ps_d s).length)) (v4) ?_
              refine xe_callVIq (d' := 1) (y' := mX5_takeOldName) dX5_takeTell_84 mlX5_93 mvX5_takeOldName rfl (st7 hs) (by decide) rfl (by decide) (by decide) (Nat.le_of_ble_eq_true rfl) (c_X5_takeOldName9_t l g _ (by exact hs) (p := 22) (t := (t + 1)) (by refine ck_R_t (t' := (t + 1)) hR ?_ ?_ ?_ ?_ (by omega) ?_ ?_ <;> first | exact rfl | exact h4 | exact h5) (by exact vE) (ns := ps_d s) (by exact vN9) k2) rfl (fun h2 hq2 => ?_)
              obtain ⟨a2, b2, rfl, hl2⟩ := hq2
              refine xn_if_eq (tgt := 112) dX5_takeTell_87 rfl (by omega) (fun c3 => ?_) (fun c3 => ?_)
              · omega
              · refine xe_aload_n dX5_takeTell_90 rfl ?_
                refine xe_aload_n dX5_takeTell_91 rfl ?_
                refine xe_getP dX5_takeTell_92 flX5_26 (st7 hs) (by decide) rfl hI3 ?_
                refine xe_getP dX5_takeTell_95 flX5_97 (st22 hs) (by decide) rfl (sp22_10 hs) ?_
                refine xe_aload_n dX5_takeTell_98 rfl ?_
                refine xe_getIv dX5_takeTell_99 flX5_70 (st7 hs) (by decide) rfl (v := nI j) ((by show q_ofi (tx_find (tk_N K (t + 1)) (ps_d s) 0) = _; rw [kf]; rfl)) ?_
                refine xe_callVIq (d' := 22) (y' := mX5_takeLaw) dX5_takeTell_102 mlX5_100 mvX5_takeLaw rfl (st7 hs) (by decide) rfl (by decide) (by decide) (Nat.le_of_ble_eq_true rfl) (lw_inr kl (c_X5_takeLaw22_6 l g _ (by exact hs) (t := (t + 1 + 1)) (n := n) (by refine ck_R_t (t' := (t + 1 + 1)) hR ?_ ?_ ?_ ?_ (by omega) ?_ ?_ <;> first | exact rfl | exact h4 | exact h5) (by exact v2) (by omega) (j := j) (by omega))) rfl (fun h1 hq => ?_)
                refine xn_if_eq (tgt := 112) dX5_takeTell_105 rfl (by omega) (fun c4 => ?_) (fun c4 => ?_)
                · omega
                · refine xe_iconst dX5_takeTell_108 kc_1 ?_
                  refine xe_goto (tgt := 113) dX5_takeTell_109 rfl ?_
                  refine xe_ireturn dX5_takeTell_113 rfl (by first | rfl | decide +kernel) ?_
                  obtain ⟨n1, g1, g2, g3⟩ := hq
                  refine ⟨rfl, fr_em (by repeat (first | exact fr_r | refine fr_I (by decide) ?_ | refine fr_J (by decide) ?_)) (gs_em g1 (by have := g1.1; omega)), g1.1, g1.2.2.2.2.1, g1.2.2.2.2.2.1, n1, g2, ?_⟩
                  rw [kf] at hl2
                  show ck_V h1 K 22 n1 (tx_putL s (tx_up (ps_L s) (0 + j) (some x.1)) _)
                  rw [Nat.zero_add]
                  refine v_law22_6 (by omega) hV ?_ ?_ ?_ ?_ ?_ g1 g3
                  · exact (by intro r a1 a2; repeat (first | exact rfl | refine (q_Ine (by assumption)).trans ?_))
                  · rfl
                  · rfl
                  · exact hl2
                  · exact v7
        | none =>
          show q_Ct l g 23 mX5_takeTell _ h (q_tlA K m 22 h (tx_r (tx_law K (t + 2)) _))
          cases kl : tx_law K (t + 2) with
          | inl er =>
            refine q_CtV mvX5_takeTell (Nat.le_of_ble_eq_true rfl) ?_
            refine xe_aload_n dX5_takeTell_0 rfl ?_
            refine xe_getIv dX5_takeTell_1 flX5_41 (st7 hs) (by decide) rfl (v := nI 258) (hk5) ?_
            refine xe_tsw_in (tgt := 62) dX5_takeTell_4 (by decide) (by decide) rfl rfl ?_
            refine xe_aload_n dX5_takeTell_62 rfl ?_
            refine xe_sipush dX5_takeTell_63 ks_258 ?_
            refine xe_callVI (d' := 0) (y' := mX5_take) dX5_takeTell_66 mlX5_63 mvX5_take rfl (st7 hs) (by decide) rfl (by decide) (by decide) (Nat.le_of_ble_eq_true rfl) (c_X5_take_t l g _ (by exact hs) (p := 22) (t := t) (by refine ck_R_t (t' := t) hR ?_ ?_ ?_ ?_ (by omega) ?_ ?_ <;> first | exact rfl | exact h4 | exact h5) (k := 22) (by decide) (by decide) (by decide) k1) rfl ?_
            refine xn_if_eq (tgt := 112) dX5_takeTell_69 rfl (by omega) (fun c1 => ?_) (fun c1 => ?_)
            · omega
            · refine xe_aload_n dX5_takeTell_72 rfl ?_
              refine xe_aload_n dX5_takeTell_73 rfl ?_
              refine xe_getP dX5_takeTell_74 flX5_19 (st7 hs) (by decide) rfl (sp7_1 hs) ?_
              refine xe_aload_n dX5_takeTell_77 rfl ?_
              refine xe_getP dX5_takeTell_78 flX5_26 (st7 hs) (by decide) rfl hI3 ?_
              refine xe_getIv dX5_takeTell_81 flX5_84 (st22 hs) (by decide) rfl (v := nI ((ps_d s).length)) (v4) ?_
              refine xe_callVIq (d' := 1) (y' := mX5_takeOldName) dX5_takeTell_84 mlX5_93 mvX5_takeOldName rfl (st7 hs) (by decide) rfl (by decide) (by decide) (Nat.le_of_ble_eq_true rfl) (c_X5_takeOldName9_t l g _ (by exact hs) (p := 22) (t := (t + 1)) (by refine ck_R_t (t' := (t + 1)) hR ?_ ?_ ?_ ?_ (by omega) ?_ ?_ <;> first | exact rfl | exact h4 | exact h5) (by exact vE) (ns := ps_d s) (by exact vN9) k2) rfl (fun h2 hq2 => ?_)
              obtain ⟨a2, b2, rfl, hl2⟩ := hq2
              refine xn_if_eq (tgt := 112) dX5_takeTell_87 rfl (by omega) (fun c3 => ?_) (fun c3 => ?_)
              · omega
              · refine xe_aload_n dX5_takeTell_90 rfl ?_
                refine xe_aload_n dX5_takeTell_91 rfl ?_
                refine xe_getP dX5_takeTell_92 flX5_26 (st7 hs) (by decide) rfl hI3 ?_
                refine xe_getP dX5_takeTell_95 flX5_97 (st22 hs) (by decide) rfl (sp22_10 hs) ?_
                refine xe_aload_n dX5_takeTell_98 rfl ?_
                refine xe_getIv dX5_takeTell_99 flX5_70 (st7 hs) (by decide) rfl (v := (-1)) ((by show q_ofi (tx_find (tk_N K (t + 1)) (ps_d s) 0) = _; rw [kf]; rfl)) ?_
                refine xe_callVIq (d' := 22) (y' := mX5_takeLaw) dX5_takeTell_102 mlX5_100 mvX5_takeLaw rfl (st7 hs) (by decide) rfl (by decide) (by decide) (Nat.le_of_ble_eq_true rfl) (lw_inl kl (c_X5_takeLaw22_n l g _ (by exact hs) (t := (t + 1 + 1)) (n := n) (by refine ck_R_t (t' := (t + 1 + 1)) hR ?_ ?_ ?_ ?_ (by omega) ?_ ?_ <;> first | exact rfl | exact h4 | exact h5) (by exact v2) (by omega) _)) rfl (fun h1 hq => ?_)
                refine xn_if_eq (tgt := 112) dX5_takeTell_105 rfl (by omega) (fun c4 => ?_) (fun c4 => ?_)
                · refine xe_iconst dX5_takeTell_112 kc_0 ?_
                  refine xe_ireturn dX5_takeTell_113 rfl (by first | rfl | decide +kernel) ?_
                  exact ⟨rfl, (fr_em (by repeat (first | exact fr_r | refine fr_I (by decide) ?_ | refine fr_J (by decide) ?_)) hq.1), hq.2.1, hq.2.2⟩
                · omega
          | inr x =>
            refine q_CtV mvX5_takeTell (Nat.le_of_ble_eq_true rfl) ?_
            refine xe_aload_n dX5_takeTell_0 rfl ?_
            refine xe_getIv dX5_takeTell_1 flX5_41 (st7 hs) (by decide) rfl (v := nI 258) (hk5) ?_
            refine xe_tsw_in (tgt := 62) dX5_takeTell_4 (by decide) (by decide) rfl rfl ?_
            refine xe_aload_n dX5_takeTell_62 rfl ?_
            refine xe_sipush dX5_takeTell_63 ks_258 ?_
            refine xe_callVI (d' := 0) (y' := mX5_take) dX5_takeTell_66 mlX5_63 mvX5_take rfl (st7 hs) (by decide) rfl (by decide) (by decide) (Nat.le_of_ble_eq_true rfl) (c_X5_take_t l g _ (by exact hs) (p := 22) (t := t) (by refine ck_R_t (t' := t) hR ?_ ?_ ?_ ?_ (by omega) ?_ ?_ <;> first | exact rfl | exact h4 | exact h5) (k := 22) (by decide) (by decide) (by decide) k1) rfl ?_
            refine xn_if_eq (tgt := 112) dX5_takeTell_69 rfl (by omega) (fun c1 => ?_) (fun c1 => ?_)
            · omega
            · refine xe_aload_n dX5_takeTell_72 rfl ?_
              refine xe_aload_n dX5_takeTell_73 rfl ?_
              refine xe_getP dX5_takeTell_74 flX5_19 (st7 hs) (by decide) rfl (sp7_1 hs) ?_
              refine xe_aload_n dX5_takeTell_77 rfl ?_
              refine xe_getP dX5_takeTell_78 flX5_26 (st7 hs) (by decide) rfl hI3 ?_
              refine xe_getIv dX5_takeTell_81 flX5_84 (st22 hs) (by decide) rfl (v := nI ((ps_d s).length)) (v4) ?_
              refine xe_callVIq (d' := 1) (y' := mX5_takeOldName) dX5_takeTell_84 mlX5_93 mvX5_takeOldName rfl (st7 hs) (by decide) rfl (by decide) (by decide) (Nat.le_of_ble_eq_true rfl) (c_X5_takeOldName9_t l g _ (by exact hs) (p := 22) (t := (t + 1)) (by refine ck_R_t (t' := (t + 1)) hR ?_ ?_ ?_ ?_ (by omega) ?_ ?_ <;> first | exact rfl | exact h4 | exact h5) (by exact vE) (ns := ps_d s) (by exact vN9) k2) rfl (fun h2 hq2 => ?_)
              obtain ⟨a2, b2, rfl, hl2⟩ := hq2
              refine xn_if_eq (tgt := 112) dX5_takeTell_87 rfl (by omega) (fun c3 => ?_) (fun c3 => ?_)
              · omega
              · refine xe_aload_n dX5_takeTell_90 rfl ?_
                refine xe_aload_n dX5_takeTell_91 rfl ?_
                refine xe_getP dX5_takeTell_92 flX5_26 (st7 hs) (by decide) rfl hI3 ?_
                refine xe_getP dX5_takeTell_95 flX5_97 (st22 hs) (by decide) rfl (sp22_10 hs) ?_
                refine xe_aload_n dX5_takeTell_98 rfl ?_
                refine xe_getIv dX5_takeTell_99 flX5_70 (st7 hs) (by decide) rfl (v := (-1)) ((by show q_ofi (tx_find (tk_N K (t + 1)) (ps_d s) 0) = _; rw [kf]; rfl)) ?_
                refine xe_callVIq (d' := 22) (y' := mX5_takeLaw) dX5_takeTell_102 mlX5_100 mvX5_takeLaw rfl (st7 hs) (by decide) rfl (by decide) (by decide) (Nat.le_of_ble_eq_true rfl) (lw_inr kl (c_X5_takeLaw22_n l g _ (by exact hs) (t := (t + 1 + 1)) (n := n) (by refine ck_R_t (t' := (t + 1 + 1)) hR ?_ ?_ ?_ ?_ (by omega) ?_ ?_ <;> first | exact rfl | exact h4 | exact h5) (by exact v2) (by omega) _)) rfl (fun h1 hq => ?_)
                refine xn_if_eq (tgt := 112) dX5_takeTell_105 rfl (by omega) (fun c4 => ?_) (fun c4 => ?_)
                · omega
                · refine xe_iconst dX5_takeTell_108 kc_1 ?_
                  refine xe_goto (tgt := 113) dX5_takeTell_109 rfl ?_
                  refine xe_ireturn dX5_takeTell_113 rfl (by first | rfl | decide +kernel) ?_
                  obtain ⟨n1, g1, g2, g3⟩ := hq
                  refine ⟨rfl, fr_em (by repeat (first | exact fr_r | refine fr_I (by decide) ?_ | refine fr_J (by decide) ?_)) (gs_em g1 (by have := g1.1; omega)), g1.1, g1.2.2.2.2.1, g1.2.2.2.2.2.1, n1, g2, ?_⟩
                  rw [kf] at hl2
                  refine v_law22_n hV ?_ ?_ ?_ ?_ g1 g3
                  · exact (by intro r a1; repeat (first | exact rfl | refine (q_Ine (by assumption)).trans ?_))
                  · rfl
                  · exact hl2
                  · exact v7
  rw [if_neg t22]
  by_cases t23 : tk_T K t = 23
  · rw [if_pos t23]
    have hk5 : q_I h 7 5 = nI 259 := h5.trans (by rw [t23]; rfl)
    unfold tx_plain
    cases k1 : tx_ck (tk_T K) 23 t with
    | some er =>
      refine q_CtV mvX5_takeTell (Nat.le_of_ble_eq_true rfl) ?_
      refine xe_aload_n dX5_takeTell_0 rfl ?_
      refine xe_getIv dX5_takeTell_1 flX5_41 (st7 hs) (by decide) rfl (v := nI 259) (hk5) ?_
      refine xe_tsw_in (tgt := 114) dX5_takeTell_4 (by decide) (by decide) rfl rfl ?_
      refine xe_aload_n dX5_takeTell_114 rfl ?_
      refine xe_sipush dX5_takeTell_115 ks_259 ?_
      refine xe_callVI (d' := 0) (y' := mX5_take) dX5_takeTell_118 mlX5_63 mvX5_take rfl (st7 hs) (by decide) rfl (by decide) (by decide) (Nat.le_of_ble_eq_true rfl) (c_X5_take_f l g _ (by exact hs) (p := 22) (t := t) (by refine ck_R_t (t' := t) hR ?_ ?_ ?_ ?_ (by omega) ?_ ?_ <;> first | exact rfl | exact h4 | exact h5) (k := 23) (by decide) (by decide) k1) rfl ?_
      refine xn_if_eq (tgt := 143) dX5_takeTell_121 rfl (by omega) (fun c1 => ?_) (fun c1 => ?_)
      · refine xe_iconst dX5_takeTell_143 kc_0 ?_
        refine xe_ireturn dX5_takeTell_144 rfl (by first | rfl | decide +kernel) ?_
        exact ⟨rfl, (by repeat (first | exact fr_r | refine fr_I (by decide) ?_ | refine fr_J (by decide) ?_)), rfl, rfl⟩
      · omega
    | none =>
      have go1 := ck_gn hR.2.2.1 (show t ≤ m by omega) k1 (by decide) (by decide)
      show q_Ct l g 23 mX5_takeTell _ h (q_tlA K m 22 h (tx_r (tx_law K (t + 1)) _))
      cases kl : tx_law K (t + 1) with
      | inl er =>
        refine q_CtV mvX5_takeTell (Nat.le_of_ble_eq_true rfl) ?_
        refine xe_aload_n dX5_takeTell_0 rfl ?_
        refine xe_getIv dX5_takeTell_1 flX5_41 (st7 hs) (by decide) rfl (v := nI 259) (hk5) ?_
        refine xe_tsw_in (tgt := 114) dX5_takeTell_4 (by decide) (by decide) rfl rfl ?_
        refine xe_aload_n dX5_takeTell_114 rfl ?_
        refine xe_sipush dX5_takeTell_115 ks_259 ?_
        refine xe_callVI (d' := 0) (y' := mX5_take) dX5_takeTell_118 mlX5_63 mvX5_take rfl (st7 hs) (by decide) rfl (by decide) (by decide) (Nat.le_of_ble_eq_true rfl) (c_X5_take_t l g _ (by exact hs) (p := 22) (t := t) (by refine ck_R_t (t' := t) hR ?_ ?_ ?_ ?_ (by omega) ?_ ?_ <;> first | exact rfl | exact h4 | exact h5) (k := 23) (by decide) (by decide) (by decide) k1) rfl ?_
        refine xn_if_eq (tgt := 143) dX5_takeTell_121 rfl (by omega) (fun c1 => ?_) (fun c1 => ?_)
        · omega
        · refine xe_aload_n dX5_takeTell_124 rfl ?_
          refine xe_aload_n dX5_takeTell_125 rfl ?_
          refine xe_getP dX5_takeTell_126 flX5_26 (st7 hs) (by decide) rfl hI3 ?_
          refine xe_getP dX5_takeTell_129 flX5_104 (st22 hs) (by decide) rfl (sp22_12 hs) ?_
          refine xe_iconst dX5_takeTell_132 kc_0 ?_
          refine xe_callVIq (d' := 22) (y' := mX5_takeLaw) dX5_takeTell_133 mlX5_100 mvX5_takeLaw rfl (st7 hs) (by decide) rfl (by decide) (by decide) (Nat.le_of_ble_eq_true rfl) (lw_inl kl (c_X5_takeLaw22_8 l g _ (by exact hs) (t := (t + 1)) (n := n) (by refine ck_R_t (t' := (t + 1)) hR ?_ ?_ ?_ ?_ (by omega) ?_ ?_ <;> first | exact rfl | exact h4 | exact h5) (by exact v2) (by omega))) rfl (fun h1 hq => ?_)
          refine xn_if_eq (tgt := 143) dX5_takeTell_136 rfl (by omega) (fun c2 => ?_) (fun c2 => ?_)
          · refine xe_iconst dX5_takeTell_143 kc_0 ?_
            refine xe_ireturn dX5_takeTell_144 rfl (by first | rfl | decide +kernel) ?_
            exact ⟨rfl, (fr_em (by repeat (first | exact fr_r | refine fr_I (by decide) ?_ | refine fr_J (by decide) ?_)) hq.1), hq.2.1, hq.2.2⟩
          · omega
      | inr x =>
        refine q_CtV mvX5_takeTell (Nat.le_of_ble_eq_true rfl) ?_
        refine xe_aload_n dX5_takeTell_0 rfl ?_
        refine xe_getIv dX5_takeTell_1 flX5_41 (st7 hs) (by decide) rfl (v := nI 259) (hk5) ?_
        refine xe_tsw_in (tgt := 114) dX5_takeTell_4 (by decide) (by decide) rfl rfl ?_
        refine xe_aload_n dX5_takeTell_114 rfl ?_
        refine xe_sipush dX5_takeTell_115 ks_259 ?_
        refine xe_callVI (d' := 0) (y' := mX5_take) dX5_takeTell_118 mlX5_63 mvX5_take rfl (st7 hs) (by decide) rfl (by decide) (by decide) (Nat.le_of_ble_eq_true rfl) (c_X5_take_t l g _ (by exact hs) (p := 22) (t := t) (by refine ck_R_t (t' := t) hR ?_ ?_ ?_ ?_ (by omega) ?_ ?_ <;> first | exact rfl | exact h4 | exact h5) (k := 23) (by decide) (by decide) (by decide) k1) rfl ?_
        refine xn_if_eq (tgt := 143) dX5_takeTell_121 rfl (by omega) (fun c1 => ?_) (fun c1 => ?_)
        · omega
        · refine xe_aload_n dX5_takeTell_124 rfl ?_
          refine xe_aload_n dX5_takeTell_125 rfl ?_
          refine xe_getP dX5_takeTell_126 flX5_26 (st7 hs) (by decide) rfl hI3 ?_
          refine xe_getP dX5_takeTell_129 flX5_104 (st22 hs) (by decide) rfl (sp22_12 hs) ?_
          refine xe_iconst dX5_takeTell_132 kc_0 ?_
          refine xe_callVIq (d' := 22) (y' := mX5_takeLaw) dX5_takeTell_133 mlX5_100 mvX5_takeLaw rfl (st7 hs) (by decide) rfl (by decide) (by decide) (Nat.le_of_ble_eq_true rfl) (lw_inr kl (c_X5_takeLaw22_8 l g _ (by exact hs) (t := (t + 1)) (n := n) (by refine ck_R_t (t' := (t + 1)) hR ?_ ?_ ?_ ?_ (by omega) ?_ ?_ <;> first | exact rfl | exact h4 | exact h5) (by exact v2) (by omega))) rfl (fun h1 hq => ?_)
          refine xn_if_eq (tgt := 143) dX5_takeTell_136 rfl (by omega) (fun c2 => ?_) (fun c2 => ?_)
          · omega
          · refine xe_iconst dX5_takeTell_139 kc_1 ?_
            refine xe_goto (tgt := 144) dX5_takeTell_140 rfl ?_
            refine xe_ireturn dX5_takeTell_144 rfl (by first | rfl | decide +kernel) ?_
            obtain ⟨n1, g1, g2, g3⟩ := hq
            refine ⟨rfl, fr_em (by repeat (first | exact fr_r | refine fr_I (by decide) ?_ | refine fr_J (by decide) ?_)) (gs_em g1 (by have := g1.1; omega)), g1.1, g1.2.2.2.2.1, g1.2.2.2.2.2.1, n1, g2, ?_⟩
            refine v_law22_8 hV ?_ ?_ ?_ ?_ ?_ g1 g3
            · exact (by intro r a1 a2; repeat (first | exact rfl | refine (q_Ine (by assumption)).trans ?_))
            · rfl
            · rfl
            · exact vE
            · exact v7
  rw [if_neg t23]
  by_cases t24 : tk_T K t = 24
  · rw [if_pos t24]
    have hk5 : q_I h 7 5 = nI 260 := h5.trans (by rw [t24]; rfl)
    unfold tx_plain
    cases k1 : tx_ck (tk_T K) 24 t with
    | some er =>
      refine q_CtV mvX5_takeTell (Nat.le_of_ble_eq_true rfl) ?_
      refine xe_aload_n dX5_takeTell_0 rfl ?_
      refine xe_getIv dX5_takeTell_1 flX5_41 (st7 hs) (by decide) rfl (v := nI 260) (hk5) ?_
      refine xe_tsw_in (tgt := 145) dX5_takeTell_4 (by decide) (by decide) rfl rfl ?_
      refine xe_aload_n dX5_takeTell_145 rfl ?_
      refine xe_sipush dX5_takeTell_146 ks_260 ?_
      refine xe_callVI (d' := 0) (y' := mX5_take) dX5_takeTell_149 mlX5_63 mvX5_take rfl (st7 hs) (by decide) rfl (by decide) (by decide) (Nat.le_of_ble_eq_true rfl) (c_X5_take_f l g _ (by exact hs) (p := 22) (t := t) (by refine ck_R_t (t' := t) hR ?_ ?_ ?_ ?_ (by omega) ?_ ?_ <;> first | exact rfl | exact h4 | exact h5) (k := 24) (by decide) (by decide) k1) rfl ?_
      refine xn_if_eq (tgt := 174) dX5_takeTell_152 rfl (by omega) (fun c1 => ?_) (fun c1 => ?_)
      · refine xe_iconst dX5_takeTell_174 kc_0 ?_
        refine xe_ireturn dX5_takeTell_175 rfl (by first | rfl | decide +kernel) ?_
        exact ⟨rfl, (by repeat (first | exact fr_r | refine fr_I (by decide) ?_ | refine fr_J (by decide) ?_)), rfl, rfl⟩
      · omega
    | none =>
      have go1 := ck_gn hR.2.2.1 (show t ≤ m by omega) k1 (by decide) (by decide)
      show q_Ct l g 23 mX5_takeTell _ h (q_tlA K m 22 h (tx_r (tx_law K (t + 1)) _))
      cases kl : tx_law K (t + 1) with
      | inl er =>
        refine q_CtV mvX5_takeTell (Nat.le_of_ble_eq_true rfl) ?_
        refine xe_aload_n dX5_takeTell_0 rfl ?_
        refine xe_getIv dX5_takeTell_1 flX5_41 (st7 hs) (by decide) rfl (v := nI 260) (hk5) ?_
        refine xe_tsw_in (tgt := 145) dX5_takeTell_4 (by decide) (by decide) rfl rfl ?_
        refine xe_aload_n dX5_takeTell_145 rfl ?_
        refine xe_sipush dX5_takeTell_146 ks_260 ?_
        refine xe_callVI (d' := 0) (y' := mX5_take) dX5_takeTell_149 mlX5_63 mvX5_take rfl (st7 hs) (by decide) rfl (by decide) (by decide) (Nat.le_of_ble_eq_true rfl) (c_X5_take_t l g _ (by exact hs) (p := 22) (t := t) (by refine ck_R_t (t' := t) hR ?_ ?_ ?_ ?_ (by omega) ?_ ?_ <;> first | exact rfl | exact h4 | exact h5) (k := 24) (by decide) (by decide) (by decide) k1) rfl ?_
        refine xn_if_eq (tgt := 174) dX5_takeTell_152 rfl (by omega) (fun c1 => ?_) (fun c1 => ?_)
        · omega
        · refine xe_aload_n dX5_takeTell_155 rfl ?_
          refine xe_aload_n dX5_takeTell_156 rfl ?_
          refine xe_getP dX5_takeTell_157 flX5_26 (st7 hs) (by decide) rfl hI3 ?_
          refine xe_getP dX5_takeTell_160 flX5_107 (st22 hs) (by decide) rfl (sp22_13 hs) ?_
          refine xe_iconst dX5_takeTell_163 kc_0 ?_
          refine xe_callVIq (d' := 22) (y' := mX5_takeLaw) dX5_takeTell_164 mlX5_100 mvX5_takeLaw rfl (st7 hs) (by decide) rfl (by decide) (by decide) (Nat.le_of_ble_eq_true rfl) (lw_inl kl (c_X5_takeLaw22_9 l g _ (by exact hs) (t := (t + 1)) (n := n) (by refine ck_R_t (t' := (t + 1)) hR ?_ ?_ ?_ ?_ (by omega) ?_ ?_ <;> first | exact rfl | exact h4 | exact h5) (by exact v2) (by omega))) rfl (fun h1 hq => ?_)
          refine xn_if_eq (tgt := 174) dX5_takeTell_167 rfl (by omega) (fun c2 => ?_) (fun c2 => ?_)
          · refine xe_iconst dX5_takeTell_174 kc_0 ?_
            refine xe_ireturn dX5_takeTell_175 rfl (by first | rfl | decide +kernel) ?_
            exact ⟨rfl, (fr_em (by repeat (first | exact fr_r | refine fr_I (by decide) ?_ | refine fr_J (by decide) ?_)) hq.1), hq.2.1, hq.2.2⟩
          · omega
      | inr x =>
        refine q_CtV mvX5_takeTell (Nat.le_of_ble_eq_true rfl) ?_
        refine xe_aload_n dX5_takeTell_0 rfl ?_
        refine xe_getIv dX5_takeTell_1 flX5_41 (st7 hs) (by decide) rfl (v := nI 260) (hk5) ?_
        refine xe_tsw_in (tgt := 145) dX5_takeTell_4 (by decide) (by decide) rfl rfl ?_
        refine xe_aload_n dX5_takeTell_145 rfl ?_
        refine xe_sipush dX5_takeTell_146 ks_260 ?_
        refine xe_callVI (d' := 0) (y' := mX5_take) dX5_takeTell_149 mlX5_63 mvX5_take rfl (st7 hs) (by decide) rfl (by decide) (by decide) (Nat.le_of_ble_eq_true rfl) (c_X5_take_t l g _ (by exact hs) (p := 22) (t := t) (by refine ck_R_t (t' := t) hR ?_ ?_ ?_ ?_ (by omega) ?_ ?_ <;> first | exact rfl | exact h4 | exact h5) (k := 24) (by decide) (by decide) (by decide) k1) rfl ?_
        refine xn_if_eq (tgt := 174) dX5_takeTell_152 rfl (by omega) (fun c1 => ?_) (fun c1 => ?_)
        · omega
        · refine xe_aload_n dX5_takeTell_155 rfl ?_
          refine xe_aload_n dX5_takeTell_156 rfl ?_
          refine xe_getP dX5_takeTell_157 flX5_26 (st7 hs) (by decide) rfl hI3 ?_
          refine xe_getP dX5_takeTell_160 flX5_107 (st22 hs) (by decide) rfl (sp22_13 hs) ?_
          refine xe_iconst dX5_takeTell_163 kc_0 ?_
          refine xe_callVIq (d' := 22) (y' := mX5_takeLaw) dX5_takeTell_164 mlX5_100 mvX5_takeLaw rfl (st7 hs) (by decide) rfl (by decide) (by decide) (Nat.le_of_ble_eq_true rfl) (lw_inr kl (c_X5_takeLaw22_9 l g _ (by exact hs) (t := (t + 1)) (n := n) (by refine ck_R_t (t' := (t + 1)) hR ?_ ?_ ?_ ?_ (by omega) ?_ ?_ <;> first | exact rfl | exact h4 | exact h5) (by exact v2) (by omega))) rfl (fun h1 hq => ?_)
          refine xn_if_eq (tgt := 174) dX5_takeTell_167 rfl (by omega) (fun c2 => ?_) (fun c2 => ?_)
          · omega
          · refine xe_iconst dX5_takeTell_170 kc_1 ?_
            refine xe_goto (tgt := 175) dX5_takeTell_171 rfl ?_
            refine xe_ireturn dX5_takeTell_175 rfl (by first | rfl | decide +kernel) ?_
            obtain ⟨n1, g1, g2, g3⟩ := hq
            refine ⟨rfl, fr_em (by repeat (first | exact fr_r | refine fr_I (by decide) ?_ | refine fr_J (by decide) ?_)) (gs_em g1 (by have := g1.1; omega)), g1.1, g1.2.2.2.2.1, g1.2.2.2.2.2.1, n1, g2, ?_⟩
            refine v_law22_9 hV ?_ ?_ ?_ ?_ ?_ g1 g3
            · exact (by intro r a1 a2; repeat (first | exact rfl | refine (q_Ine (by assumption)).trans ?_))
            · rfl
            · rfl
            · exact vE
            · exact v7
  rw [if_neg t24]
  by_cases t25 : tk_T K t = 25
  · rw [if_pos t25]
    have hk5 : q_I h 7 5 = nI 261 := h5.trans (by rw [t25]; rfl)
    unfold tx_named
    cases k1 : tx_ck (tk_T K) 25 t with
    | some er =>
      refine q_CtV mvX5_takeTell (Nat.le_of_ble_eq_true rfl) ?_
      refine xe_aload_n dX5_takeTell_0 rfl ?_
      refine xe_getIv dX5_takeTell_1 flX5_41 (st7 hs) (by decide) rfl (v := nI 261) (hk5) ?_
      refine xe_tsw_in (tgt := 176) dX5_takeTell_4 (by decide) (by decide) rfl rfl ?_
      refine xe_aload_n dX5_takeTell_176 rfl ?_
      refine xe_sipush dX5_takeTell_177 ks_261 ?_
      refine xe_callVI (d' := 0) (y' := mX5_take) dX5_takeTell_180 mlX5_63 mvX5_take rfl (st7 hs) (by decide) rfl (by decide) (by decide) (Nat.le_of_ble_eq_true rfl) (c_X5_take_f l g _ (by exact hs) (p := 22) (t := t) (by refine ck_R_t (t' := t) hR ?_ ?_ ?_ ?_ (by omega) ?_ ?_ <;> first | exact rfl | exact h4 | exact h5) (k := 25) (by decide) (by decide) k1) rfl ?_
      refine xn_if_eq (tgt := 226) dX5_takeTell_183 rfl (by omega) (fun c1 => ?_) (fun c1 => ?_)
      · refine xe_iconst dX5_takeTell_226 kc_0 ?_
        refine xe_ireturn dX5_takeTell_227 rfl (by first | rfl | decide +kernel) ?_
        exact ⟨rfl, (by repeat (first | exact fr_r | refine fr_I (by decide) ?_ | refine fr_J (by decide) ?_)), rfl, rfl⟩
      · omega
    | none =>
      have go1 := ck_gn hR.2.2.1 (show t ≤ m by omega) k1 (by decide) (by decide)
      show q_Ct l g 23 mX5_takeTell _ h (q_tlA K m 22 h (tx_b (tx_ck (tk_T K) 1 (t + 1)) _))
      cases k2 : tx_ck (tk_T K) 1 (t + 1) with
      | some er =>
        refine q_CtV mvX5_takeTell (Nat.le_of_ble_eq_true rfl) ?_
        refine xe_aload_n dX5_takeTell_0 rfl ?_
        refine xe_getIv dX5_takeTell_1 flX5_41 (st7 hs) (by decide) rfl (v := nI 261) (hk5) ?_
        refine xe_tsw_in (tgt := 176) dX5_takeTell_4 (by decide) (by decide) rfl rfl ?_
        refine xe_aload_n dX5_takeTell_176 rfl ?_
        refine xe_sipush dX5_takeTell_177 ks_261 ?_
        refine xe_callVI (d' := 0) (y' := mX5_take) dX5_takeTell_180 mlX5_63 mvX5_take rfl (st7 hs) (by decide) rfl (by decide) (by decide) (Nat.le_of_ble_eq_true rfl) (c_X5_take_t l g _ (by exact hs) (p := 22) (t := t) (by refine ck_R_t (t' := t) hR ?_ ?_ ?_ ?_ (by omega) ?_ ?_ <;> first | exact rfl | exact h4 | exact h5) (k := 25) (by decide) (by decide) (by decide) k1) rfl ?_
        refine xn_if_eq (tgt := 226) dX5_takeTell_183 rfl (by omega) (fun c1 => ?_) (fun c1 => ?_)
        · omega
        · refine xe_aload_n dX5_takeTell_186 rfl ?_
          refine xe_aload_n dX5_takeTell_187 rfl ?_
          refine xe_getP dX5_takeTell_188 flX5_15 (st7 hs) (by decide) rfl (sp7_0 hs) ?_
          refine xe_aload_n dX5_takeTell_191 rfl ?_
          refine xe_getP dX5_takeTell_192 flX5_26 (st7 hs) (by decide) rfl hI3 ?_
          refine xe_getIv dX5_takeTell_195 flX5_77 (st22 hs) (by decide) rfl (v := nI ((ps_m s).length)) (v3) ?_
          refine xe_callVI (d' := 1) (y' := mX5_takeOldName) dX5_takeTell_198 mlX5_93 mvX5_takeOldName rfl (st7 hs) (by decide) rfl (by decide) (by decide) (Nat.le_of_ble_eq_true rfl) (c_X5_takeOldName_f l g _ (by exact hs) (p := 22) (t := (t + 1)) (by refine ck_R_t (t' := (t + 1)) hR ?_ ?_ ?_ ?_ (by omega) ?_ ?_ <;> first | exact rfl | exact h4 | exact h5) k2 _ _) rfl ?_
          refine xn_if_eq (tgt := 226) dX5_takeTell_201 rfl (by omega) (fun c2 => ?_) (fun c2 => ?_)
          · refine xe_iconst dX5_takeTell_226 kc_0 ?_
            refine xe_ireturn dX5_takeTell_227 rfl (by first | rfl | decide +kernel) ?_
            exact ⟨rfl, (by repeat (first | exact fr_r | refine fr_I (by decide) ?_ | refine fr_J (by decide) ?_)), rfl, rfl⟩
          · omega
      | none =>
        have go2 := ck_gn hR.2.2.1 (show t + 1 ≤ m by omega) k2 (by decide) (by decide)
        cases kf : tx_find (tk_N K (t + 1)) (ps_m s) 0 with
        | some j =>
          have kj := tx_find_lt _ 0 j kf
          show q_Ct l g 23 mX5_takeTell _ h (q_tlA K m 22 h (tx_r (tx_law K (t + 2)) _))
          cases kl : tx_law K (t + 2) with
          | inl er =>
            refine q_CtV mvX5_takeTell (Nat.le_of_ble_eq_true rfl) ?_
            refine xe_aload_n dX5_takeTell_0 rfl ?_
            refine xe_getIv dX5_takeTell_1 flX5_41 (st7 hs) (by decide) rfl (v := nI 261) (hk5) ?_
            refine xe_tsw_in (tgt := 176) dX5_takeTell_4 (by decide) (by decide) rfl rfl ?_
            refine xe_aload_n dX5_takeTell_176 rfl ?_
            refine xe_sipush dX5_takeTell_177 ks_261 ?_
            refine xe_callVI (d' := 0) (y' := mX5_take) dX5_takeTell_180 mlX5_63 mvX5_take rfl (st7 hs) (by decide) rfl (by decide) (by decide) (Nat.le_of_ble_eq_true rfl) (c_X5_take_t l g _ (by exact hs) (p := 22) (t := t) (by refine ck_R_t (t' := t) hR ?_ ?_ ?_ ?_ (by omega) ?_ ?_ <;> first | exact rfl | exact h4 | exact h5) (k := 25) (by decide) (by decide) (by decide) k1) rfl ?_
            refine xn_if_eq (tgt := 226) dX5_takeTell_183 rfl (by omega) (fun c1 => ?_) (fun c1 => ?_)
            · omega
            · refine xe_aload_n dX5_takeTell_186 rfl ?_
              refine xe_aload_n dX5_takeTell_187 rfl ?_
              refine xe_getP dX5_takeTell_188 flX5_15 (st7 hs) (by decide) rfl (sp7_0 hs) ?_
              refine xe_aload_n dX5_takeTell_191 rfl ?_
              refine xe_getP dX5_takeTell_192 flX5_26 (st7 hs) (by decide) rfl hI3 ?_
              refine xe_getIv dX5_takeTell_195 flX5_77 (st22 hs) (by decide) rfl (v := nI ((ps_m s).length)) (v3) ?_
              refine xe_callVIq (d' := 1) (y' := mX5_takeOldName) dX5_takeTell_198 mlX5_93 mvX5_takeOldName rfl (st7 hs) (by decide) rfl (by decide) (by decide) (Nat.le_of_ble_eq_true rfl) (c_X5_takeOldName8_t l g _ (by exact hs) (p := 22) (t := (t + 1)) (by refine ck_R_t (t' := (t + 1)) hR ?_ ?_ ?_ ?_ (by omega) ?_ ?_ <;> first | exact rfl | exact h4 | exact h5) (by exact vE) (ns := ps_m s) (by exact vN8) k2) rfl (fun h2 hq2 => ?_)
              obtain ⟨a2, b2, rfl, hl2⟩ := hq2
              refine xn_if_eq (tgt := 226) dX5_takeTell_201 rfl (by omega) (fun c3 => ?_) (fun c3 => ?_)
              · omega
              · refine xe_aload_n dX5_takeTell_204 rfl ?_
                refine xe_aload_n dX5_takeTell_205 rfl ?_
                refine xe_getP dX5_takeTell_206 flX5_26 (st7 hs) (by decide) rfl hI3 ?_
                refine xe_getP dX5_takeTell_209 flX5_110 (st22 hs) (by decide) rfl (sp22_11 hs) ?_
                refine xe_aload_n dX5_takeTell_212 rfl ?_
                refine xe_getIv dX5_takeTell_213 flX5_70 (st7 hs) (by decide) rfl (v := nI j) ((by show q_ofi (tx_find (tk_N K (t + 1)) (ps_m s) 0) = _; rw [kf]; rfl)) ?_
                refine xe_callVIq (d' := 22) (y' := mX5_takeLaw) dX5_takeTell_216 mlX5_100 mvX5_takeLaw rfl (st7 hs) (by decide) rfl (by decide) (by decide) (Nat.le_of_ble_eq_true rfl) (lw_inl kl (c_X5_takeLaw22_7 l g _ (by exact hs) (t := (t + 1 + 1)) (n := n) (by refine ck_R_t (t' := (t + 1 + 1)) hR ?_ ?_ ?_ ?_ (by omega) ?_ ?_ <;> first | exact rfl | exact h4 | exact h5) (by exact v2) (by omega) (j := j) (by omega))) rfl (fun h1 hq => ?_)
                refine xn_if_eq (tgt := 226) dX5_takeTell_219 rfl (by omega) (fun c4 => ?_) (fun c4 => ?_)
                · refine xe_iconst dX5_takeTell_226 kc_0 ?_
                  refine xe_ireturn dX5_takeTell_227 rfl (by first | rfl | decide +kernel) ?_
                  exact ⟨rfl, (fr_em (by repeat (first | exact fr_r | refine fr_I (by decide) ?_ | refine fr_J (by decide) ?_)) hq.1), hq.2.1, hq.2.2⟩
                · omega
          | inr x =>
            refine q_CtV mvX5_takeTell (Nat.le_of_ble_eq_true rfl) ?_
            refine xe_aload_n dX5_takeTell_0 rfl ?_
            refine xe_getIv dX5_takeTell_1 flX5_41 (st7 hs) (by decide) rfl (v := nI 261) (hk5) ?_
            refine xe_tsw_in (tgt := 176) dX5_takeTell_4 (by decide) (by decide) rfl rfl ?_
            refine xe_aload_n dX5_takeTell_176 rfl ?_
            refine xe_sipush dX5_takeTell_177 ks_261 ?_
            refine xe_callVI (d' := 0) (y' := mX5_take) dX5_takeTell_180 mlX5_63 mvX5_take rfl (st7 hs) (by decide) rfl (by decide) (by decide) (Nat.le_of_ble_eq_true rfl) (c_X5_take_t l g _ (by exact hs) (p := 22) (t := t) (by refine ck_R_t (t' := t) hR ?_ ?_ ?_ ?_ (by omega) ?_ ?_ <;> first | exact rfl | exact h4 | exact h5) (k := 25) (by decide) (by decide) (by decide) k1) rfl ?_
            refine xn_if_eq (tgt := 226) dX5_takeTell_183 rfl (by omega) (fun c1 => ?_) (fun c1 => ?_)
            · omega
            · refine xe_aload_n dX5_takeTell_186 rfl ?_
              refine xe_aload_n dX5_takeTell_187 rfl ?_
              refine xe_getP dX5_takeTell_188 flX5_15 (st7 hs) (by decide) rfl (sp7_0 hs) ?_
              refine xe_aload_n dX5_takeTell_191 rfl ?_
              refine xe_getP dX5_takeTell_192 flX5_26 (st7 hs) (by decide) rfl hI3 ?_
              refine xe_getIv dX5_takeTell_195 flX5_77 (st22 hs) (by decide) rfl (v := nI ((ps_m s).length)) (v3) ?_
              refine xe_callVIq (d' := 1) (y' := mX5_takeOldName) dX5_takeTell_198 mlX5_93 mvX5_takeOldName rfl (st7 hs) (by decide) rfl (by decide) (by decide) (Nat.le_of_ble_eq_true rfl) (c_X5_takeOldName8_t l g _ (by exact hs) (p := 22) (t := (t + 1)) (by refine ck_R_t (t' := (t + 1)) hR ?_ ?_ ?_ ?_ (by omega) ?_ ?_ <;> first | exact rfl | exact h4 | exact h5) (by exact vE) (ns := ps_m s) (by exact vN8) k2) rfl (fun h2 hq2 => ?_)
              obtain ⟨a2, b2, rfl, hl2⟩ := hq2
              refine xn_if_eq (tgt := 226) dX5_takeTell_201 rfl (by omega) (fun c3 => ?_) (fun c3 => ?_)
              · omega
              · refine xe_aload_n dX5_takeTell_204 rfl ?_
                refine xe_aload_n dX5_takeTell_205 rfl ?_
                refine xe_getP dX5_takeTell_206 flX5_26 (st7 hs) (by decide) rfl hI3 ?_
                refine xe_getP dX5_takeTell_209 flX5_110 (st22 hs) (by decide) rfl (sp22_11 hs) ?_
                refine xe_aload_n dX5_takeTell_212 rfl ?_
                refine xe_getIv dX5_takeTell_213 flX5_70 (st7 hs) (by decide) rfl (v := nI j) ((by show q_ofi (tx_find (tk_N K (t + 1)) (ps_m s) 0) = _; rw [kf]; rfl)) ?_
                refine xe_callVIq (d' := 22) (y' := mX5_takeLaw) dX5_takeTell_216 mlX5_100 mvX5_takeLaw rfl (st7 hs) (by decide) rfl (by decide) (by decide) (Nat.le_of_ble_eq_true rfl) (lw_inr kl (c_X5_takeLaw22_7 l g _ (by exact hs) (t := (t + 1 + 1)) (n := n) (by refine ck_R_t (t' := (t + 1 + 1)) hR ?_ ?_ ?_ ?_ (by omega) ?_ ?_ <;> first | exact rfl | exact h4 | exact h5) (by exact v2) (by omega) (j := j) (by omega))) rfl (fun h1 hq => ?_)
                refine xn_if_eq (tgt := 226) dX5_takeTell_219 rfl (by omega) (fun c4 => ?_) (fun c4 => ?_)
                · omega
                · refine xe_iconst dX5_takeTell_222 kc_1 ?_
                  refine xe_goto (tgt := 227) dX5_takeTell_223 rfl ?_
                  refine xe_ireturn dX5_takeTell_227 rfl (by first | rfl | decide +kernel) ?_
                  obtain ⟨n1, g1, g2, g3⟩ := hq
                  refine ⟨rfl, fr_em (by repeat (first | exact fr_r | refine fr_I (by decide) ?_ | refine fr_J (by decide) ?_)) (gs_em g1 (by have := g1.1; omega)), g1.1, g1.2.2.2.2.1, g1.2.2.2.2.2.1, n1, g2, ?_⟩
                  rw [kf] at hl2
                  refine v_law22_7 (by omega) hV ?_ ?_ ?_ ?_ ?_ g1 g3
                  · exact (by intro r a1 a2; repeat (first | exact rfl | refine (q_Ine (by assumption)).trans ?_))
                  · rfl
                  · rfl
                  · exact hl2
                  · exact v7
        | none =>
          show q_Ct l g 23 mX5_takeTell _ h (q_tlA K m 22 h (tx_r (tx_law K (t + 2)) _))
          cases kl : tx_law K (t + 2) with
          | inl er =>
            refine q_CtV mvX5_takeTell (Nat.le_of_ble_eq_true rfl) ?_
            refine xe_aload_n dX5_takeTell_0 rfl ?_
            refine xe_getIv dX5_takeTell_1 flX5_41 (st7 hs) (by decide) rfl (v := nI 261) (hk5) ?_
            refine xe_tsw_in (tgt := 176) dX5_takeTell_4 (by decide) (by decide) rfl rfl ?_
            refine xe_aload_n dX5_takeTell_176 rfl ?_
            refine xe_sipush dX5_takeTell_177 ks_261 ?_
            refine xe_callVI (d' := 0) (y' := mX5_take) dX5_takeTell_180 mlX5_63 mvX5_take rfl (st7 hs) (by decide) rfl (by decide) (by decide) (Nat.le_of_ble_eq_true rfl) (c_X5_take_t l g _ (by exact hs) (p := 22) (t := t) (by refine ck_R_t (t' := t) hR ?_ ?_ ?_ ?_ (by omega) ?_ ?_ <;> first | exact rfl | exact h4 | exact h5) (k := 25) (by decide) (by decide) (by decide) k1) rfl ?_
            refine xn_if_eq (tgt := 226) dX5_takeTell_183 rfl (by omega) (fun c1 => ?_) (fun c1 => ?_)
            · omega
            · refine xe_aload_n dX5_takeTell_186 rfl ?_
              refine xe_aload_n dX5_takeTell_187 rfl ?_
              refine xe_getP dX5_takeTell_188 flX5_15 (st7 hs) (by decide) rfl (sp7_0 hs) ?_
              refine xe_aload_n dX5_takeTell_191 rfl ?_
              refine xe_getP dX5_takeTell_192 flX5_26 (st7 hs) (by decide) rfl hI3 ?_
              refine xe_getIv dX5_takeTell_195 flX5_77 (st22 hs) (by decide) rfl (v := nI ((ps_m s).length)) (v3) ?_
              refine xe_callVIq (d' := 1) (y' := mX5_takeOldName) dX5_takeTell_198 mlX5_93 mvX5_takeOldName rfl (st7 hs) (by decide) rfl (by decide) (by decide) (Nat.le_of_ble_eq_true rfl) (c_X5_takeOldName8_t l g _ (by exact hs) (p := 22) (t := (t + 1)) (by refine ck_R_t (t' := (t + 1)) hR ?_ ?_ ?_ ?_ (by omega) ?_ ?_ <;> first | exact rfl | exact h4 | exact h5) (by exact vE) (ns := ps_m s) (by exact vN8) k2) rfl (fun h2 hq2 => ?_)
              obtain ⟨a2, b2, rfl, hl2⟩ := hq2
              refine xn_if_eq (tgt := 226) dX5_takeTell_201 rfl (by omega) (fun c3 => ?_) (fun c3 => ?_)
              · omega
              · refine xe_aload_n dX5_takeTell_204 rfl ?_
                refine xe_aload_n dX5_takeTell_205 rfl ?_
                refine xe_getP dX5_takeTell_206 flX5_26 (st7 hs) (by decide) rfl hI3 ?_
                refine xe_getP dX5_takeTell_209 flX5_110 (st22 hs) (by decide) rfl (sp22_11 hs) ?_
                refine xe_aload_n dX5_takeTell_212 rfl ?_
                refine xe_getIv dX5_takeTell_213 flX5_70 (st7 hs) (by decide) rfl (v := (-1)) ((by show q_ofi (tx_find (tk_N K (t + 1)) (ps_m s) 0) = _; rw [kf]; rfl)) ?_
                refine xe_callVIq (d' := 22) (y' := mX5_takeLaw) dX5_takeTell_216 mlX5_100 mvX5_takeLaw rfl (st7 hs) (by decide) rfl (by decide) (by decide) (Nat.le_of_ble_eq_true rfl) (lw_inl kl (c_X5_takeLaw22_n l g _ (by exact hs) (t := (t + 1 + 1)) (n := n) (by refine ck_R_t (t' := (t + 1 + 1)) hR ?_ ?_ ?_ ?_ (by omega) ?_ ?_ <;> first | exact rfl | exact h4 | exact h5) (by exact v2) (by omega) _)) rfl (fun h1 hq => ?_)
                refine xn_if_eq (tgt := 226) dX5_takeTell_219 rfl (by omega) (fun c4 => ?_) (fun c4 => ?_)
                · refine xe_iconst dX5_takeTell_226 kc_0 ?_
                  refine xe_ireturn dX5_takeTell_227 rfl (by first | rfl | decide +kernel) ?_
                  exact ⟨rfl, (fr_em (by repeat (first | exact fr_r | refine fr_I (by decide) ?_ | refine fr_J (by decide) ?_)) hq.1), hq.2.1, hq.2.2⟩
                · omega
          | inr x =>
            refine q_CtV mvX5_takeTell (Nat.le_of_ble_eq_true rfl) ?_
            refine xe_aload_n dX5_takeTell_0 rfl ?_
            refine xe_getIv dX5_takeTell_1 flX5_41 (st7 hs) (by decide) rfl (v := nI 261) (hk5) ?_
            refine xe_tsw_in (tgt := 176) dX5_takeTell_4 (by decide) (by decide) rfl rfl ?_
            refine xe_aload_n dX5_takeTell_176 rfl ?_
            refine xe_sipush dX5_takeTell_177 ks_261 ?_
            refine xe_callVI (d' := 0) (y' := mX5_take) dX5_takeTell_180 mlX5_63 mvX5_take rfl (st7 hs) (by decide) rfl (by decide) (by decide) (Nat.le_of_ble_eq_true rfl) (c_X5_take_t l g _ (by exact hs) (p := 22) (t := t) (by refine ck_R_t (t' := t) hR ?_ ?_ ?_ ?_ (by omega) ?_ ?_ <;> first | exact rfl | exact h4 | exact h5) (k := 25) (by decide) (by decide) (by decide) k1) rfl ?_
            refine xn_if_eq (tgt := 226) dX5_takeTell_183 rfl (by omega) (fun c1 => ?_) (fun c1 => ?_)
            · omega
            · refine xe_aload_n dX5_takeTell_186 rfl ?_
              refine xe_aload_n dX5_takeTell_187 rfl ?_
              refine xe_getP dX5_takeTell_188 flX5_15 (st7 hs) (by decide) rfl (sp7_0 hs) ?_
              refine xe_aload_n dX5_takeTell_191 rfl ?_
              refine xe_getP dX5_takeTell_192 flX5_26 (st7 hs) (by decide) rfl hI3 ?_
              refine xe_getIv dX5_takeTell_195 flX5_77 (st22 hs) (by decide) rfl (v := nI ((ps_m s).length)) (v3) ?_
              refine xe_callVIq (d' := 1) (y' := mX5_takeOldName) dX5_takeTell_198 mlX5_93 mvX5_takeOldName rfl (st7 hs) (by decide) rfl (by decide) (by decide) (Nat.le_of_ble_eq_true rfl) (c_X5_takeOldName8_t l g _ (by exact hs) (p := 22) (t := (t + 1)) (by refine ck_R_t (t' := (t + 1)) hR ?_ ?_ ?_ ?_ (by omega) ?_ ?_ <;> first | exact rfl | exact h4 | exact h5) (by exact vE) (ns := ps_m s) (by exact vN8) k2) rfl (fun h2 hq2 => ?_)
              obtain ⟨a2, b2, rfl, hl2⟩ := hq2
              refine xn_if_eq (tgt := 226) dX5_takeTell_201 rfl (by omega) (fun c3 => ?_) (fun c3 => ?_)
              · omega
              · refine xe_aload_n dX5_takeTell_204 rfl ?_
                refine xe_aload_n dX5_takeTell_205 rfl ?_
                refine xe_getP dX5_takeTell_206 flX5_26 (st7 hs) (by decide) rfl hI3 ?_
                refine xe_getP dX5_takeTell_209 flX5_110 (st22 hs) (by decide) rfl (sp22_11 hs) ?_
                refine xe_aload_n dX5_takeTell_212 rfl ?_
                refine xe_getIv dX5_takeTell_213 flX5_70 (st7 hs) (by decide) rfl (v := (-1)) ((by show q_ofi (tx_find (tk_N K (t + 1)) (ps_m s) 0) = _; rw [kf]; rfl)) ?_
                refine xe_callVIq (d' := 22) (y' := mX5_takeLaw) dX5_takeTell_216 mlX5_100 mvX5_takeLaw rfl (st7 hs) (by decide) rfl (by decide) (by decide) (Nat.le_of_ble_eq_true rfl) (lw_inr kl (c_X5_takeLaw22_n l g _ (by exact hs) (t := (t + 1 + 1)) (n := n) (by refine ck_R_t (t' := (t + 1 + 1)) hR ?_ ?_ ?_ ?_ (by omega) ?_ ?_ <;> first | exact rfl | exact h4 | exact h5) (by exact v2) (by omega) _)) rfl (fun h1 hq => ?_)
                refine xn_if_eq (tgt := 226) dX5_takeTell_219 rfl (by omega) (fun c4 => ?_) (fun c4 => ?_)
                · omega
                · refine xe_iconst dX5_takeTell_222 kc_1 ?_
                  refine xe_goto (tgt := 227) dX5_takeTell_223 rfl ?_
                  refine xe_ireturn dX5_takeTell_227 rfl (by first | rfl | decide +kernel) ?_
                  obtain ⟨n1, g1, g2, g3⟩ := hq
                  refine ⟨rfl, fr_em (by repeat (first | exact fr_r | refine fr_I (by decide) ?_ | refine fr_J (by decide) ?_)) (gs_em g1 (by have := g1.1; omega)), g1.1, g1.2.2.2.2.1, g1.2.2.2.2.2.1, n1, g2, ?_⟩
                  rw [kf] at hl2
                  refine v_law22_n hV ?_ ?_ ?_ ?_ g1 g3
                  · exact (by intro r a1; repeat (first | exact rfl | refine (q_Ine (by assumption)).trans ?_))
                  · rfl
                  · exact hl2
                  · exact v7
  rw [if_neg t25]
  by_cases t26 : tk_T K t = 26
  · rw [if_pos t26]
    have hk5 : q_I h 7 5 = nI 262 := h5.trans (by rw [t26]; rfl)
    refine q_CtV mvX5_takeTell (Nat.le_of_ble_eq_true rfl) ?_
    refine xe_aload_n dX5_takeTell_0 rfl ?_
    refine xe_getIv dX5_takeTell_1 flX5_41 (st7 hs) (by decide) rfl (v := nI 262) (hk5) ?_
    refine xe_tsw_in (tgt := 228) dX5_takeTell_4 (by decide) (by decide) rfl rfl ?_
    refine xe_aload_n dX5_takeTell_228 rfl ?_
    refine xe_callVIn (d' := 2) (y' := mX5_takeCold) dX5_takeTell_229 mlX5_113 mvX5_takeCold rfl (st7 hs) (by decide) rfl (by decide) (by decide) (Nat.le_of_ble_eq_true rfl) (hpass _ _ (c_X5_takeCold22 l g _ hs hR hV hnt)) rfl (fun rv h1 hq => ?_)
    refine xe_ireturn dX5_takeTell_232 rfl (by rcases hq.2 with q | q <;> rw [q] <;> decide +kernel) ?_
    exact hq.1
  rw [if_neg t26]
  by_cases t27 : tk_T K t = 27
  · rw [if_pos t27]
    have hk5 : q_I h 7 5 = nI 263 := h5.trans (by rw [t27]; rfl)
    refine q_CtV mvX5_takeTell (Nat.le_of_ble_eq_true rfl) ?_
    refine xe_aload_n dX5_takeTell_0 rfl ?_
    refine xe_getIv dX5_takeTell_1 flX5_41 (st7 hs) (by decide) rfl (v := nI 263) (hk5) ?_
    refine xe_tsw_in (tgt := 233) dX5_takeTell_4 (by decide) (by decide) rfl rfl ?_
    refine xe_aload_n dX5_takeTell_233 rfl ?_
    refine xe_callVIn (d' := 2) (y' := mX5_takeMoult) dX5_takeTell_234 mlX5_116 mvX5_takeMoult rfl (st7 hs) (by decide) rfl (by decide) (by decide) (Nat.le_of_ble_eq_true rfl) (hpass _ _ (c_X5_takeMoult22 l g _ hs hR hV hnt)) rfl (fun rv h1 hq => ?_)
    refine xe_ireturn dX5_takeTell_237 rfl (by rcases hq.2 with q | q <;> rw [q] <;> decide +kernel) ?_
    exact hq.1
  rw [if_neg t27]
  have hsw : (q_kap (tk_T K t)).toInt < 256 ∨ 263 < (q_kap (tk_T K t)).toInt := q_kap_sw ⟨tk_T K t, tk_lt hok⟩ hok (by show ¬ (20 ≤ tk_T K t ∧ tk_T K t ≤ 27); omega)
  refine q_CtV mvX5_takeTell (Nat.le_of_ble_eq_true rfl) ?_
  refine xe_aload_n dX5_takeTell_0 rfl ?_
  refine xe_getIv dX5_takeTell_1 flX5_41 (st7 hs) (by decide) rfl (v := (q_kap (tk_T K t))) (h5) ?_
  refine xe_tsw_out (tgt := 238) dX5_takeTell_4 (hsw) rfl ?_
  refine xe_aload_n dX5_takeTell_238 rfl ?_
  refine xe_iconst dX5_takeTell_239 kc_1 ?_
  refine xe_callVI (d' := 0) (y' := mX5_fail) dX5_takeTell_240 mlX5_119 mvX5_fail rfl (st7 hs) (by decide) rfl (by decide) (by decide) (Nat.le_of_ble_eq_true rfl) (c_X5_fail l g _ (by exact hs) (p := 22) (t := t) (by refine ck_R_t (t' := t) hR ?_ ?_ ?_ ?_ (by omega) ?_ ?_ <;> first | exact rfl | exact h4 | exact h5) _) rfl ?_
  refine xe_ireturn dX5_takeTell_243 rfl (by first | rfl | decide +kernel) ?_
  exact ⟨rfl, (by repeat (first | exact fr_r | refine fr_I (by decide) ?_ | refine fr_J (by decide) ?_)), rfl, rfl⟩
