/-! the reference: men, deeds, cold of a text -/
/-- place i of row r is none that a text may touch on side sd -/
def q_os (sd r i : Nat) : Prop := (r = 135 ∨ r = 137 ∨ r = 139 ∨ r = 141 → i ≠ sd) ∧ (r = 136 ∨ r = 138 → i < 8 * sd ∨ 8 * sd + 8 ≤ i) ∧ (r = 140 → i < 12 * sd ∨ 12 * sd + 12 ≤ i) ∧ (r = 142 ∨ r = 143 → i < 20 * sd ∨ 20 * sd + 20 ≤ i) ∧ (144 ≤ r ∧ r ≤ 148 → i < 130 * sd ∨ 130 * sd + 130 ≤ i) ∧ (r = 149 ∨ r = 150 → i < 420 * sd ∨ 420 * sd + 420 ≤ i) ∧ (r ≠ 133 ∧ r ≠ 134 ∧ r ≠ 151) ∧ (r = 124 → i ≠ 11 ∧ i ≠ 12 ∧ i ≠ 13 ∧ i ≠ 14 ∧ i ≠ 15 ∧ i ≠ 16 ∧ i ≠ 20 ∧ i ≠ 33 ∧ i ≠ 39 ∧ i ≠ 43)
def q_rt (sd : Nat) (h0 h : q_H) : Prop := h.2.2 = h0.2.2 ∧ (∀ r, r ≠ 132 → q_J h r = q_J h0 r) ∧ ∀ r i, q_os sd r i → q_I h r i = q_I h0 r i
theorem rt_r {sd : Nat} {h : q_H} : q_rt sd h h := ⟨rfl, fun _ _ => rfl, fun _ _ _ => rfl⟩
theorem rt_t {sd : Nat} {h0 h h1 : q_H} (a : q_rt sd h0 h) (b : q_rt sd h h1) : q_rt sd h0 h1 := ⟨b.1.trans a.1, fun r x => (b.2.1 r x).trans (a.2.1 r x), fun r i x => (b.2.2 r i x).trans (a.2.2 r i x)⟩
theorem rt_f {sd r0 : Nat} {h0 h : q_H} {f : Nat → Int32} (a : q_rt sd h0 h) (hf : ∀ i, q_os sd r0 i → f i = q_I h r0 i) : q_rt sd h0 (q_wI h r0 f) := ⟨a.1, a.2.1, fun r i x => by
  by_cases hr : r = r0
  · subst hr
    rw [q_Iw]
    exact (hf i x).trans (a.2.2 r i x)
  · rw [q_Ine hr]
    exact a.2.2 r i x⟩
theorem rt_w {sd r0 j : Nat} {v : Int32} {h0 h : q_H} (a : q_rt sd h0 h) (hj : ¬ q_os sd r0 j) : q_rt sd h0 (q_wI h r0 (upd (q_I h r0) j v)) := rt_f a (fun i hi => pk_un (fun q => hj (q ▸ hi)))
theorem rt_J {sd : Nat} {h0 h : q_H} {f : Nat → Int64} (a : q_rt sd h0 h) : q_rt sd h0 (q_wJ h 132 f) := ⟨a.1, fun r x => by
  rw [q_JwJ, if_neg x]
  exact a.2.1 r x, a.2.2⟩
theorem rt_rf {sd cc bb : Nat} {h0 h h1 : q_H} (a : q_rt sd h0 h) (b : q_rf sd cc bb h h1) (hc : 420 * sd ≤ cc) (hb : 130 * sd ≤ bb) : q_rt sd h0 h1 := by
  refine ⟨(congrArg (fun z => z.2) b.1).trans a.1, fun r x => (congrArg (fun z => z.1 r) b.1).trans (a.2.1 r x), fun r i x => ?_⟩
  have e : q_I h1 r i = q_I h r i := by
    obtain ⟨x1, x2, x3, x4, x5, x6, x7, x8⟩ := x
    by_cases h4 : r = 124
    · subst h4
      obtain ⟨y1, y2, y3, y4, y5, y6, y7, y8, y9, y10⟩ := x8 rfl
      exact b.2.2.1 i y1 y2 y3 y4 y8 y9 y10
    · by_cases h5 : r < 144 ∨ 151 < r
      · exact congrFun (b.2.1 r h4 h5) i
      · by_cases h6 : r ≤ 148
        · have := x5 ⟨by omega, h6⟩
          exact b.2.2.2.2 r (by omega) h6 i (by omega)
        · by_cases h7 : r = 149
          · subst h7
            have := x6 (Or.inl rfl)
            exact (b.2.2.2.1 i (by omega)).1
          · have h8 : r = 150 := by omega
            subst h8
            have := x6 (Or.inr rfl)
            exact (b.2.2.2.1 i (by omega)).2
  exact e.trans (a.2.2 r i x)
theorem os_135 {sd r : Nat} (h : r = 135 ∨ r = 137 ∨ r = 139 ∨ r = 141) : ¬ q_os sd r sd := fun q => q.1 h rfl
theorem os_136 {sd r i : Nat} (h : r = 136 ∨ r = 138) (hi : i < 8) : ¬ q_os sd r (8 * sd + i) := fun q => by have := q.2.1 h; omega
theorem os_140 {sd i : Nat} (hi : i < 12) : ¬ q_os sd 140 (12 * sd + i) := fun q => by have := q.2.2.1 rfl; omega
theorem os_142 {sd r i : Nat} (h : r = 142 ∨ r = 143) (hi : i < 20) : ¬ q_os sd r (20 * sd + i) := fun q => by have := q.2.2.2.1 h; omega
theorem os_133 {sd r i : Nat} (h : r = 133 ∨ r = 134 ∨ r = 151) : ¬ q_os sd r i := fun q => by have := q.2.2.2.2.2.2.1; omega
theorem os_124 {sd i : Nat} (h : q_os sd 124 i) : i ≠ 11 ∧ i ≠ 12 ∧ i ≠ 13 ∧ i ≠ 14 ∧ i ≠ 15 ∧ i ≠ 16 ∧ i ≠ 20 ∧ i ≠ 33 ∧ i ≠ 39 ∧ i ≠ 43 := h.2.2.2.2.2.2.2 rfl
/-- laws told so far: within the branches and codes that are used -/
def rv_L (h : q_H) (sd cc bb : Nat) (L : q_LW) : Prop := ∀ k, k < 20 → match L k with
  | none => q_I h 142 (20 * sd + k) = nI 0 ∧ q_I h 143 (20 * sd + k) = nI 0
  | some w => ∃ b, q_I h 142 (20 * sd + k) = nI b ∧ q_I h 143 (20 * sd + k) = nI (b + w.1.length + 1) ∧ b + w.1.length + 1 ≤ bb ∧ q_br h b w.1 w.2 ∧ (∀ j, j ≤ w.1.length → (∃ z, z ≤ cc ∧ q_I h 148 (b + j) = nI z) ∧ q_lo sd h b w.1.length j) ∧ 130 * sd ≤ b
theorem q_br_k {h h1 : q_H} {cc bb : Nat} (hb : ∀ r, 144 ≤ r → r ≤ 148 → ∀ i, i < bb → q_I h1 r i = q_I h r i) (hc : ∀ i, i < cc → q_I h1 149 i = q_I h 149 i ∧ q_I h1 150 i = q_I h 150 i) (hcc : cc ≤ 840) : ∀ (r : List q_ROW) (b : Nat) (e : List (Nat × Int32)), b + r.length + 1 ≤ bb → (∀ j, j ≤ r.length → ∃ z, z ≤ cc ∧ q_I h 148 (b + j) = nI z) → q_br h b r e → q_br h1 b r e
  | [], b, e, hbb, hz, hq => by
    obtain ⟨q1, t, q2, q3, q4, q5, q6⟩ := hq
    obtain ⟨z, z1, z2⟩ := hz 0 (Nat.le_refl _)
    have hbb : b + 0 + 1 ≤ bb := hbb
    have ez : t + e.length = z := (nI_eq (by omega) (by omega)).mp (q3.symm.trans z2)
    exact ⟨(hb _ (by decide) (by decide) _ (by omega)).trans q1, t, (hb _ (by decide) (by decide) _ (by omega)).trans q2, (hb _ (by decide) (by decide) _ (by omega)).trans q3, q4, q_sg_co (fun i h1 h2 => hc i (by omega)) q5, q6⟩
  | (x, y, z) :: r, b, e, hbb, hz, hq => by
    obtain ⟨⟨q1, t, q2, q3, q4, q5, q6, q7, q8, q9, q10, q11, q12⟩, q13⟩ := hq
    obtain ⟨u, u1, u2⟩ := hz 0 (Nat.zero_le _)
    have hbb : b + (r.length + 1) + 1 ≤ bb := hbb
    have ez : t + x.length + y.length + z.length = u := (nI_eq (by omega) (by omega)).mp (q5.symm.trans u2)
    refine ⟨⟨(hb _ (by decide) (by decide) _ (by omega)).trans q1, t, (hb _ (by decide) (by decide) _ (by omega)).trans q2, (hb _ (by decide) (by decide) _ (by omega)).trans q3, (hb _ (by decide) (by decide) _ (by omega)).trans q4, (hb _ (by decide) (by decide) _ (by omega)).trans q5, q6, q_sg_co (fun i h1 h2 => hc i (by omega)) q7, q_sg_co (fun i h1 h2 => hc i (by omega)) q8, q_sg_co (fun i h1 h2 => hc i (by omega)) q9, q10, q11, q12⟩, ?_⟩
    refine q_br_k hb hc hcc r (b + 1) e (by omega) (fun j hj => ?_) q13
    have := hz (j + 1) (Nat.succ_le_succ hj)
    rwa [show b + (j + 1) = b + 1 + j by omega] at this
theorem rvL_k {h h1 : q_H} {sd cc bb cc1 bb1 : Nat} {L : q_LW} (a : rv_L h sd cc bb L) (hcc : cc ≤ 840) (hc1 : cc ≤ cc1) (hb1 : bb ≤ bb1) (e2 : ∀ k, k < 20 → q_I h1 142 (20 * sd + k) = q_I h 142 (20 * sd + k) ∧ q_I h1 143 (20 * sd + k) = q_I h 143 (20 * sd + k)) (hb : ∀ r, 144 ≤ r → r ≤ 148 → ∀ i, i < bb → q_I h1 r i = q_I h r i) (hc : ∀ i, i < cc → q_I h1 149 i = q_I h 149 i ∧ q_I h1 150 i = q_I h 150 i) : rv_L h1 sd cc1 bb1 L := by
  intro k hk
  have h0 := a k hk
  obtain ⟨f1, f2⟩ := e2 k hk
  cases hL : L k with
  | none =>
    rw [hL] at h0
    exact ⟨f1.trans h0.1, f2.trans h0.2⟩
  | some w =>
    rw [hL] at h0
    obtain ⟨b, g1, g2, g3, g4, g5, g6⟩ := h0
    refine ⟨b, f1.trans g1, f2.trans g2, by omega, q_br_k hb hc hcc _ _ _ g3 (fun j hj => (g5 j hj).1) g4, fun j hj => ?_, g6⟩
    obtain ⟨⟨z, z1, z2⟩, z3⟩ := g5 j hj
    exact ⟨⟨z, by omega, (hb _ (by decide) (by decide) _ (by omega)).trans z2⟩, lo_k (hb _ (by decide) (by decide) _ (by omega)) (hb _ (by decide) (by decide) _ (by omega)) z3⟩
/-- what the text has told so far, on the reference's side sd -/
def rv_V (h : q_H) (K : q_TK) (sd t cc bb : Nat) (s : q_PS) : Prop := q_I h 135 sd = nI (ps_m s).length ∧ q_I h 137 sd = nI (ps_d s).length ∧ q_I h 139 sd = nI (ps_c s).length ∧ q_I h 141 sd = nI (ps_o s) ∧ ps_o s ≤ 9999 ∧ (ps_f s).length = (ps_m s).length ∧ (ps_g s).length = (ps_d s).length ∧ (ps_c s).length ≤ 12 ∧ (ps_m s).length ≤ 8 ∧ (ps_d s).length ≤ 8 ∧ (∀ i, i < (ps_f s).length → q_I h 136 (8 * sd + i) = nI ((ps_f s).getD i 0)) ∧ (∀ i, i < (ps_g s).length → q_I h 138 (8 * sd + i) = nI ((ps_g s).getD i 0)) ∧ (∀ i, i < (ps_c s).length → q_I h 140 (12 * sd + i) = nI ((ps_c s).getD i 0)) ∧ rv_L h sd cc bb (ps_L s) ∧ (∃ N, rn_N h N ∧ nm_two N 0 0 (ps_m s) (ps_d s)) ∧ q_lfr K t (q_I h 124 15) (q_I h 124 16) (ps_e s)
def q_rtA (K : q_TK) (m sd : Nat) (h0 : q_H) (o : (Nat × Nat) ⊕ (q_PS × Nat)) (r : Option Value) (h : q_H) : Prop := match o with
  | .inl e => r = none ∧ q_rt sd h0 h ∧ q_I h 124 13 = nI e.1 ∧ q_I h 124 14 = nI (tk_P K e.2) ∧ 1 ≤ e.1 ∧ e.1 ≤ 5
  | .inr x => r = none ∧ q_rt sd h0 h ∧ ∃ cc bb, q_rs h K m sd x.2 cc bb ∧ 4 * (bb - 130 * sd) ≤ x.2 ∧ rv_V h K sd x.2 cc bb x.1
theorem rs_k {h h1 : q_H} {K : q_TK} {m sd t t1 cc bb : Nat} (a : q_rs h K m sd t cc bb) (e2 : h1.2.2 = h.2.2) (eJ : q_J h1 130 = q_J h 130) (e7 : q_I h1 127 = q_I h 127) (e8 : q_I h1 128 = q_I h 128) (e9 : q_I h1 129 = q_I h 129) (f12 : q_I h1 124 12 = q_I h 124 12) (f13 : q_I h1 124 13 = q_I h 124 13) (f19 : q_I h1 124 19 = q_I h 124 19) (f33 : q_I h1 124 33 = q_I h 124 33) (f39 : q_I h1 124 39 = q_I h 124 39) (f11 : q_I h1 124 11 = nI t1) (ht : t ≤ t1) (ht1 : t1 ≤ m) : q_rs h1 K m sd t1 cc bb := by
  obtain ⟨hs, hR, h12, h19, hsd, h33, h39, hc1, hc2, hb1, hb2⟩ := a
  exact ⟨q_Stat_3 e2 hs, ⟨rt_Tc hR.1 e7 e8 e9 eJ, ht1, f11, f13.trans hR.2.2.2⟩, f12.trans h12, f19.trans h19, hsd, f33.trans h33, f39.trans h39, hc1, by omega, hb1, hb2⟩
theorem rn_app {h h1 : q_H} {N : q_NM} {x : List Nat} {s a : Nat} (hN : rn_N h N) (h16 : N.length < 16) (hx : nm_ok x) (hs : s < 2) (e20 : q_I h1 124 20 = nI (N.length + 1)) (eJ : q_J h1 132 = vp_updL (q_J h 132) N.length (q_e27 x)) (e3 : q_I h1 133 = upd (q_I h 133) N.length (nI s)) (e4 : q_I h1 134 = upd (q_I h 134) N.length (nI a)) : rn_N h1 (N ++ [(x, s, a)]) := by
  rw [rn_N, List.length_append]
  refine ⟨e20, by show N.length + 1 ≤ 16; omega, fun i hi => ?_⟩
  have hi : i < N.length + 1 := hi
  rw [q_getD_app, eJ, e3, e4]
  by_cases q : i = N.length
  · rw [if_pos q, q]
    exact ⟨if_pos rfl, hx, pk_us, hs, pk_us⟩
  · rw [if_neg q, pk_un q, pk_un q]
    obtain ⟨n1, n2, n3, n4, n5⟩ := hN.2.2 i (by omega)
    exact ⟨(if_neg q).trans n1, n2, n3, n4, n5⟩
theorem rn_co {h h1 : q_H} {N : q_NM} (hN : rn_N h N) (e20 : q_I h1 124 20 = q_I h 124 20) (eJ : q_J h1 132 = q_J h 132) (e3 : q_I h1 133 = q_I h 133) (e4 : q_I h1 134 = q_I h 134) : rn_N h1 N := by
  unfold rn_N
  rw [e20, eJ, e3, e4]
  exact hN
theorem q_row_app2 {F G : Nat → Int32} {o : Nat} {l : List Nat} {v : Nat} (hF : ∀ i, i < l.length → F (o + i) = nI (l.getD i 0)) (e : G = upd F (o + l.length) (nI v)) : ∀ i, i < (l ++ [v]).length → G (o + i) = nI ((l ++ [v]).getD i 0) := by
  intro i hi
  rw [List.length_append] at hi
  have hi : i < l.length + 1 := hi
  rw [q_getD_app, e]
  by_cases q : i = l.length
  · rw [if_pos q, q]
    exact pk_us
  · rw [if_neg q, pk_un (by omega)]
    exact hF i (by omega)
theorem rv_man {h h1 : q_H} {K : q_TK} {sd t t1 cc bb v : Nat} {s : q_PS} {x : List Nat} {e : Option (Nat × Nat)} (hV : rv_V h K sd t cc bb s) (hcc : cc ≤ 840) (h8 : (ps_m s).length < 8) (hN' : ∃ N', rn_N h1 N' ∧ nm_two N' 0 0 (ps_m s ++ [x]) (ps_d s)) (eR : ∀ r, r ≠ 124 → r ≠ 133 → r ≠ 134 → r ≠ 135 → r ≠ 136 → q_I h1 r = q_I h r) (e1 : q_I h1 135 sd = nI ((ps_m s).length + 1)) (eF : q_I h1 136 = upd (q_I h 136) (8 * sd + (ps_m s).length) (nI v)) (el : q_lfr K t1 (q_I h1 124 15) (q_I h1 124 16) e) : rv_V h1 K sd t1 cc bb (ps_m s ++ [x], ps_d s, ps_f s ++ [v], ps_g s, ps_c s, ps_o s, ps_L s, e) := by
  obtain ⟨v1, v2, v3, v4, v4b, vf, vg, vc, vm8, vd8, vF, vG, vC, vL, ⟨N, vN, vN2⟩, vE⟩ := id hV
  have k : ∀ r, r ≠ 124 → r ≠ 133 → r ≠ 134 → r ≠ 135 → r ≠ 136 → ∀ i, q_I h1 r i = q_I h r i := fun r a1 a2 a3 a4 a5 i => congrFun (eR r a1 a2 a3 a4 a5) i
  have la : ∀ (l : List (List Nat)), (l ++ [x]).length = l.length + 1 := fun l => List.length_append
  have lb : ∀ (l : List Nat), (l ++ [v]).length = l.length + 1 := fun l => List.length_append
  refine ⟨e1.trans (congrArg nI (la _).symm), (k _ (by decide) (by decide) (by decide) (by decide) (by decide) _).trans v2, (k _ (by decide) (by decide) (by decide) (by decide) (by decide) _).trans v3, (k _ (by decide) (by decide) (by decide) (by decide) (by decide) _).trans v4, v4b, (lb _).trans ((congrArg (· + 1) vf).trans (la _).symm), vg, vc, by show (ps_m s ++ [x]).length ≤ 8; rw [la]; omega, vd8, q_row_app2 vF (by rw [vf]; exact eF), fun i hi => (k _ (by decide) (by decide) (by decide) (by decide) (by decide) _).trans (vG i hi), fun i hi => (k _ (by decide) (by decide) (by decide) (by decide) (by decide) _).trans (vC i hi), rvL_k vL hcc (Nat.le_refl _) (Nat.le_refl _) (fun j _ => ⟨k _ (by decide) (by decide) (by decide) (by decide) (by decide) _, k _ (by decide) (by decide) (by decide) (by decide) (by decide) _⟩) (fun r a1 a2 i _ => k r (by omega) (by omega) (by omega) (by omega) (by omega) i) (fun i _ => ⟨k _ (by decide) (by decide) (by decide) (by decide) (by decide) _, k _ (by decide) (by decide) (by decide) (by decide) (by decide) _⟩), hN', el⟩
theorem rv_deed {h h1 : q_H} {K : q_TK} {sd t t1 cc bb v : Nat} {s : q_PS} {x : List Nat} {e : Option (Nat × Nat)} (hV : rv_V h K sd t cc bb s) (hcc : cc ≤ 840) (h8 : (ps_d s).length < 8) (hN' : ∃ N', rn_N h1 N' ∧ nm_two N' 0 0 (ps_m s) (ps_d s ++ [x])) (eR : ∀ r, r ≠ 124 → r ≠ 133 → r ≠ 134 → r ≠ 137 → r ≠ 138 → q_I h1 r = q_I h r) (e1 : q_I h1 137 sd = nI ((ps_d s).length + 1)) (eF : q_I h1 138 = upd (q_I h 138) (8 * sd + (ps_d s).length) (nI v)) (el : q_lfr K t1 (q_I h1 124 15) (q_I h1 124 16) e) : rv_V h1 K sd t1 cc bb (ps_m s, ps_d s ++ [x], ps_f s, ps_g s ++ [v], ps_c s, ps_o s, ps_L s, e) := by
  obtain ⟨v1, v2, v3, v4, v4b, vf, vg, vc, vm8, vd8, vF, vG, vC, vL, ⟨N, vN, vN2⟩, vE⟩ := id hV
  have k : ∀ r, r ≠ 124 → r ≠ 133 → r ≠ 134 → r ≠ 137 → r ≠ 138 → ∀ i, q_I h1 r i = q_I h r i := fun r a1 a2 a3 a4 a5 i => congrFun (eR r a1 a2 a3 a4 a5) i
  have la : ∀ (l : List (List Nat)), (l ++ [x]).length = l.length + 1 := fun l => List.length_append
  have lb : ∀ (l : List Nat), (l ++ [v]).length = l.length + 1 := fun l => List.length_append
  refine ⟨(k _ (by decide) (by decide) (by decide) (by decide) (by decide) _).trans v1, e1.trans (congrArg nI (la _).symm), (k _ (by decide) (by decide) (by decide) (by decide) (by decide) _).trans v3, (k _ (by decide) (by decide) (by decide) (by decide) (by decide) _).trans v4, v4b, vf, (lb _).trans ((congrArg (· + 1) vg).trans (la _).symm), vc, vm8, by show (ps_d s ++ [x]).length ≤ 8; rw [la]; omega, fun i hi => (k _ (by decide) (by decide) (by decide) (by decide) (by decide) _).trans (vF i hi), q_row_app2 vG (by rw [vg]; exact eF), fun i hi => (k _ (by decide) (by decide) (by decide) (by decide) (by decide) _).trans (vC i hi), rvL_k vL hcc (Nat.le_refl _) (Nat.le_refl _) (fun j _ => ⟨k _ (by decide) (by decide) (by decide) (by decide) (by decide) _, k _ (by decide) (by decide) (by decide) (by decide) (by decide) _⟩) (fun r a1 a2 i _ => k r (by omega) (by omega) (by omega) (by omega) (by omega) i) (fun i _ => ⟨k _ (by decide) (by decide) (by decide) (by decide) (by decide) _, k _ (by decide) (by decide) (by decide) (by decide) (by decide) _⟩), hN', el⟩
theorem rv_moult {h h1 : q_H} {K : q_TK} {sd t t1 cc bb v : Nat} {s : q_PS} {e : Option (Nat × Nat)} (hV : rv_V h K sd t cc bb s) (hcc : cc ≤ 840) (hv9 : v ≤ 9999) (eR : ∀ r, r ≠ 124 → r ≠ 141 → q_I h1 r = q_I h r) (eJ : q_J h1 132 = q_J h 132) (e20 : q_I h1 124 20 = q_I h 124 20) (e1 : q_I h1 141 sd = nI v) (el : q_lfr K t1 (q_I h1 124 15) (q_I h1 124 16) e) : rv_V h1 K sd t1 cc bb (ps_m s, ps_d s, ps_f s, ps_g s, ps_c s, v, ps_L s, e) := by
  obtain ⟨v1, v2, v3, v4, v4b, vf, vg, vc, vm8, vd8, vF, vG, vC, vL, ⟨N, vN, vN2⟩, vE⟩ := id hV
  have k : ∀ r, r ≠ 124 → r ≠ 141 → ∀ i, q_I h1 r i = q_I h r i := fun r a1 a2 i => congrFun (eR r a1 a2) i
  exact ⟨(k _ (by decide) (by decide) _).trans v1, (k _ (by decide) (by decide) _).trans v2, (k _ (by decide) (by decide) _).trans v3, e1, hv9, vf, vg, vc, vm8, vd8, fun i hi => (k _ (by decide) (by decide) _).trans (vF i hi), fun i hi => (k _ (by decide) (by decide) _).trans (vG i hi), fun i hi => (k _ (by decide) (by decide) _).trans (vC i hi), rvL_k vL hcc (Nat.le_refl _) (Nat.le_refl _) (fun j _ => ⟨k _ (by decide) (by decide) _, k _ (by decide) (by decide) _⟩) (fun r a1 a2 i _ => k r (by omega) (by omega) i) (fun i _ => ⟨k _ (by decide) (by decide) _, k _ (by decide) (by decide) _⟩), ⟨N, rn_co vN e20 eJ (eR _ (by decide) (by decide)) (eR _ (by decide) (by decide)), vN2⟩, el⟩
theorem rv_cold {h h1 : q_H} {K : q_TK} {sd t t1 cc bb : Nat} {s : q_PS} {c : List Nat} {e : Option (Nat × Nat)} (hV : rv_V h K sd t cc bb s) (hcc : cc ≤ 840) (hc12 : c.length ≤ 12) (eR : ∀ r, r ≠ 124 → r ≠ 139 → r ≠ 140 → q_I h1 r = q_I h r) (eJ : q_J h1 132 = q_J h 132) (e20 : q_I h1 124 20 = q_I h 124 20) (e1 : q_I h1 139 sd = nI c.length) (eC : ∀ i, i < c.length → q_I h1 140 (12 * sd + i) = nI (c.getD i 0)) (el : q_lfr K t1 (q_I h1 124 15) (q_I h1 124 16) e) : rv_V h1 K sd t1 cc bb (ps_m s, ps_d s, ps_f s, ps_g s, c, ps_o s, ps_L s, e) := by
  obtain ⟨v1, v2, v3, v4, v4b, vf, vg, vc, vm8, vd8, vF, vG, vC, vL, ⟨N, vN, vN2⟩, vE⟩ := id hV
  have k : ∀ r, r ≠ 124 → r ≠ 139 → r ≠ 140 → ∀ i, q_I h1 r i = q_I h r i := fun r a1 a2 a3 i => congrFun (eR r a1 a2 a3) i
  exact ⟨(k _ (by decide) (by decide) (by decide) _).trans v1, (k _ (by decide) (by decide) (by decide) _).trans v2, e1, (k _ (by decide) (by decide) (by decide) _).trans v4, v4b, vf, vg, hc12, vm8, vd8, fun i hi => (k _ (by decide) (by decide) (by decide) _).trans (vF i hi), fun i hi => (k _ (by decide) (by decide) (by decide) _).trans (vG i hi), eC, rvL_k vL hcc (Nat.le_refl _) (Nat.le_refl _) (fun j _ => ⟨k _ (by decide) (by decide) (by decide) _, k _ (by decide) (by decide) (by decide) _⟩) (fun r a1 a2 i _ => k r (by omega) (by omega) (by omega) i) (fun i _ => ⟨k _ (by decide) (by decide) (by decide) _, k _ (by decide) (by decide) (by decide) _⟩), ⟨N, rn_co vN e20 eJ (eR _ (by decide) (by decide) (by decide)) (eR _ (by decide) (by decide) (by decide)), vN2⟩, el⟩
def tx_man2 (K : q_TK) (s : q_PS) (t : Nat) : (Nat × Nat) ⊕ (q_PS × Nat) := tx_b (tx_ck (tk_T K) 1 t) (tx_b (tx_ck (tk_T K) 2 (t + 1)) (tx_b (tx_ck (tk_T K) 4 (t + 2)) (.inr ((ps_m s ++ [tk_N K t], ps_d s, ps_f s ++ [tk_V K (t + 1)], ps_g s, ps_c s, ps_o s, ps_L s,
    tx_lf (tx_lf (ps_e s) ((tx_find (tk_N K t) (ps_m s) 0).isSome || (tx_find (tk_N K t) (ps_d s) 0).isSome) 3 t) (decide (999 < tk_V K (t + 1))) 5 (t + 1)), t + 3))))
def tx_deed2 (K : q_TK) (s : q_PS) (t : Nat) : (Nat × Nat) ⊕ (q_PS × Nat) := tx_b (tx_ck (tk_T K) 1 t) (tx_b (tx_ck (tk_T K) 2 (t + 1)) (tx_b (tx_ck (tk_T K) 4 (t + 2)) (.inr ((ps_m s, ps_d s ++ [tk_N K t], ps_f s, ps_g s ++ [tk_V K (t + 1)], ps_c s, ps_o s, ps_L s,
    tx_lf (tx_lf (ps_e s) ((tx_find (tk_N K t) (ps_m s) 0).isSome || (tx_find (tk_N K t) (ps_d s) 0).isSome) 3 t) (decide (99 < tk_V K (t + 1))) 5 (t + 1)), t + 3))))
theorem tx_man_2 {K : q_TK} {s : q_PS} {t : Nat} : tx_man K s t = if 8 ≤ (ps_m s).length then .inl (2, t) else tx_b (tx_ck (tk_T K) 20 t) (tx_man2 K s (t + 1)) := rfl
theorem tx_deed_2 {K : q_TK} {s : q_PS} {t : Nat} : tx_deed K s t = if 8 ≤ (ps_d s).length then .inl (2, t) else tx_b (tx_ck (tk_T K) 21 t) (tx_deed2 K s (t + 1)) := rfl
theorem r_tellMan (l : Launch) (g : q_GP) (h : q_H) {K : q_TK} {m sd t cc bb : Nat} {s : q_PS} (a : q_rs h K m sd t cc bb) (hbt : 4 * (bb - 130 * sd) ≤ t) (hV : rv_V h K sd t cc bb s) (hinc : q_inc K m) (h8 : (ps_m s).length < 8) : q_Ct l g 4 mX10_tellMan [.ref 124] h (q_rtA K m sd h (tx_man2 K s t)) := by
  obtain ⟨hs, hR, h12, h19, hsd, h33, h39, hc1, hc2, hb1, hb2⟩ := id a
  obtain ⟨hT, htm, h11, h13⟩ := id hR
  have hm4 := hT.1
  obtain ⟨v1, v2, v3, v4, v4b, vf, vg, vc, vm8, vd8, vF, vG, vC, vL, ⟨N, vN, vN2⟩, vE⟩ := id hV
  have hN16 := vN.2.1
  have hNl := nm_len vN2
  unfold tx_man2
  cases k1 : tx_ck (tk_T K) 1 t with
  | some er =>
    have he := ck_15 k1
    refine q_CtV mvX10_tellMan (Nat.le_of_ble_eq_true rfl) ?_
    refine xe_aload_n dX10_tellMan_0 rfl ?_
    refine xe_callVI (d' := 3) (y' := mX10_named) dX10_tellMan_1 mlX10_281 mvX10_named rfl (st124 hs) (by decide) rfl (by decide) (by decide) (Nat.le_of_ble_eq_true rfl) (c_X10_named_f l g _ (by exact hs) (t := t) (by refine ⟨rt_Tc hT ?_ ?_ ?_ ?_, (by omega), ?_, ?_⟩ <;> first | exact rfl | exact h11 | exact h13) (N := N) (by exact vN) k1) rfl ?_
    refine xe_istore_n (i := 1) dX10_tellMan_4 rfl (by decide) rfl ?_
    refine xe_aload_n dX10_tellMan_5 rfl ?_
    refine xe_getP dX10_tellMan_6 flX10_52 (st124 hs) (by decide) rfl (sp124_25 hs) ?_
    refine xe_bipush dX10_tellMan_9 kb_8 ?_
    refine xe_aload_n dX10_tellMan_11 rfl ?_
    refine xe_getIv dX10_tellMan_12 flX10_231 (st124 hs) (by decide) rfl (v := nI sd) (h19) ?_
    refine xn_imul dX10_tellMan_15 ?_
    refine xe_aload_n dX10_tellMan_16 rfl ?_
    refine xe_getP dX10_tellMan_17 flX10_49 (st124 hs) (by decide) rfl (sp124_24 hs) ?_
    refine xe_aload_n dX10_tellMan_20 rfl ?_
    refine xe_getIv dX10_tellMan_21 flX10_231 (st124 hs) (by decide) rfl (v := nI sd) (h19) ?_
    refine xn_ialdv dX10_tellMan_24 (st135 hs) (by omega) (by decide) (v := nI ((ps_m s).length)) (v1) ?_
    refine xn_iadd dX10_tellMan_25 ?_
    refine xe_aload_n dX10_tellMan_26 rfl ?_
    refine xe_iconst dX10_tellMan_27 kc_0 ?_
    refine xe_sipush dX10_tellMan_28 ks_999 ?_
    refine xe_callVI (d' := 2) (y' := mX10_bounded) dX10_tellMan_31 mlX10_271 mvX10_bounded rfl (st124 hs) (by decide) rfl (by decide) (by decide) (Nat.le_of_ble_eq_true rfl) (c_X10_bounded_b l g _ (by exact hs) (f := er.1) (by exact rfl) (by omega) (by omega) _ _) rfl ?_
    refine xn_iast dX10_tellMan_34 (st136 hs) (by omega) (by decide) ?_
    refine xe_aload_n dX10_tellMan_35 rfl ?_
    refine xe_iconst dX10_tellMan_36 kc_4 ?_
    refine xe_callVV (d' := 2) (y' := mX10_must) dX10_tellMan_37 mlX10_275 mvX10_must rfl (st124 hs) (by decide) rfl (by decide) (by decide) (Nat.le_of_ble_eq_true rfl) (c_X10_must_b l g _ (by exact hs) (f := er.1) (by exact rfl) (by omega) (by omega) _) rfl ?_
    refine xe_aload_n dX10_tellMan_40 rfl ?_
    refine xe_getIv dX10_tellMan_41 flX10_198 (st124 hs) (by decide) rfl (v := nI er.1) (rfl) ?_
    refine xn_if_le (tgt := 48) dX10_tellMan_44 rfl (by omega) (fun c1 => ?_) (fun c1 => ?_)
    · omega
    · refine xe_return dX10_tellMan_47 rfl ?_
      exact ⟨rfl, (by repeat (first | exact rt_r | refine rt_J ?_ | refine rt_w ?_ (by first | exact os_135 (by decide) | exact os_133 (by decide) | exact os_136 (by decide) (by omega) | exact os_140 (by omega)) | refine rt_f ?_ (fun k hk => by obtain ⟨y1, y2, y3, y4, y5, y6, y7, y8, y9, y10⟩ := os_124 hk; repeat (first | exact rfl | refine (pk_un (by assumption)).trans ?_)))), rfl, rfl, he.1, he.2⟩
  | none =>
    have go1 := rt_gn hT htm k1 (by decide)
    have hx := (hT.2.2 t htm).2.2.2.2.1 (tx_ck_none k1).1
    show q_Ct l g 4 mX10_tellMan _ h (q_rtA K m sd h (tx_b (tx_ck (tk_T K) 2 (t + 1)) _))
    cases k2 : tx_ck (tk_T K) 2 (t + 1) with
    | some er =>
      have he := ck_15 k2
      refine q_CtV mvX10_tellMan (Nat.le_of_ble_eq_true rfl) ?_
      refine xe_aload_n dX10_tellMan_0 rfl ?_
      refine xe_callVIq (d' := 3) (y' := mX10_named) dX10_tellMan_1 mlX10_281 mvX10_named rfl (st124 hs) (by decide) rfl (by decide) (by decide) (Nat.le_of_ble_eq_true rfl) (c_X10_named_t l g _ (by exact hs) (t := t) (by refine ⟨rt_Tc hT ?_ ?_ ?_ ?_, (by omega), ?_, ?_⟩ <;> first | exact rfl | exact h11 | exact h13) hinc (by exact vE) (N := N) (by exact vN) k1) rfl (fun h1 hq1 => ?_)
      obtain ⟨a1, b1, rfl, hl1⟩ := hq1
      refine xe_istore_n (i := 1) dX10_tellMan_4 rfl (by decide) rfl ?_
      refine xe_aload_n dX10_tellMan_5 rfl ?_
      refine xe_getP dX10_tellMan_6 flX10_52 (st124 hs) (by decide) rfl (sp124_25 hs) ?_
      refine xe_bipush dX10_tellMan_9 kb_8 ?_
      refine xe_aload_n dX10_tellMan_11 rfl ?_
      refine xe_getIv dX10_tellMan_12 flX10_231 (st124 hs) (by decide) rfl (v := nI sd) (h19) ?_
      refine xn_imul dX10_tellMan_15 ?_
      refine xe_aload_n dX10_tellMan_16 rfl ?_
      refine xe_getP dX10_tellMan_17 flX10_49 (st124 hs) (by decide) rfl (sp124_24 hs) ?_
      refine xe_aload_n dX10_tellMan_20 rfl ?_
      refine xe_getIv dX10_tellMan_21 flX10_231 (st124 hs) (by decide) rfl (v := nI sd) (h19) ?_
      refine xn_ialdv dX10_tellMan_24 (st135 hs) (by omega) (by decide) (v := nI ((ps_m s).length)) (v1) ?_
      refine xn_iadd dX10_tellMan_25 ?_
      refine xe_aload_n dX10_tellMan_26 rfl ?_
      refine xe_iconst dX10_tellMan_27 kc_0 ?_
      refine xe_sipush dX10_tellMan_28 ks_999 ?_
      refine xe_callVIn (d' := 2) (y' := mX10_bounded) dX10_tellMan_31 mlX10_271 mvX10_bounded rfl (st124 hs) (by decide) rfl (by decide) (by decide) (Nat.le_of_ble_eq_true rfl) (c_X10_bounded_f l g _ (by exact hs) (t := (t + 1)) (by refine ⟨rt_Tc hT ?_ ?_ ?_ ?_, (by omega), ?_, ?_⟩ <;> first | exact rfl | exact h11 | exact h13) hinc (by exact hl1) (lo := 0) (hi_ := 999) (by decide) (by decide) k2) rfl (fun v2 h2 hq2 => ?_)
      obtain ⟨a2, b2, rfl⟩ := hq2
      refine xn_iast dX10_tellMan_34 (st136 hs) (by omega) (by decide) ?_
      refine xe_aload_n dX10_tellMan_35 rfl ?_
      refine xe_iconst dX10_tellMan_36 kc_4 ?_
      refine xe_callVV (d' := 2) (y' := mX10_must) dX10_tellMan_37 mlX10_275 mvX10_must rfl (st124 hs) (by decide) rfl (by decide) (by decide) (Nat.le_of_ble_eq_true rfl) (c_X10_must_b l g _ (by exact hs) (f := er.1) (by exact rfl) (by omega) (by omega) _) rfl ?_
      refine xe_aload_n dX10_tellMan_40 rfl ?_
      refine xe_getIv dX10_tellMan_41 flX10_198 (st124 hs) (by decide) rfl (v := nI er.1) (rfl) ?_
      refine xn_if_le (tgt := 48) dX10_tellMan_44 rfl (by omega) (fun c3 => ?_) (fun c3 => ?_)
      · omega
      · refine xe_return dX10_tellMan_47 rfl ?_
        exact ⟨rfl, (by repeat (first | exact rt_r | refine rt_J ?_ | refine rt_w ?_ (by first | exact os_135 (by decide) | exact os_133 (by decide) | exact os_136 (by decide) (by omega) | exact os_140 (by omega)) | refine rt_f ?_ (fun k hk => by obtain ⟨y1, y2, y3, y4, y5, y6, y7, y8, y9, y10⟩ := os_124 hk; repeat (first | exact rfl | refine (pk_un (by assumption)).trans ?_)))), rfl, rfl, he.1, he.2⟩
    | none =>
      have go2 := rt_gn hT go1 k2 (by decide)
      have hv := (hT.2.2 (t + 1) go1).2.2.2.2.2 (tx_ck_none k2).1
      show q_Ct l g 4 mX10_tellMan _ h (q_rtA K m sd h (tx_b (tx_ck (tk_T K) 4 (t + 2)) _))
      cases k3 : tx_ck (tk_T K) 4 (t + 2) with
      | some er =>
        have he := ck_15 k3
        refine q_CtV mvX10_tellMan (Nat.le_of_ble_eq_true rfl) ?_
        refine xe_aload_n dX10_tellMan_0 rfl ?_
        refine xe_callVIq (d' := 3) (y' := mX10_named) dX10_tellMan_1 mlX10_281 mvX10_named rfl (st124 hs) (by decide) rfl (by decide) (by decide) (Nat.le_of_ble_eq_true rfl) (c_X10_named_t l g _ (by exact hs) (t := t) (by refine ⟨rt_Tc hT ?_ ?_ ?_ ?_, (by omega), ?_, ?_⟩ <;> first | exact rfl | exact h11 | exact h13) hinc (by exact vE) (N := N) (by exact vN) k1) rfl (fun h1 hq1 => ?_)
        obtain ⟨a1, b1, rfl, hl1⟩ := hq1
        refine xe_istore_n (i := 1) dX10_tellMan_4 rfl (by decide) rfl ?_
        refine xe_aload_n dX10_tellMan_5 rfl ?_
        refine xe_getP dX10_tellMan_6 flX10_52 (st124 hs) (by decide) rfl (sp124_25 hs) ?_
        refine xe_bipush dX10_tellMan_9 kb_8 ?_
        refine xe_aload_n dX10_tellMan_11 rfl ?_
        refine xe_getIv dX10_tellMan_12 flX10_231 (st124 hs) (by decide) rfl (v := nI sd) (h19) ?_
        refine xn_imul dX10_tellMan_15 ?_
        refine xe_aload_n dX10_tellMan_16 rfl ?_
        refine xe_getP dX10_tellMan_17 flX10_49 (st124 hs) (by decide) rfl (sp124_24 hs) ?_
        refine xe_aload_n dX10_tellMan_20 rfl ?_
        refine xe_getIv dX10_tellMan_21 flX10_231 (st124 hs) (by decide) rfl (v := nI sd) (h19) ?_
        refine xn_ialdv dX10_tellMan_24 (st135 hs) (by omega) (by decide) (v := nI ((ps_m s).length)) (v1) ?_
        refine xn_iadd dX10_tellMan_25 ?_
        refine xe_aload_n dX10_tellMan_26 rfl ?_
        refine xe_iconst dX10_tellMan_27 kc_0 ?_
        refine xe_sipush dX10_tellMan_28 ks_999 ?_
        refine xe_callVIq (d' := 2) (y' := mX10_bounded) dX10_tellMan_31 mlX10_271 mvX10_bounded rfl (st124 hs) (by decide) rfl (by decide) (by decide) (Nat.le_of_ble_eq_true rfl) (c_X10_bounded_t l g _ (by exact hs) (t := (t + 1)) (by refine ⟨rt_Tc hT ?_ ?_ ?_ ?_, (by omega), ?_, ?_⟩ <;> first | exact rfl | exact h11 | exact h13) hinc (by exact hl1) (lo := 0) (hi_ := 999) (by decide) (by decide) k2) rfl (fun h2 hq2 => ?_)
        obtain ⟨a2, b2, rfl, hl2⟩ := hq2
        refine xn_iast dX10_tellMan_34 (st136 hs) (by omega) (by decide) ?_
        refine xe_aload_n dX10_tellMan_35 rfl ?_
        refine xe_iconst dX10_tellMan_36 kc_4 ?_
        refine xe_callVV (d' := 2) (y' := mX10_must) dX10_tellMan_37 mlX10_275 mvX10_must rfl (st124 hs) (by decide) rfl (by decide) (by decide) (Nat.le_of_ble_eq_true rfl) (c_X10_must_f l g _ (by exact hs) (t := (t + 1 + 1)) (by refine ⟨rt_Tc hT ?_ ?_ ?_ ?_, (by omega), ?_, ?_⟩ <;> first | exact rfl | exact h11 | exact h13) (k := 4) (by decide) (f := er.1) (u := er.2) k3) rfl ?_
        refine xe_aload_n dX10_tellMan_40 rfl ?_
        refine xe_getIv dX10_tellMan_41 flX10_198 (st124 hs) (by decide) rfl (v := nI er.1) (rfl) ?_
        refine xn_if_le (tgt := 48) dX10_tellMan_44 rfl (by omega) (fun c3 => ?_) (fun c3 => ?_)
        · omega
        · refine xe_return dX10_tellMan_47 rfl ?_
          exact ⟨rfl, (by repeat (first | exact rt_r | refine rt_J ?_ | refine rt_w ?_ (by first | exact os_135 (by decide) | exact os_133 (by decide) | exact os_136 (by decide) (by omega) | exact os_140 (by omega)) | refine rt_f ?_ (fun k hk => by obtain ⟨y1, y2, y3, y4, y5, y6, y7, y8, y9, y10⟩ := os_124 hk; repeat (first | exact rfl | refine (pk_un (by assumption)).trans ?_)))), rfl, rfl, he.1, he.2⟩
      | none =>
        have go3 := rt_gn hT go2 k3 (by decide)
        refine q_CtV mvX10_tellMan (Nat.le_of_ble_eq_true rfl) ?_
        refine xe_aload_n dX10_tellMan_0 rfl ?_
        refine xe_callVIq (d' := 3) (y' := mX10_named) dX10_tellMan_1 mlX10_281 mvX10_named rfl (st124 hs) (by decide) rfl (by decide) (by decide) (Nat.le_of_ble_eq_true rfl) (c_X10_named_t l g _ (by exact hs) (t := t) (by refine ⟨rt_Tc hT ?_ ?_ ?_ ?_, (by omega), ?_, ?_⟩ <;> first | exact rfl | exact h11 | exact h13) hinc (by exact vE) (N := N) (by exact vN) k1) rfl (fun h1 hq1 => ?_)
        obtain ⟨a1, b1, rfl, hl1⟩ := hq1
        refine xe_istore_n (i := 1) dX10_tellMan_4 rfl (by decide) rfl ?_
        refine xe_aload_n dX10_tellMan_5 rfl ?_
        refine xe_getP dX10_tellMan_6 flX10_52 (st124 hs) (by decide) rfl (sp124_25 hs) ?_
        refine xe_bipush dX10_tellMan_9 kb_8 ?_
        refine xe_aload_n dX10_tellMan_11 rfl ?_
        refine xe_getIv dX10_tellMan_12 flX10_231 (st124 hs) (by decide) rfl (v := nI sd) (h19) ?_
        refine xn_imul dX10_tellMan_15 ?_
        refine xe_aload_n dX10_tellMan_16 rfl ?_
        refine xe_getP dX10_tellMan_17 flX10_49 (st124 hs) (by decide) rfl (sp124_24 hs) ?_
        refine xe_aload_n dX10_tellMan_20 rfl ?_
        refine xe_getIv dX10_tellMan_21 flX10_231 (st124 hs) (by decide) rfl (v := nI sd) (h19) ?_
        refine xn_ialdv dX10_tellMan_24 (st135 hs) (by omega) (by decide) (v := nI ((ps_m s).length)) (v1) ?_
        refine xn_iadd dX10_tellMan_25 ?_
        refine xe_aload_n dX10_tellMan_26 rfl ?_
        refine xe_iconst dX10_tellMan_27 kc_0 ?_
        refine xe_sipush dX10_tellMan_28 ks_999 ?_
        refine xe_callVIq (d' := 2) (y' := mX10_bounded) dX10_tellMan_31 mlX10_271 mvX10_bounded rfl (st124 hs) (by decide) rfl (by decide) (by decide) (Nat.le_of_ble_eq_true rfl) (c_X10_bounded_t l g _ (by exact hs) (t := (t + 1)) (by refine ⟨rt_Tc hT ?_ ?_ ?_ ?_, (by omega), ?_, ?_⟩ <;> first | exact rfl | exact h11 | exact h13) hinc (by exact hl1) (lo := 0) (hi_ := 999) (by decide) (by decide) k2) rfl (fun h2 hq2 => ?_)
        obtain ⟨a2, b2, rfl, hl2⟩ := hq2
        refine xn_iast dX10_tellMan_34 (st136 hs) (by omega) (by decide) ?_
        refine xe_aload_n dX10_tellMan_35 rfl ?_
        refine xe_iconst dX10_tellMan_36 kc_4 ?_
        refine xe_callVV (d' := 2) (y' := mX10_must) dX10_tellMan_37 mlX10_275 mvX10_must rfl (st124 hs) (by decide) rfl (by decide) (by decide) (Nat.le_of_ble_eq_true rfl) (c_X10_must_t l g _ (by exact hs) (t := (t + 1 + 1)) (by refine ⟨rt_Tc hT ?_ ?_ ?_ ?_, (by omega), ?_, ?_⟩ <;> first | exact rfl | exact h11 | exact h13) (k := 4) k3) rfl ?_
        refine xe_aload_n dX10_tellMan_40 rfl ?_
        refine xe_getIv dX10_tellMan_41 flX10_198 (st124 hs) (by decide) rfl (v := nI 0) (h13) ?_
        refine xn_if_le (tgt := 48) dX10_tellMan_44 rfl (by omega) (fun c3 => ?_) (fun c3 => ?_)
        · refine xe_aload_n dX10_tellMan_48 rfl ?_
          refine xe_iload_n dX10_tellMan_49 rfl ?_
          refine xe_iconst dX10_tellMan_50 kc_0 ?_
          refine xe_aload_n dX10_tellMan_51 rfl ?_
          refine xe_getP dX10_tellMan_52 flX10_49 (st124 hs) (by decide) rfl (sp124_24 hs) ?_
          refine xe_aload_n dX10_tellMan_55 rfl ?_
          refine xe_getIv dX10_tellMan_56 flX10_231 (st124 hs) (by decide) rfl (v := nI sd) (h19) ?_
          refine xn_ialdv dX10_tellMan_59 (st135 hs) (by omega) (by decide) (v := nI ((ps_m s).length)) (v1) ?_
          refine xe_callVV (d' := 0) (y' := mX10_notes) dX10_tellMan_60 mlX10_285 mvX10_notes rfl (st124 hs) (by decide) rfl (by decide) (by decide) (Nat.le_of_ble_eq_true rfl) (c_X10_notes l g _ (by exact hs) (n := N.length) (u := t) (by exact vN.1) (by omega) (by omega) _ _) rfl ?_
          refine xe_aload_n dX10_tellMan_63 rfl ?_
          refine xe_getP dX10_tellMan_64 flX10_49 (st124 hs) (by decide) rfl (sp124_24 hs) ?_
          refine xe_aload_n dX10_tellMan_67 rfl ?_
          refine xe_getIv dX10_tellMan_68 flX10_231 (st124 hs) (by decide) rfl (v := nI sd) (h19) ?_
          refine xe_dup2 dX10_tellMan_71 rfl rfl ?_
          refine xn_ialdv dX10_tellMan_72 (st135 hs) (by omega) (by decide) (v := nI ((ps_m s).length)) (v1) ?_
          refine xe_iconst dX10_tellMan_73 kc_1 ?_
          refine xn_iadd dX10_tellMan_74 ?_
          refine xn_iast dX10_tellMan_75 (st135 hs) (by omega) (by decide) ?_
          refine xe_return dX10_tellMan_76 rfl ?_
          have ehas : nm_has (tk_N K t) N = ((tx_find (tk_N K t) (ps_m s) 0).isSome || (tx_find (tk_N K t) (ps_d s) 0).isSome) := nm_hasE vN2
          rw [show decide (tk_V K (t + 1) < 0 ∨ 999 < tk_V K (t + 1)) = decide (999 < tk_V K (t + 1)) from decide_eq_decide.mpr ⟨fun q => q.elim (fun z => absurd z (Nat.not_lt_zero _)) id, Or.inr⟩, ehas] at hl2
          have happ := nm_app0 (x := tk_N K t) vN2
          rw [Nat.zero_add] at happ
          refine ⟨rfl, (by repeat (first | exact rt_r | refine rt_J ?_ | refine rt_w ?_ (by first | exact os_135 (by decide) | exact os_133 (by decide) | exact os_136 (by decide) (by omega) | exact os_140 (by omega)) | refine rt_f ?_ (fun k hk => by obtain ⟨y1, y2, y3, y4, y5, y6, y7, y8, y9, y10⟩ := os_124 hk; repeat (first | exact rfl | refine (pk_un (by assumption)).trans ?_)))), cc, bb, rs_k a rfl rfl rfl rfl rfl rfl rfl rfl rfl rfl rfl (by show t ≤ t + 3; omega) (by show t + 3 ≤ m; omega), (by show 4 * (bb - 130 * sd) ≤ t + 3; omega), rv_man hV (by omega) h8 ⟨_, rn_app (x := tk_N K t) (s := 0) (a := (ps_m s).length) vN (by omega) hx.2 (by decide) rfl ?_ rfl rfl, happ⟩ (by intro r a1 a2 a3 a4 a5; repeat (first | exact rfl | refine (q_Ine (by assumption)).trans ?_)) pk_us rfl (lfr_up hl2 (by show t + 1 + 1 ≤ t + 3; omega))⟩
          show vp_updL (q_J h 132) N.length (q_J h 130 t) = _
          rw [hx.1]
        · omega
theorem r_tellDeed (l : Launch) (g : q_GP) (h : q_H) {K : q_TK} {m sd t cc bb : Nat} {s : q_PS} (a : q_rs h K m sd t cc bb) (hbt : 4 * (bb - 130 * sd) ≤ t) (hV : rv_V h K sd t cc bb s) (hinc : q_inc K m) (h8 : (ps_d s).length < 8) : q_Ct l g 4 mX10_tellDeed [.ref 124] h (q_rtA K m sd h (tx_deed2 K s t)) := by
  obtain ⟨hs, hR, h12, h19, hsd, h33, h39, hc1, hc2, hb1, hb2⟩ := id a
  obtain ⟨hT, htm, h11, h13⟩ := id hR
  have hm4 := hT.1
  obtain ⟨v1, v2, v3, v4, v4b, vf, vg, vc, vm8, vd8, vF, vG, vC, vL, ⟨N, vN, vN2⟩, vE⟩ := id hV
  have hN16 := vN.2.1
  have hNl := nm_len vN2
  unfold tx_deed2
  cases k1 : tx_ck (tk_T K) 1 t with
  | some er =>
    have he := ck_15 k1
    refine q_CtV mvX10_tellDeed (Nat.le_of_ble_eq_true rfl) ?_
    refine xe_aload_n dX10_tellDeed_0 rfl ?_
    refine xe_callVI (d' := 3) (y' := mX10_named) dX10_tellDeed_1 mlX10_281 mvX10_named rfl (st124 hs) (by decide) rfl (by decide) (by decide) (Nat.le_of_ble_eq_true rfl) (c_X10_named_f l g _ (by exact hs) (t := t) (by refine ⟨rt_Tc hT ?_ ?_ ?_ ?_, (by omega), ?_, ?_⟩ <;> first | exact rfl | exact h11 | exact h13) (N := N) (by exact vN) k1) rfl ?_
    refine xe_istore_n (i := 1) dX10_tellDeed_4 rfl (by decide) rfl ?_
    refine xe_aload_n dX10_tellDeed_5 rfl ?_
    refine xe_getP dX10_tellDeed_6 flX10_58 (st124 hs) (by decide) rfl (sp124_27 hs) ?_
    refine xe_bipush dX10_tellDeed_9 kb_8 ?_
    refine xe_aload_n dX10_tellDeed_11 rfl ?_
    refine xe_getIv dX10_tellDeed_12 flX10_231 (st124 hs) (by decide) rfl (v := nI sd) (h19) ?_
    refine xn_imul dX10_tellDeed_15 ?_
    refine xe_aload_n dX10_tellDeed_16 rfl ?_
    refine xe_getP dX10_tellDeed_17 flX10_55 (st124 hs) (by decide) rfl (sp124_26 hs) ?_
    refine xe_aload_n dX10_tellDeed_20 rfl ?_
    refine xe_getIv dX10_tellDeed_21 flX10_231 (st124 hs) (by decide) rfl (v := nI sd) (h19) ?_
    refine xn_ialdv dX10_tellDeed_24 (st137 hs) (by omega) (by decide) (v := nI ((ps_d s).length)) (v2) ?_
    refine xn_iadd dX10_tellDeed_25 ?_
    refine xe_aload_n dX10_tellDeed_26 rfl ?_
    refine xe_iconst dX10_tellDeed_27 kc_0 ?_
    refine xe_bipush dX10_tellDeed_28 kb_99 ?_
    refine xe_callVI (d' := 2) (y' := mX10_bounded) dX10_tellDeed_30 mlX10_271 mvX10_bounded rfl (st124 hs) (by decide) rfl (by decide) (by decide) (Nat.le_of_ble_eq_true rfl) (c_X10_bounded_b l g _ (by exact hs) (f := er.1) (by exact rfl) (by omega) (by omega) _ _) rfl ?_
    refine xn_iast dX10_tellDeed_33 (st138 hs) (by omega) (by decide) ?_
    refine xe_aload_n dX10_tellDeed_34 rfl ?_
    refine xe_iconst dX10_tellDeed_35 kc_4 ?_
    refine xe_callVV (d' := 2) (y' := mX10_must) dX10_tellDeed_36 mlX10_275 mvX10_must rfl (st124 hs) (by decide) rfl (by decide) (by decide) (Nat.le_of_ble_eq_true rfl) (c_X10_must_b l g _ (by exact hs) (f := er.1) (by exact rfl) (by omega) (by omega) _) rfl ?_
    refine xe_aload_n dX10_tellDeed_39 rfl ?_
    refine xe_getIv dX10_tellDeed_40 flX10_198 (st124 hs) (by decide) rfl (v := nI er.1) (rfl) ?_
    refine xn_if_le (tgt := 47) dX10_tellDeed_43 rfl (by omega) (fun c1 => ?_) (fun c1 => ?_)
    · omega
    · refine xe_return dX10_tellDeed_46 rfl ?_
      exact ⟨rfl, (by repeat (first | exact rt_r | refine rt_J ?_ | refine rt_w ?_ (by first | exact os_135 (by decide) | exact os_133 (by decide) | exact os_136 (by decide) (by omega) | exact os_140 (by omega)) | refine rt_f ?_ (fun k hk => by obtain ⟨y1, y2, y3, y4, y5, y6, y7, y8, y9, y10⟩ := os_124 hk; repeat (first | exact rfl | refine (pk_un (by assumption)).trans ?_)))), rfl, rfl, he.1, he.2⟩
  | none =>
    have go1 := rt_gn hT htm k1 (by decide)
    have hx := (hT.2.2 t htm).2.2.2.2.1 (tx_ck_none k1).1
    show q_Ct l g 4 mX10_tellDeed _ h (q_rtA K m sd h (tx_b (tx_ck (tk_T K) 2 (t + 1)) _))
    cases k2 : tx_ck (tk_T K) 2 (t + 1) with
    | some er =>
      have he := ck_15 k2
      refine q_CtV mvX10_tellDeed (Nat.le_of_ble_eq_true rfl) ?_
      refine xe_aload_n dX10_tellDeed_0 rfl ?_
      refine xe_callVIq (d' := 3) (y' := mX10_named) dX10_tellDeed_1 mlX10_281 mvX10_named rfl (st124 hs) (by decide) rfl (by decide) (by decide) (Nat.le_of_ble_eq_true rfl) (c_X10_named_t l g _ (by exact hs) (t := t) (by refine ⟨rt_Tc hT ?_ ?_ ?_ ?_, (by omega), ?_, ?_⟩ <;> first | exact rfl | exact h11 | exact h13) hinc (by exact vE) (N := N) (by exact vN) k1) rfl (fun h1 hq1 => ?_)
      obtain ⟨a1, b1, rfl, hl1⟩ := hq1
      refine xe_istore_n (i := 1) dX10_tellDeed_4 rfl (by decide) rfl ?_
      refine xe_aload_n dX10_tellDeed_5 rfl ?_
      refine xe_getP dX10_tellDeed_6 flX10_58 (st124 hs) (by decide) rfl (sp124_27 hs) ?_
      refine xe_bipush dX10_tellDeed_9 kb_8 ?_
      refine xe_aload_n dX10_tellDeed_11 rfl ?_
      refine xe_getIv dX10_tellDeed_12 flX10_231 (st124 hs) (by decide) rfl (v := nI sd) (h19) ?_
      refine xn_imul dX10_tellDeed_15 ?_
      refine xe_aload_n dX10_tellDeed_16 rfl ?_
      refine xe_getP dX10_tellDeed_17 flX10_55 (st124 hs) (by decide) rfl (sp124_26 hs) ?_
      refine xe_aload_n dX10_tellDeed_20 rfl ?_
      refine xe_getIv dX10_tellDeed_21 flX10_231 (st124 hs) (by decide) rfl (v := nI sd) (h19) ?_
      refine xn_ialdv dX10_tellDeed_24 (st137 hs) (by omega) (by decide) (v := nI ((ps_d s).length)) (v2) ?_
      refine xn_iadd dX10_tellDeed_25 ?_
      refine xe_aload_n dX10_tellDeed_26 rfl ?_
      refine xe_iconst dX10_tellDeed_27 kc_0 ?_
      refine xe_bipush dX10_tellDeed_28 kb_99 ?_
      refine xe_callVIn (d' := 2) (y' := mX10_bounded) dX10_tellDeed_30 mlX10_271 mvX10_bounded rfl (st124 hs) (by decide) rfl (by decide) (by decide) (Nat.le_of_ble_eq_true rfl) (c_X10_bounded_f l g _ (by exact hs) (t := (t + 1)) (by refine ⟨rt_Tc hT ?_ ?_ ?_ ?_, (by omega), ?_, ?_⟩ <;> first | exact rfl | exact h11 | exact h13) hinc (by exact hl1) (lo := 0) (hi_ := 99) (by decide) (by decide) k2) rfl (fun v2 h2 hq2 => ?_)
      obtain ⟨a2, b2, rfl⟩ := hq2
      refine xn_iast dX10_tellDeed_33 (st138 hs) (by omega) (by decide) ?_
      refine xe_aload_n dX10_tellDeed_34 rfl ?_
      refine xe_iconst dX10_tellDeed_35 kc_4 ?_
      refine xe_callVV (d' := 2) (y' := mX10_must) dX10_tellDeed_36 mlX10_275 mvX10_must rfl (st124 hs) (by decide) rfl (by decide) (by decide) (Nat.le_of_ble_eq_true rfl) (c_X10_must_b l g _ (by exact hs) (f := er.1) (by exact rfl) (by omega) (by omega) _) rfl ?_
      refine xe_aload_n dX10_tellDeed_39 rfl ?_
      refine xe_getIv dX10_tellDeed_40 flX10_198 (st124 hs) (by decide) rfl (v := nI er.1) (rfl) ?_
      refine xn_if_le (tgt := 47) dX10_tellDeed_43 rfl (by omega) (fun c3 => ?_) (fun c3 => ?_)
      · omega
      · refine xe_return dX10_tellDeed_46 rfl ?_
        exact ⟨rfl, (by repeat (first | exact rt_r | refine rt_J ?_ | refine rt_w ?_ (by first | exact os_135 (by decide) | exact os_133 (by decide) | exact os_136 (by decide) (by omega) | exact os_140 (by omega)) | refine rt_f ?_ (fun k hk => by obtain ⟨y1, y2, y3, y4, y5, y6, y7, y8, y9, y10⟩ := os_124 hk; repeat (first | exact rfl | refine (pk_un (by assumption)).trans ?_)))), rfl, rfl, he.1, he.2⟩
    | none =>
      have go2 := rt_gn hT go1 k2 (by decide)
      have hv := (hT.2.2 (t + 1) go1).2.2.2.2.2 (tx_ck_none k2).1
      show q_Ct l g 4 mX10_tellDeed _ h (q_rtA K m sd h (tx_b (tx_ck (tk_T K) 4 (t + 2)) _))
      cases k3 : tx_ck (tk_T K) 4 (t + 2) with
      | some er =>
        have he := ck_15 k3
        refine q_CtV mvX10_tellDeed (Nat.le_of_ble_eq_true rfl) ?_
        refine xe_aload_n dX10_tellDeed_0 rfl ?_
        refine xe_callVIq (d' := 3) (y' := mX10_named) dX10_tellDeed_1 mlX10_281 mvX10_named rfl (st124 hs) (by decide) rfl (by decide) (by decide) (Nat.le_of_ble_eq_true rfl) (c_X10_named_t l g _ (by exact hs) (t := t) (by refine ⟨rt_Tc hT ?_ ?_ ?_ ?_, (by omega), ?_, ?_⟩ <;> first | exact rfl | exact h11 | exact h13) hinc (by exact vE) (N := N) (by exact vN) k1) rfl (fun h1 hq1 => ?_)
        obtain ⟨a1, b1, rfl, hl1⟩ := hq1
        refine xe_istore_n (i := 1) dX10_tellDeed_4 rfl (by decide) rfl ?_
        refine xe_aload_n dX10_tellDeed_5 rfl ?_
        refine xe_getP dX10_tellDeed_6 flX10_58 (st124 hs) (by decide) rfl (sp124_27 hs) ?_
        refine xe_bipush dX10_tellDeed_9 kb_8 ?_
        refine xe_aload_n dX10_tellDeed_11 rfl ?_
        refine xe_getIv dX10_tellDeed_12 flX10_231 (st124 hs) (by decide) rfl (v := nI sd) (h19) ?_
        refine xn_imul dX10_tellDeed_15 ?_
        refine xe_aload_n dX10_tellDeed_16 rfl ?_
        refine xe_getP dX10_tellDeed_17 flX10_55 (st124 hs) (by decide) rfl (sp124_26 hs) ?_
        refine xe_aload_n dX10_tellDeed_20 rfl ?_
        refine xe_getIv dX10_tellDeed_21 flX10_231 (st124 hs) (by decide) rfl (v := nI sd) (h19) ?_
        refine xn_ialdv dX10_tellDeed_24 (st137 hs) (by omega) (by decide) (v := nI ((ps_d s).length)) (v2) ?_
        refine xn_iadd dX10_tellDeed_25 ?_
        refine xe_aload_n dX10_tellDeed_26 rfl ?_
        refine xe_iconst dX10_tellDeed_27 kc_0 ?_
        refine xe_bipush dX10_tellDeed_28 kb_99 ?_
        refine xe_callVIq (d' := 2) (y' := mX10_bounded) dX10_tellDeed_30 mlX10_271 mvX10_bounded rfl (st124 hs) (by decide) rfl (by decide) (by decide) (Nat.le_of_ble_eq_true rfl) (c_X10_bounded_t l g _ (by exact hs) (t := (t + 1)) (by refine ⟨rt_Tc hT ?_ ?_ ?_ ?_, (by omega), ?_, ?_⟩ <;> first | exact rfl | exact h11 | exact h13) hinc (by exact hl1) (lo := 0) (hi_ := 99) (by decide) (by decide) k2) rfl (fun h2 hq2 => ?_)
        obtain ⟨a2, b2, rfl, hl2⟩ := hq2
        refine xn_iast dX10_tellDeed_33 (st138 hs) (by omega) (by decide) ?_
        refine xe_aload_n dX10_tellDeed_34 rfl ?_
        refine xe_iconst dX10_tellDeed_35 kc_4 ?_
        refine xe_callVV (d' := 2) (y' := mX10_must) dX10_tellDeed_36 mlX10_275 mvX10_must rfl (st124 hs) (by decide) rfl (by decide) (by decide) (Nat.le_of_ble_eq_true rfl) (c_X10_must_f l g _ (by exact hs) (t := (t + 1 + 1)) (by refine ⟨rt_Tc hT ?_ ?_ ?_ ?_, (by omega), ?_, ?_⟩ <;> first | exact rfl | exact h11 | exact h13) (k := 4) (by decide) (f := er.1) (u := er.2) k3) rfl ?_
        refine xe_aload_n dX10_tellDeed_39 rfl ?_
        refine xe_getIv dX10_tellDeed_40 flX10_198 (st124 hs) (by decide) rfl (v := nI er.1) (rfl) ?_
        refine xn_if_le (tgt := 47) dX10_tellDeed_43 rfl (by omega) (fun c3 => ?_) (fun c3 => ?_)
        · omega
        · refine xe_return dX10_tellDeed_46 rfl ?_
          exact ⟨rfl, (by repeat (first | exact rt_r | refine rt_J ?_ | refine rt_w ?_ (by first | exact os_135 (by decide) | exact os_133 (by decide) | exact os_136 (by decide) (by omega) | exact os_140 (by omega)) | refine rt_f ?_ (fun k hk => by obtain ⟨y1, y2, y3, y4, y5, y6, y7, y8, y9, y10⟩ := os_124 hk; repeat (first | exact rfl | refine (pk_un (by assumption)).trans ?_)))), rfl, rfl, he.1, he.2⟩
      | none =>
        have go3 := rt_gn hT go2 k3 (by decide)
        refine q_CtV mvX10_tellDeed (Nat.le_of_ble_eq_true rfl) ?_
        refine xe_aload_n dX10_tellDeed_0 rfl ?_
        refine xe_callVIq (d' := 3) (y' := mX10_named) dX10_tellDeed_1 mlX10_281 mvX10_named rfl (st124 hs) (by decide) rfl (by decide) (by decide) (Nat.le_of_ble_eq_true rfl) (c_X10_named_t l g _ (by exact hs) (t := t) (by refine ⟨rt_Tc hT ?_ ?_ ?_ ?_, (by omega), ?_, ?_⟩ <;> first | exact rfl | exact h11 | exact h13) hinc (by exact vE) (N := N) (by exact vN) k1) rfl (fun h1 hq1 => ?_)
        obtain ⟨a1, b1, rfl, hl1⟩ := hq1
        refine xe_istore_n (i := 1) dX10_tellDeed_4 rfl (by decide) rfl ?_
        refine xe_aload_n dX10_tellDeed_5 rfl ?_
        refine xe_getP dX10_tellDeed_6 flX10_58 (st124 hs) (by decide) rfl (sp124_27 hs) ?_
        refine xe_bipush dX10_tellDeed_9 kb_8 ?_
        refine xe_aload_n dX10_tellDeed_11 rfl ?_
        refine xe_getIv dX10_tellDeed_12 flX10_231 (st124 hs) (by decide) rfl (v := nI sd) (h19) ?_
        refine xn_imul dX10_tellDeed_15 ?_
        refine xe_aload_n dX10_tellDeed_16 rfl ?_
        refine xe_getP dX10_tellDeed_17 flX10_55 (st124 hs) (by decide) rfl (sp124_26 hs) ?_
        refine xe_aload_n dX10_tellDeed_20 rfl ?_
        refine xe_getIv dX10_tellDeed_21 flX10_231 (st124 hs) (by decide) rfl (v := nI sd) (h19) ?_
        refine xn_ialdv dX10_tellDeed_24 (st137 hs) (by omega) (by decide) (v := nI ((ps_d s).length)) (v2) ?_
        refine xn_iadd dX10_tellDeed_25 ?_
        refine xe_aload_n dX10_tellDeed_26 rfl ?_
        refine xe_iconst dX10_tellDeed_27 kc_0 ?_
        refine xe_bipush dX10_tellDeed_28 kb_99 ?_
        refine xe_callVIq (d' := 2) (y' := mX10_bounded) dX10_tellDeed_30 mlX10_271 mvX10_bounded rfl (st124 hs) (by decide) rfl (by decide) (by decide) (Nat.le_of_ble_eq_true rfl) (c_X10_bounded_t l g _ (by exact hs) (t := (t + 1)) (by refine ⟨rt_Tc hT ?_ ?_ ?_ ?_, (by omega), ?_, ?_⟩ <;> first | exact rfl | exact h11 | exact h13) hinc (by exact hl1) (lo := 0) (hi_ := 99) (by decide) (by decide) k2) rfl (fun h2 hq2 => ?_)
        obtain ⟨a2, b2, rfl, hl2⟩ := hq2
        refine xn_iast dX10_tellDeed_33 (st138 hs) (by omega) (by decide) ?_
        refine xe_aload_n dX10_tellDeed_34 rfl ?_
        refine xe_iconst dX10_tellDeed_35 kc_4 ?_
        refine xe_callVV (d' := 2) (y' := mX10_must) dX10_tellDeed_36 mlX10_275 mvX10_must rfl (st124 hs) (by decide) rfl (by decide) (by decide) (Nat.le_of_ble_eq_true rfl) (c_X10_must_t l g _ (by exact hs) (t := (t + 1 + 1)) (by refine ⟨rt_Tc hT ?_ ?_ ?_ ?_, (by omega), ?_, ?_⟩ <;> first | exact rfl | exact h11 | exact h13) (k := 4) k3) rfl ?_
        refine xe_aload_n dX10_tellDeed_39 rfl ?_
        refine xe_getIv dX10_tellDeed_40 flX10_198 (st124 hs) (by decide) rfl (v := nI 0) (h13) ?_
        refine xn_if_le (tgt := 47) dX10_tellDeed_43 rfl (by omega) (fun c3 => ?_) (fun c3 => ?_)
        · refine xe_aload_n dX10_tellDeed_47 rfl ?_
          refine xe_iload_n dX10_tellDeed_48 rfl ?_
          refine xe_iconst dX10_tellDeed_49 kc_1 ?_
          refine xe_aload_n dX10_tellDeed_50 rfl ?_
          refine xe_getP dX10_tellDeed_51 flX10_55 (st124 hs) (by decide) rfl (sp124_26 hs) ?_
          refine xe_aload_n dX10_tellDeed_54 rfl ?_
          refine xe_getIv dX10_tellDeed_55 flX10_231 (st124 hs) (by decide) rfl (v := nI sd) (h19) ?_
          refine xn_ialdv dX10_tellDeed_58 (st137 hs) (by omega) (by decide) (v := nI ((ps_d s).length)) (v2) ?_
          refine xe_callVV (d' := 0) (y' := mX10_notes) dX10_tellDeed_59 mlX10_285 mvX10_notes rfl (st124 hs) (by decide) rfl (by decide) (by decide) (Nat.le_of_ble_eq_true rfl) (c_X10_notes l g _ (by exact hs) (n := N.length) (u := t) (by exact vN.1) (by omega) (by omega) _ _) rfl ?_
          refine xe_aload_n dX10_tellDeed_62 rfl ?_
          refine xe_getP dX10_tellDeed_63 flX10_55 (st124 hs) (by decide) rfl (sp124_26 hs) ?_
          refine xe_aload_n dX10_tellDeed_66 rfl ?_
          refine xe_getIv dX10_tellDeed_67 flX10_231 (st124 hs) (by decide) rfl (v := nI sd) (h19) ?_
          refine xe_dup2 dX10_tellDeed_70 rfl rfl ?_
          refine xn_ialdv dX10_tellDeed_71 (st137 hs) (by omega) (by decide) (v := nI ((ps_d s).length)) (v2) ?_
          refine xe_iconst dX10_tellDeed_72 kc_1 ?_
          refine xn_iadd dX10_tellDeed_73 ?_
          refine xn_iast dX10_tellDeed_74 (st137 hs) (by omega) (by decide) ?_
          refine xe_return dX10_tellDeed_75 rfl ?_
          have ehas : nm_has (tk_N K t) N = ((tx_find (tk_N K t) (ps_m s) 0).isSome || (tx_find (tk_N K t) (ps_d s) 0).isSome) := nm_hasE vN2
          rw [show decide (tk_V K (t + 1) < 0 ∨ 99 < tk_V K (t + 1)) = decide (99 < tk_V K (t + 1)) from decide_eq_decide.mpr ⟨fun q => q.elim (fun z => absurd z (Nat.not_lt_zero _)) id, Or.inr⟩, ehas] at hl2
          have happ := nm_app1 (x := tk_N K t) vN2
          rw [Nat.zero_add] at happ
          refine ⟨rfl, (by repeat (first | exact rt_r | refine rt_J ?_ | refine rt_w ?_ (by first | exact os_135 (by decide) | exact os_133 (by decide) | exact os_136 (by decide) (by omega) | exact os_140 (by omega)) | refine rt_f ?_ (fun k hk => by obtain ⟨y1, y2, y3, y4, y5, y6, y7, y8, y9, y10⟩ := os_124 hk; repeat (first | exact rfl | refine (pk_un (by assumption)).trans ?_)))), cc, bb, rs_k a rfl rfl rfl rfl rfl rfl rfl rfl rfl rfl rfl (by show t ≤ t + 3; omega) (by show t + 3 ≤ m; omega), (by show 4 * (bb - 130 * sd) ≤ t + 3; omega), rv_deed hV (by omega) h8 ⟨_, rn_app (x := tk_N K t) (s := 1) (a := (ps_d s).length) vN (by omega) hx.2 (by decide) rfl ?_ rfl rfl, happ⟩ (by intro r a1 a2 a3 a4 a5; repeat (first | exact rfl | refine (q_Ine (by assumption)).trans ?_)) pk_us rfl (lfr_up hl2 (by show t + 1 + 1 ≤ t + 3; omega))⟩
          show vp_updL (q_J h 132) N.length (q_J h 130 t) = _
          rw [hx.1]
        · omega
