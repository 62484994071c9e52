/-! the relation between the class's cells and the reference's -/
def rw_ok (i mo nm : Nat) (R : Nat → Int32) (w E : Nat) (em ed ew ep ea f : Nat → Nat) : Prop :=
  R 200 = nI w ∧ w ≤ 100 * i ∧ R 201 = nI E ∧ E ≤ 300 ∧ (∀ k, 202 ≤ k → k < 210 → R k = nI 0) ∧
  (∀ j, j < E → R (210 + 5 * j) = nI (em j) ∧ R (210 + 5 * j + 1) = nI (ed j) ∧ R (210 + 5 * j + 2) = nI (ew j) ∧ R (210 + 5 * j + 3) = nI (ep j) ∧ R (210 + 5 * j + 4) = nI (ea j) ∧ em j < nm ∧ ed j < 8 ∧ ea j < 2 ∧ ep j ≤ 9999 ∧ ew j ≤ w) ∧
  q_rn R f ∧ q_ns f 72 ≤ 8000 + 800000 * i ∧ (∀ k, 8 * nm ≤ k → k < 64 → f k = 0) ∧ ∀ k, k < 64 → R (136 + k) = nI (q_cnt em ed ew (if mo = 0 then 0 else w - w % mo) E k)
/-- a state of the class: week and entries in cell b, feathers F, debts D, entries A, B -/
def sv_ok (h : q_H) (b F D A B : Nat) (R : Nat → Int32) (w E : Nat) (em ed ew ep ea : Nat → Nat) : Prop :=
  q_I h b 6 = nI w ∧ q_I h b 5 = nI E ∧ (∀ j, j < E → q_I h A j = nI (ep j * 128 + ea j * 64 + em j * 8 + ed j) ∧ q_I h B j = nI (ew j)) ∧ (∀ k, k < 72 → q_I h F k = R k) ∧ ∀ k, k < 64 → q_I h D k = R (72 + k)
def RN (i : Nat) (h : q_H) (mo nm : Nat) : Prop := ∃ (w E : Nat) (em ed ew ep ea f : Nat → Nat), rw_ok i mo nm (q_I h 154) w E em ed ew ep ea f ∧ sv_ok h 34 35 36 38 39 (q_I h 154) w E em ed ew ep ea ∧ ∀ k, k < 64 → q_I h 37 k = q_I h 154 (136 + k)
/-- what is kept of S1 as S0 comes behind it -/
def LK (G : Nat → Nat → Int32) (y : Nat) (S0 S1 : Nat → Int32) : Prop :=
  (∀ k, k < 72 → G (45 + 2 * y) k = S1 k) ∧ G (44 + 2 * y) 1 = S1 201 ∧ G (44 + 2 * y) 2 = S1 200 ∧ ∃ E0 E1 : Nat, S0 201 = nI E0 ∧ S1 201 = nI E1 ∧ E1 ≤ E0 ∧ E0 ≤ 300 ∧
   ((G (44 + 2 * y) 3 = -1 ∧ G (44 + 2 * y) 5 = -1 ∧ (∀ k, k < 64 → S1 (72 + k) = S0 (72 + k)) ∧ ∀ k, k < 5 * E1 → S1 (210 + k) = S0 (210 + k)) ∨
    (∃ a, a < 64 ∧ G (44 + 2 * y) 3 = nI a ∧ G (44 + 2 * y) 4 = S1 (72 + a) ∧ G (44 + 2 * y) 5 = -1 ∧ (∀ k, k < 64 → k ≠ a → S1 (72 + k) = S0 (72 + k)) ∧ ∀ k, k < 5 * E1 → S1 (210 + k) = S0 (210 + k)) ∨
    (∃ i, i < E1 ∧ G (44 + 2 * y) 3 = -1 ∧ G (44 + 2 * y) 5 = nI i ∧ (∀ k, k < 64 → S1 (72 + k) = S0 (72 + k)) ∧ (∀ k, k < 5 * E1 → k ≠ 5 * i + 4 → S1 (210 + k) = S0 (210 + k)) ∧ S1 (210 + (5 * i + 4)) = nI 0 ∧ S0 (210 + (5 * i + 4)) = nI 1))
def RU (i : Nat) (h : q_H) (mo nm : Nat) : Prop := ∃ u x : Nat, u ≤ 25 ∧ x < 25 ∧ q_I h 124 51 = nI u ∧ q_I h 42 2 = nI u ∧ q_I h 42 1 = nI x ∧ ∃ S : Nat → Nat → Int32, (∀ k, k < 1720 → S 0 k = q_I h 154 k) ∧ ∀ j, j < u → (∀ k, k < 1720 → q_I h 158 (1720 * (u - 1 - j) + k) = S (j + 1) k) ∧ (∃ (w E : Nat) (em ed ew ep ea f : Nat → Nat), rw_ok i mo nm (S (j + 1)) w E em ed ew ep ea f) ∧ LK (q_I h) ((x + 24 - j) % 25) (S j) (S (j + 1))
def RH1 (i : Nat) (h : q_H) (mo nm s : Nat) : Prop := (q_P h 40 s = none ∨ ∃ b, q_P h 40 s = some b ∧ sl_at h b) ∧ ((q_I h 41 s = nI 0 ∧ q_I h 168 s = nI 0) ∨ (q_I h 41 s = nI 1 ∧ q_I h 168 s = nI 1 ∧ ∃ (b w E : Nat) (em ed ew ep ea f : Nat → Nat), q_P h 40 s = some b ∧ rw_ok i mo nm (fun k => q_I h 169 (1720 * s + k)) w E em ed ew ep ea f ∧ sv_ok h b (b + 1) (b + 2) (b + 4) (b + 5) (fun k => q_I h 169 (1720 * s + k)) w E em ed ew ep ea))
def RH (i : Nat) (h : q_H) (mo nm : Nat) : Prop := (∀ s, s < 3 → RH1 i h mo nm s) ∧ ∀ s s' b b', s < 3 → s' < 3 → s ≠ s' → q_P h 40 s = some b → q_P h 40 s' = some b' → b + 5 < b' ∨ b' + 5 < b
def RD (h : q_H) (nm : Nat) : Prop := ∃ k, k ≤ 20 ∧ q_I h 94 3 = nI k ∧ q_I h 124 62 = nI k ∧ ∀ j, j < k → q_I h 95 j = q_I h 166 j ∧ q_I h 96 j = q_I h 167 j ∧ ∃ s, s < 2 ^ nm ∧ q_I h 95 j = nI s
def RT (h : q_H) : Prop := ∃ t, t ≤ 2000 ∧ q_I h 1 1 = nI t ∧ q_I h 124 2 = nI t ∧ ∀ k, k < t → q_I h 2 k = q_I h 125 k
def RP (h : q_H) : Prop := (if q_I h 7 7 = 0 then (-1) else q_I h 7 8) = q_I h 124 17
def RW (h : q_H) : Prop := ck_W h ∧ rk_W h
def RZ (h : q_H) : Prop := q_I h 111 0 = nI 0 ∧ q_I h 112 0 = nI 0 ∧ q_I h 122 0 = nI 0 ∧ q_I h 123 0 = nI 0
def RS (i : Nat) (h : q_H) : Prop := q_Stat h ∧ q_N h ≤ 170 + 6 * i ∧ q_K h ≤ 81053 + 807 * i
def RLW (h : q_H) (p nm nd nc mo n lv : Nat) (LW : q_LW) (gu : Nat → Nat) : Prop := rk_P h p nm nd nc mo n ∧ (0 < nm → rk_L h p n LW) ∧ rm_P h lv nm nd nc mo ∧ rm_L h lv LW ∧ q_P h 0 3 = some (32 - p) ∧ (∀ d, d < nd → q_I h (p + 4) d = nI (gu d) ∧ q_I h 138 (8 * lv + d) = nI (gu d) ∧ gu d ≤ 99) ∧ (∀ k, k < nc → q_I h 140 (12 * lv + k) = q_I h (p + 5) k) ∧ rv_L h lv (420 * lv + 400) (130 * lv + 105) LW
def RR (i : Nat) (h : q_H) : Prop := RS i h ∧ RT h ∧ RP h ∧ RW h ∧ RZ h ∧ ∃ (p nm nd nc mo n lv : Nat) (LW : q_LW) (gu : Nat → Nat), RLW h p nm nd nc mo n lv LW gu ∧ RN i h mo nm ∧ RU i h mo nm ∧ RH i h mo nm ∧ RD h nm
theorem rw_up {i mo nm : Nat} {R : Nat → Int32} {w E : Nat} {em ed ew ep ea f : Nat → Nat} (a : rw_ok i mo nm R w E em ed ew ep ea f) : rw_ok (i + 1) mo nm R w E em ed ew ep ea f := by
  obtain ⟨a1, a2, a3, a4, a5, a6, a7, a8, a9, a10⟩ := a
  refine ⟨a1, by omega, a3, a4, a5, fun j hj => ?_, a7, by omega, a9, a10⟩
  obtain ⟨b1, b2, b3, b4, b5, b6, b7, b8, b9, b10⟩ := a6 j hj
  exact ⟨b1, b2, b3, b4, b5, b6, b7, b8, b9, by omega⟩
/-- the same row, as far as it goes -/
theorem rw_k {i mo nm : Nat} {R R' : Nat → Int32} {w E : Nat} {em ed ew ep ea f : Nat → Nat} (e : ∀ k, k < 1720 → R' k = R k) (a : rw_ok i mo nm R w E em ed ew ep ea f) : rw_ok i mo nm R' w E em ed ew ep ea f := by
  obtain ⟨a1, a2, a3, a4, a5, a6, a7, a8, a9, a10⟩ := a
  refine ⟨(e _ (by decide)).trans a1, a2, (e _ (by decide)).trans a3, a4, fun k h1 h2 => (e _ (by omega)).trans (a5 k h1 h2), fun j hj => ?_, fun k hk => (e _ (by omega)).trans (a7 k hk), a8, a9, fun k hk => (e _ (by omega)).trans (a10 k hk)⟩
  obtain ⟨b1, b2, b3, b4, b5, b6⟩ := a6 j hj
  exact ⟨(e _ (by omega)).trans b1, (e _ (by omega)).trans b2, (e _ (by omega)).trans b3, (e _ (by omega)).trans b4, (e _ (by omega)).trans b5, b6⟩
theorem sv_k {h h2 : q_H} {b F D A B : Nat} {R R' : Nat → Int32} {w E : Nat} {em ed ew ep ea : Nat → Nat} (e1 : q_I h2 b = q_I h b) (e2 : q_I h2 F = q_I h F) (e3 : q_I h2 D = q_I h D) (e4 : q_I h2 A = q_I h A) (e5 : q_I h2 B = q_I h B) (eR : ∀ k, k < 1720 → R' k = R k) (a : sv_ok h b F D A B R w E em ed ew ep ea) : sv_ok h2 b F D A B R' w E em ed ew ep ea := by
  obtain ⟨a1, a2, a3, a4, a5⟩ := a
  refine ⟨by rw [e1]; exact a1, by rw [e1]; exact a2, fun j hj => by rw [e4, e5]; exact a3 j hj, fun k hk => by rw [e2, eR _ (by omega)]; exact a4 k hk, fun k hk => by rw [e3, eR _ (by omega)]; exact a5 k hk⟩
theorem RN_up {i : Nat} {h : q_H} {mo nm : Nat} (a : RN i h mo nm) : RN (i + 1) h mo nm := by
  obtain ⟨w, E, em, ed, ew, ep, ea, f, a1, a2, a3⟩ := a
  exact ⟨w, E, em, ed, ew, ep, ea, f, rw_up a1, a2, a3⟩
theorem RN_k {i : Nat} {h h2 : q_H} {mo nm : Nat} (e : ∀ r, 34 ≤ r → r ≤ 39 → q_I h2 r = q_I h r) (e2 : q_I h2 154 = q_I h 154) (a : RN i h mo nm) : RN i h2 mo nm := by
  obtain ⟨w, E, em, ed, ew, ep, ea, f, a1, a2, a3⟩ := a
  refine ⟨w, E, em, ed, ew, ep, ea, f, by rw [e2]; exact a1, sv_k (e 34 (by decide) (by decide)) (e 35 (by decide) (by decide)) (e 36 (by decide) (by decide)) (e 38 (by decide) (by decide)) (e 39 (by decide) (by decide)) (fun k _ => by rw [e2]) a2, fun k hk => by rw [e 37 (by decide) (by decide), e2]; exact a3 k hk⟩
theorem LK_k {G G' : Nat → Nat → Int32} {y : Nat} {S0 S1 S0' S1' : Nat → Int32} (e1 : G' (44 + 2 * y) = G (44 + 2 * y)) (e2 : G' (45 + 2 * y) = G (45 + 2 * y)) (eS0 : ∀ k, k < 1720 → S0' k = S0 k) (eS1 : ∀ k, k < 1720 → S1' k = S1 k) (a : LK G y S0 S1) : LK G' y S0' S1' := by
  obtain ⟨a1, a2, a3, E0, E1, b1, b2, b3, b4, c⟩ := a
  refine ⟨fun k hk => by rw [e2, eS1 _ (by omega)]; exact a1 k hk, by rw [e1, eS1 _ (by decide)]; exact a2, by rw [e1, eS1 _ (by decide)]; exact a3, E0, E1, (eS0 _ (by decide)).trans b1, (eS1 _ (by decide)).trans b2, b3, b4, ?_⟩
  rw [e1]
  rcases c with ⟨c1, c2, c3, c4⟩ | ⟨a, c1, c2, c3, c4, c5, c6⟩ | ⟨i, c1, c2, c3, c4, c5, c6, c7⟩
  · exact Or.inl ⟨c1, c2, fun k hk => by rw [eS1 _ (by omega), eS0 _ (by omega)]; exact c3 k hk, fun k hk => by rw [eS1 _ (by omega), eS0 _ (by omega)]; exact c4 k hk⟩
  · exact Or.inr (Or.inl ⟨a, c1, c2, by rw [eS1 _ (by omega)]; exact c3, c4, fun k hk hne => by rw [eS1 _ (by omega), eS0 _ (by omega)]; exact c5 k hk hne, fun k hk => by rw [eS1 _ (by omega), eS0 _ (by omega)]; exact c6 k hk⟩)
  · exact Or.inr (Or.inr ⟨i, c1, c2, c3, fun k hk => by rw [eS1 _ (by omega), eS0 _ (by omega)]; exact c4 k hk, fun k hk hne => by rw [eS1 _ (by omega), eS0 _ (by omega)]; exact c5 k hk hne, by rw [eS1 _ (by omega)]; exact c6, by rw [eS0 _ (by omega)]; exact c7⟩)
theorem RU_up {i : Nat} {h : q_H} {mo nm : Nat} (a : RU i h mo nm) : RU (i + 1) h mo nm := by
  obtain ⟨u, x, a1, a2, a3, a4, a5, S, a6, a7⟩ := a
  refine ⟨u, x, a1, a2, a3, a4, a5, S, a6, fun j hj => ?_⟩
  obtain ⟨b1, ⟨w, E, em, ed, ew, ep, ea, f, b2⟩, b3⟩ := a7 j hj
  exact ⟨b1, ⟨w, E, em, ed, ew, ep, ea, f, rw_up b2⟩, b3⟩
theorem RU_k {i : Nat} {h h2 : q_H} {mo nm : Nat} (e1 : q_I h2 124 51 = q_I h 124 51) (e2 : q_I h2 42 = q_I h 42) (e3 : ∀ r, 44 ≤ r → r ≤ 93 → q_I h2 r = q_I h r) (e4 : q_I h2 158 = q_I h 158) (e5 : q_I h2 154 = q_I h 154) (a : RU i h mo nm) : RU i h2 mo nm := by
  obtain ⟨u, x, a1, a2, a3, a4, a5, S, a6, a7⟩ := a
  refine ⟨u, x, a1, a2, e1.trans a3, by rw [e2]; exact a4, by rw [e2]; exact a5, S, fun k hk => by rw [e5]; exact a6 k hk, fun j hj => ?_⟩
  obtain ⟨b1, b2, b3⟩ := a7 j hj
  have hy : (x + 24 - j) % 25 < 25 := Nat.mod_lt _ (by decide)
  exact ⟨fun k hk => by rw [e4]; exact b1 k hk, b2, LK_k (e3 _ (by omega) (by omega)) (e3 _ (by omega) (by omega)) (fun _ _ => rfl) (fun _ _ => rfl) b3⟩
theorem RH_up {i : Nat} {h : q_H} {mo nm : Nat} (a : RH i h mo nm) : RH (i + 1) h mo nm := by
  refine ⟨fun s hs => ?_, a.2⟩
  obtain ⟨a1, a2⟩ := a.1 s hs
  refine ⟨a1, ?_⟩
  rcases a2 with a2 | ⟨b1, b2, b, w, E, em, ed, ew, ep, ea, f, b3, b4, b5⟩
  · exact Or.inl a2
  · exact Or.inr ⟨b1, b2, b, w, E, em, ed, ew, ep, ea, f, b3, rw_up b4, b5⟩
theorem RH_k {i : Nat} {h h2 : q_H} {mo nm : Nat} (eP : q_P h2 40 = q_P h 40) (eS : ∀ b, sl_at h b → sl_at h2 b ∧ ∀ r, b ≤ r → r ≤ b + 5 → q_I h2 r = q_I h r) (e1 : q_I h2 41 = q_I h 41) (e2 : q_I h2 168 = q_I h 168) (e3 : q_I h2 169 = q_I h 169) (a : RH i h mo nm) : RH i h2 mo nm := by
  refine ⟨fun s hs => ?_, by rw [eP]; exact a.2⟩
  obtain ⟨a1, a2⟩ := a.1 s hs
  refine ⟨?_, ?_⟩
  · rw [eP]
    rcases a1 with a1 | ⟨b, b1, b2⟩
    · exact Or.inl a1
    · exact Or.inr ⟨b, b1, (eS b b2).1⟩
  · rw [e1, e2]
    rcases a2 with a2 | ⟨b1, b2, b, w, E, em, ed, ew, ep, ea, f, b3, b4, b5⟩
    · exact Or.inl a2
    · refine Or.inr ⟨b1, b2, b, w, E, em, ed, ew, ep, ea, f, by rw [eP]; exact b3, by rw [e3]; exact b4, ?_⟩
      have hb : sl_at h b := by
        rcases a1 with a1 | ⟨b', b1', b2'⟩
        · rw [a1] at b3
          cases b3
        · rw [b1'] at b3
          cases b3
          exact b2'
      have hr := (eS b hb).2
      rw [e3]
      exact sv_k (hr _ (by omega) (by omega)) (hr _ (by omega) (by omega)) (hr _ (by omega) (by omega)) (hr _ (by omega) (by omega)) (hr _ (by omega) (by omega)) (fun _ _ => rfl) b5
theorem RD_k {h h2 : q_H} {nm : Nat} (e1 : q_I h2 94 3 = q_I h 94 3) (e2 : q_I h2 124 62 = q_I h 124 62) (e3 : q_I h2 95 = q_I h 95) (e4 : q_I h2 96 = q_I h 96) (e5 : q_I h2 166 = q_I h 166) (e6 : q_I h2 167 = q_I h 167) (a : RD h nm) : RD h2 nm := by
  obtain ⟨k, a1, a2, a3, a4⟩ := a
  exact ⟨k, a1, e1.trans a2, e2.trans a3, fun j hj => by rw [e3, e4, e5, e6]; exact a4 j hj⟩
theorem RT_k {h h2 : q_H} (e1 : q_I h2 1 1 = q_I h 1 1) (e2 : q_I h2 124 2 = q_I h 124 2) (e3 : q_I h2 2 = q_I h 2) (e4 : q_I h2 125 = q_I h 125) (a : RT h) : RT h2 := by
  obtain ⟨t, a1, a2, a3, a4⟩ := a
  exact ⟨t, a1, e1.trans a2, e2.trans a3, fun k hk => by rw [e3, e4]; exact a4 k hk⟩
theorem RP_k {h h2 : q_H} (e1 : q_I h2 7 = q_I h 7) (e2 : q_I h2 124 17 = q_I h 124 17) (a : RP h) : RP h2 := by
  unfold RP
  rw [e1, e2]
  exact a
theorem RW_k {h h2 : q_H} (e1 : q_J h2 6 = q_J h 6) (e2 : q_J h2 131 = q_J h 131) (a : RW h) : RW h2 := ⟨fun w hw => by rw [e1]; exact a.1 w hw, fun w hw => by rw [e2]; exact a.2 w hw⟩
/-- a row of the laws -/
def lwr (p r : Nat) : Prop := p ≤ r ∧ r ≤ p + 9
theorem rkL_k {h h2 : q_H} {p n : Nat} {LW : q_LW} (e : ∀ r, lwr p r → q_I h2 r = q_I h r) (a : rk_L h p n LW) : rk_L h2 p n LW := by
  have e1 : q_I h2 (p + 1) = q_I h (p + 1) := e _ ⟨by omega, by omega⟩
  have e2 : q_I h2 (p + 2) = q_I h (p + 2) := e _ ⟨by omega, by omega⟩
  have e6 : q_I h2 (p + 6) = q_I h (p + 6) := e _ ⟨by omega, by omega⟩
  have e7 : q_I h2 (p + 7) = q_I h (p + 7) := e _ ⟨by omega, by omega⟩
  have e8 : q_I h2 (p + 8) = q_I h (p + 8) := e _ ⟨by omega, by omega⟩
  have e9 : q_I h2 (p + 9) = q_I h (p + 9) := e _ ⟨by omega, by omega⟩
  unfold rk_L rk_at at a ⊢
  rw [e1, e2, e6, e7, e8, e9]
  exact a
theorem RLW_k {h h2 : q_H} {p nm nd nc mo n lv : Nat} {LW : q_LW} {gu : Nat → Nat} (eP : q_P h2 0 = q_P h 0) (e : ∀ r, 10 ≤ r → r ≤ 31 → r ≠ 20 → r ≠ 21 → q_I h2 r = q_I h r) (e1 : q_I h2 124 18 = q_I h 124 18) (e2 : ∀ r, 135 ≤ r → r ≤ 150 → q_I h2 r = q_I h r) (a : RLW h p nm nd nc mo n lv LW gu) : RLW h2 p nm nd nc mo n lv LW gu := by
  obtain ⟨a1, a2, a3, a4, a5, a6, a7, a8⟩ := a
  have er : ∀ r, lwr p r → q_I h2 r = q_I h r := fun r hr => by
    rcases a1.2.1 with rfl | rfl
    · exact e r (by have := hr.1; omega) (by have := hr.2; omega) (by have := hr.2; omega) (by have := hr.2; omega)
    · exact e r (by have := hr.1; omega) (by have := hr.2; omega) (by have := hr.1; omega) (by have := hr.1; omega)
  refine ⟨?_, fun q => rkL_k er (a2 q), ?_, ?_, by rw [eP]; exact a5, fun d hd => by rw [er (p + 4) ⟨by omega, by omega⟩, e2 138 (by decide) (by decide)]; exact a6 d hd, fun k hk => by rw [er (p + 5) ⟨by omega, by omega⟩, e2 140 (by decide) (by decide)]; exact a7 k hk, rvL_os a3.2.1 a8 (fun r i r1 r2 _ => congrFun (e2 r (by omega) r2) i)⟩
  · unfold rk_P at a1 ⊢
    rw [eP, er p ⟨by omega, by omega⟩]
    exact a1
  · unfold rm_P at a3 ⊢
    rw [e1, e2 135 (by decide) (by decide), e2 137 (by decide) (by decide), e2 139 (by decide) (by decide), e2 141 (by decide) (by decide)]
    exact a3
  · intro k hk
    have q := a4 k hk
    unfold rm_law at q ⊢
    rw [e2 142 (by decide) (by decide), e2 143 (by decide) (by decide)]
    cases hl : LW k with
    | none =>
      rw [hl] at q
      exact q
    | some w =>
      rw [hl] at q
      obtain ⟨b, q1, q2, q3, q4⟩ := q
      refine ⟨b, q1, q2, q3, ?_⟩
      refine q_br_of (h := h) ?_ _ _ _ q4
      exact ⟨e2 142 (by decide) (by decide), e2 143 (by decide) (by decide), e2 144 (by decide) (by decide), e2 145 (by decide) (by decide), e2 146 (by decide) (by decide), e2 147 (by decide) (by decide), e2 148 (by decide) (by decide), e2 149 (by decide) (by decide), e2 150 (by decide) (by decide)⟩
/-- a faulty text: the rows of the law that holds, and the reference's side that holds, are the same -/
theorem RLW_f {h h2 : q_H} {p nm nd nc mo n lv : Nat} {LW : q_LW} {gu : Nat → Nat} (eP : q_P h2 0 = q_P h 0) (e : ∀ r, lwr p r → q_I h2 r = q_I h r) (e2 : ∀ r i, 124 ≤ r → r ≤ 150 → q_os (1 - lv) r i → (r = 126 ∨ r = 127 ∨ r = 128 ∨ r = 129 → False) → (r = 124 → i = 18) → q_I h2 r i = q_I h r i) (a : RLW h p nm nd nc mo n lv LW gu) : RLW h2 p nm nd nc mo n lv LW gu := by
  obtain ⟨a1, a2, a3, a4, a5, a6, a7, a8⟩ := a
  have hlv : lv < 2 := a3.2.1
  have a8' : rv_L h2 lv (420 * lv + 400) (130 * lv + 105) LW := rvL_os hlv a8 (fun r i r1 r2 r3 => e2 r i (by omega) r2 r3 (by omega) (by omega))
  refine ⟨?_, fun q => rkL_k e (a2 q), ?_, rm_rv (by omega) a8', by rw [eP]; exact a5, fun d hd => by rw [e (p + 4) ⟨by omega, by omega⟩, e2 138 (8 * lv + d) (by decide) (by decide) (by unfold q_os; have := a1.2.2.2.2.2.2.2.1; omega) (by omega) (by omega)]; exact a6 d hd, fun k hk => by rw [e (p + 5) ⟨by omega, by omega⟩, e2 140 (12 * lv + k) (by decide) (by decide) (by unfold q_os; have := a1.2.2.2.2.2.2.2.2.2.1; omega) (by omega) (by omega)]; exact a7 k hk, a8'⟩
  · unfold rk_P at a1 ⊢
    rw [eP, e p ⟨by omega, by omega⟩]
    exact a1
  · unfold rm_P at a3 ⊢
    rw [e2 124 18 (by decide) (by decide) (by unfold q_os; omega) (by omega) (by omega), e2 135 lv (by decide) (by decide) (by unfold q_os; omega) (by omega) (by omega), e2 137 lv (by decide) (by decide) (by unfold q_os; omega) (by omega) (by omega), e2 139 lv (by decide) (by decide) (by unfold q_os; omega) (by omega) (by omega), e2 141 lv (by decide) (by decide) (by unfold q_os; omega) (by omega) (by omega)]
    exact a3
theorem RS_k {i : Nat} {h h2 : q_H} (e : h2.2.2 = h.2.2) (a : RS i h) : RS i h2 := by
  obtain ⟨a1, a2, a3⟩ := a
  exact ⟨q_Stat_3 e a1, by rw [show q_N h2 = q_N h from congrArg (fun z => z.2.2.2.1) e]; exact a2, by rw [show q_K h2 = q_K h from congrArg (fun z => z.2.2.2.2) e]; exact a3⟩
theorem RS_up {i : Nat} {h : q_H} (a : RS i h) : RS (i + 1) h := ⟨a.1, by have := a.2.1; omega, by have := a.2.2; omega⟩
/-- scratch rows -/
def q_srb (r : Nat) : Bool := (111 :: 112 :: 122 :: 123 :: q_ksl).contains r || q_msc r
/-- all but scratch is the same -/
def q_sme (h h2 : q_H) : Prop := h2.2.2 = h.2.2 ∧ (∀ r, r ≠ 124 → q_srb r = false → q_I h2 r = q_I h r) ∧ (∀ k, q_mfk k = false → q_I h2 124 k = q_I h 124 k) ∧ (∀ r, r ≠ 130 → r ≠ 132 → q_J h2 r = q_J h r) ∧ q_I h2 111 0 = q_I h 111 0 ∧ q_I h2 112 0 = q_I h 112 0 ∧ q_I h2 122 0 = q_I h 122 0 ∧ q_I h2 123 0 = q_I h 123 0
theorem sme_of {h h1 h2 : q_H} (a : q_kag2 h h1) (b : q_mag h1 h2) : q_sme h h2 := by
  obtain ⟨⟨a1, a2⟩, a3, a4, a5, a6⟩ := a
  obtain ⟨b1, b2, b3, b4⟩ := b
  have hz : ∀ r, r = 111 ∨ r = 112 ∨ r = 122 ∨ r = 123 → q_I h2 r = q_I h1 r := fun r hr => by
    rcases hr with rfl | rfl | rfl | rfl <;> exact b1 _ (by decide) rfl
  refine ⟨b4.trans (congrArg (fun z => z.2) a2), fun r h124 hs => ?_, fun k hk => ?_, fun r x y => (b3 r x y).trans (congrArg (fun z => z.1 r) a2), by rw [hz 111 (by decide)]; exact a3, by rw [hz 112 (by decide)]; exact a4, by rw [hz 122 (by decide)]; exact a5, by rw [hz 123 (by decide)]; exact a6⟩
  · unfold q_srb at hs
    rw [Bool.or_eq_false_iff] at hs
    exact (b1 r h124 hs.2).trans (a1 r hs.1)
  · exact (b2 k hk).trans (congrFun (a1 124 rfl) k)
theorem RR_sme {i : Nat} {h h2 : q_H} (e : q_sme h h2) (a : RR i h) : RR (i + 1) h2 := by
  obtain ⟨e1, e2, e3, e4, e5, e6, e7, e8⟩ := e
  obtain ⟨aS, aT, aP, aW, aZ, p, nm, nd, nc, mo, n, lv, LW, gu, aL, aN, aU, aH, aD⟩ := a
  have r1 : ∀ r, r < 170 → (∀ s, s = r → (decide (s = 124) || q_srb s) = false) → q_I h2 r = q_I h r := fun r _ hq => by
    have := hq r rfl
    rw [Bool.or_eq_false_iff] at this
    exact e2 r (of_decide_eq_false this.1) this.2
  have rr : ∀ r, (decide (r = 124) || q_srb r) = false → q_I h2 r = q_I h r := fun r hq => by
    rw [Bool.or_eq_false_iff] at hq
    exact e2 r (of_decide_eq_false hq.1) hq.2
  have big : ∀ r, 170 ≤ r → q_I h2 r = q_I h r := fun r hr => by
    refine e2 r (by omega) ?_
    rw [← Bool.not_eq_true]
    intro q
    unfold q_srb at q
    rw [Bool.or_eq_true] at q
    rcases q with q | q
    · have q := List.contains_iff_mem.mp q
      simp only [q_ksl, List.mem_cons, List.not_mem_nil, or_false] at q
      omega
    · unfold q_msc at q
      simp only [Bool.or_eq_true, beq_iff_eq] at q
      omega
  have H1 : ∀ r, r ≤ 33 → 10 ≤ r → r ≤ 31 → r ≠ 20 → r ≠ 21 → (decide (r = 124) || q_srb r) = false := by decide +kernel
  have H2 : ∀ r, r ≤ 150 → 135 ≤ r → (r = 151 ∨ (decide (r = 124) || q_srb r) = false) := by decide +kernel
  have H3 : ∀ r, r ≤ 39 → 34 ≤ r → (decide (r = 124) || q_srb r) = false := by decide +kernel
  have H4 : ∀ r, r ≤ 93 → 44 ≤ r → (decide (r = 124) || q_srb r) = false := by decide +kernel
  refine ⟨RS_up (RS_k e1 aS), RT_k (congrFun (rr 1 rfl) 1) (e3 2 rfl) (rr 2 rfl) (rr 125 rfl) aT, RP_k (rr 7 rfl) (e3 17 rfl) aP, RW_k (e4 6 (by decide) (by decide)) (e4 131 (by decide) (by decide)) aW, ⟨e5.trans aZ.1, e6.trans aZ.2.1, e7.trans aZ.2.2.1, e8.trans aZ.2.2.2⟩, p, nm, nd, nc, mo, n, lv, LW, gu, ?_, ?_, ?_, ?_, ?_⟩
  · exact RLW_k (congrArg (fun z => z.1 0) e1) (fun r h1 h2 h3 h4 => rr r (H1 r (by omega) h1 h2 h3 h4)) (e3 18 rfl) (fun r h1 h2 => rr r ((H2 r h2 h1).resolve_left (by omega))) aL
  · exact RN_up (RN_k (fun r h1 h2 => rr r (H3 r h2 h1)) (rr 154 rfl) aN)
  · exact RU_up (RU_k (e3 51 rfl) (rr 42 rfl) (fun r h1 h2 => rr r (H4 r h2 h1)) (rr 158 rfl) (rr 154 rfl) aU)
  · exact RH_up (RH_k (congrArg (fun z => z.1 40) e1) (fun b hb => ⟨sl_k hb e1, fun r h1 h2 => big r (by have := hb.2.2.2.2.2.2.2.2.2.2; omega)⟩) (rr 41 rfl) (rr 168 rfl) (rr 169 rfl) aH)
  · exact RD_k (congrFun (rr 94 rfl) 3) (e3 62 rfl) (rr 95 rfl) (rr 96 rfl) (rr 166 rfl) (rr 167 rfl) aD
/-- two calls, one behind the other: both answer alike, and the relation holds again -/
def q_2 (l : Launch) (g : q_GP) (i : Nat) (h : q_H) (y1 : q_MI) (as1 : List Value) (y2 : q_MI) (as2 : List Value) : Prop := ∃ (d1 : Nat) (Q1 : Option Value → q_H → Prop), d1 ≤ 40 ∧ q_Ct l g d1 y1 as1 h Q1 ∧ ∀ r h1, Q1 r h1 → ∃ (v : Int32) (d2 : Nat), d2 ≤ 40 ∧ r = some (.int v) ∧ q_Stat h1 ∧ q_Ct l g d2 y2 as2 h1 (fun r2 h2 => r2 = some (.int v) ∧ RR (i + 1) h2)
/-- both are questions -/
theorem q_2q {l : Launch} {g : q_GP} {i : Nat} {h : q_H} (hR : RR i h) {y1 : q_MI} {as1 : List Value} {y2 : q_MI} {as2 : List Value} {d1 d2 : Nat} {v v2 : Int32} (hd1 : d1 ≤ 40) (hd2 : d2 ≤ 40) (C1 : q_Ct l g d1 y1 as1 h (fun r h1 => r = some (.int v) ∧ q_kag2 h h1)) (hv : v2 = v) (C2 : ∀ h1, q_kag2 h h1 → q_Ct l g d2 y2 as2 h1 (fun r h2 => r = some (.int v2) ∧ q_mag h1 h2)) : q_2 l g i h y1 as1 y2 as2 :=
  ⟨d1, _, hd1, C1, fun r h1 q => ⟨v, d2, hd2, q.1, q_Stat_2 q.2.1.2 hR.1.1, q_Ct_post (fun r2 h2 q2 => ⟨by rw [q2.1, hv], RR_sme (sme_of q.2 q2.2) hR⟩) (C2 h1 q.2)⟩⟩
theorem q_kag2_r (h : q_H) : q_kag2 h h := q_kag_2 (q_kag_r h)
theorem q_Ct_d {l : Launch} {g : q_GP} {d : Nat} {y : q_MI} {as : List Value} {h : q_H} {v : Int32} (C : q_Cd l g d y as h (some (.int v)) h) : q_Ct l g d y as h (fun r h1 => r = some (.int v) ∧ q_kag2 h h1) := q_Ct_post (fun r h1 q => ⟨q.1, by rw [q.2]; exact q_kag2_r h⟩) C
theorem q_Ct_k {l : Launch} {g : q_GP} {d : Nat} {y : q_MI} {as : List Value} {h : q_H} {v : Int32} (C : q_Ct l g d y as h (fun r h1 => r = some (.int v) ∧ q_kag h h1)) : q_Ct l g d y as h (fun r h1 => r = some (.int v) ∧ q_kag2 h h1) := q_Ct_post (fun r h1 q => ⟨q.1, q_kag_2 q.2⟩) C
theorem q_Ct_m {l : Launch} {g : q_GP} {d : Nat} {y : q_MI} {as : List Value} {h : q_H} {v : Int32} (C : q_Cd l g d y as h (some (.int v)) h) : q_Ct l g d y as h (fun r h1 => r = some (.int v) ∧ q_mag h h1) := q_Ct_post (fun r h1 q => ⟨q.1, by rw [q.2]; exact q_mag_r h⟩) C
/-- what stays for the reference as the class answers -/
theorem kag2_k {h h1 : q_H} (a : q_kag2 h h1) : h1.2 = h.2 ∧ ∀ r, r < 20 ∨ 123 < r ∨ (34 ≤ r ∧ r ≤ 96) ∨ (22 ≤ r ∧ r ≤ 31) → q_I h1 r = q_I h r := by
  refine ⟨a.1.2, fun r hr => a.1.1 r ?_⟩
  rw [← Bool.not_eq_true]
  intro q
  have q := List.contains_iff_mem.mp q
  simp only [q_ksl, List.mem_cons, List.not_mem_nil, or_false] at q
  omega
