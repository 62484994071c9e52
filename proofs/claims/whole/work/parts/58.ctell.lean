/-! the class: tells of a text -/
/-- program p so far (n steps) holds what the text has told -/
def ck_V (h : q_H) (K : q_TK) (p n : Nat) (s : q_PS) : Prop := q_I h p 2 = nI n ∧ q_I h p 3 = nI (ps_m s).length ∧ q_I h p 4 = nI (ps_d s).length ∧ q_I h p 5 = nI (ps_c s).length ∧ q_I h p 6 = nI (ps_o s) ∧ ps_o s ≤ 9999 ∧ (ps_f s).length = (ps_m s).length ∧ (ps_g s).length = (ps_d s).length ∧ (ps_c s).length ≤ 12 ∧ (∀ i, i < (ps_f s).length → q_I h (p + 3) i = nI ((ps_f s).getD i 0)) ∧ (∀ i, i < (ps_g s).length → q_I h (p + 4) i = nI ((ps_g s).getD i 0)) ∧ (∀ i, i < (ps_c s).length → q_I h (p + 5) i = nI ((ps_c s).getD i 0)) ∧ rk_L h p n (ps_L s) ∧ ck_N h 8 (ps_m s) ∧ ck_N h 9 (ps_d s) ∧ q_lfv K (q_I h 7 9) (q_I h 7 10) (ps_e s) ∧ q_I h 7 7 = nI 0
/-- all but the reader and program p is as it was -/
def q_fr (p : Nat) (h0 h : q_H) : Prop := (∀ r, r ≠ 7 → r < p ∨ p + 9 < r → q_I h r = q_I h0 r) ∧ (∀ r, r ≠ 8 → r ≠ 9 → q_J h r = q_J h0 r) ∧ h.2.2 = h0.2.2
theorem fr_t {p : Nat} {h0 h h1 : q_H} (a : q_fr p h0 h) (b : q_fr p h h1) : q_fr p h0 h1 := ⟨fun r x y => (b.1 r x y).trans (a.1 r x y), fun r x y => (b.2.1 r x y).trans (a.2.1 r x y), b.2.2.trans a.2.2⟩
theorem fr_r {p : Nat} {h : q_H} : q_fr p h h := ⟨fun _ _ _ => rfl, fun _ _ _ => rfl, rfl⟩
theorem fr_I {p c : Nat} {h0 h : q_H} {f : Nat → Int32} (hc : c = 7 ∨ (p ≤ c ∧ c ≤ p + 9)) (a : q_fr p h0 h) : q_fr p h0 (q_wI h c f) := ⟨fun r x y => (q_Ine (by omega)).trans (a.1 r x y), a.2.1, a.2.2⟩
theorem fr_J {p c : Nat} {h0 h : q_H} {f : Nat → Int64} (hc : c = 8 ∨ c = 9) (a : q_fr p h0 h) : q_fr p h0 (q_wJ h c f) := ⟨a.1, fun r x y => by
  rw [q_JwJ, if_neg (by omega)]
  exact a.2.1 r x y, a.2.2⟩
theorem fr_em {p : Nat} {h0 h h1 : q_H} (a : q_fr p h0 h) (b : q_em p h h1) : q_fr p h0 h1 := ⟨fun r x y => (b.2.1 r x (by omega) (by omega) (by omega)).trans (a.1 r x y), fun r x y => (congrArg (fun z => z.1 r) b.1).trans (a.2.1 r x y), (congrArg (fun z => z.2) b.1).trans a.2.2⟩
theorem q_Stat_3 {h h1 : q_H} (e : h1.2.2 = h.2.2) (hs : q_Stat h) : q_Stat h1 := by
  obtain ⟨a, b, c⟩ := h
  obtain ⟨a1, b1, c1⟩ := h1
  have e : c1 = c := e
  subst e
  exact hs
def q_tlA (K : q_TK) (m p : Nat) (h0 : q_H) (o : (Nat × Nat) ⊕ (q_PS × Nat)) (r : Option Value) (h : q_H) : Prop := match o with
  | .inl e => r = some (.int (nI 0)) ∧ q_fr p h0 h ∧ q_I h 7 7 = nI e.1 ∧ q_I h 7 8 = nI (tk_P K e.2)
  | .inr x => r = some (.int (nI 1)) ∧ q_fr p h0 h ∧ x.2 ≤ m ∧ q_I h 7 4 = nI x.2 ∧ q_I h 7 5 = q_kap (tk_T K x.2) ∧ ∃ n, n ≤ 10 + x.2 ∧ ck_V h K p n x.1
theorem rk_L_c {h h1 : q_H} {p n n1 : Nat} {LW : q_LW} (hL : rk_L h p n LW) (hn : n ≤ n1) (e6 : q_I h1 (p + 6) = q_I h (p + 6)) (e7 : q_I h1 (p + 7) = q_I h (p + 7)) (e8 : q_I h1 (p + 8) = q_I h (p + 8)) (e9 : q_I h1 (p + 9) = q_I h (p + 9)) (ec : ∀ i, i < n → q_I h1 (p + 1) i = q_I h (p + 1) i ∧ q_I h1 (p + 2) i = q_I h (p + 2) i) : rk_L h1 p n1 LW := by
  have key : ∀ r k o, q_I h1 r = q_I h r → rk_at h p n r k o → rk_at h1 p n1 r k o := fun r k o er ⟨a, h1', h2⟩ => ⟨a, by rw [er]; exact h1', q_cd_co2 hn ec _ _ _ h2⟩
  exact ⟨fun k hk => key _ _ _ e6 (hL.1 k hk), fun k hk => key _ _ _ e7 (hL.2.1 k hk), key _ _ _ e8 hL.2.2.1, key _ _ _ e9 hL.2.2.2⟩
theorem q_getD_app {α : Type} {l : List α} {x d : α} {i : Nat} : (l ++ [x]).getD i d = if i = l.length then x else l.getD i d := by
  rw [List.getD_eq_getElem?_getD, List.getD_eq_getElem?_getD]
  by_cases h : i = l.length
  · rw [if_pos h, h, List.getElem?_append_right (Nat.le_refl _), Nat.sub_self]
    rfl
  · rw [if_neg h]
    rcases Nat.lt_or_ge i l.length with q | q
    · rw [List.getElem?_append_left q]
    · rw [List.getElem?_append_right q, List.getElem?_eq_none (by simp; omega), List.getElem?_eq_none (by omega)]
theorem ck_N_app {h h1 : q_H} {c : Nat} {ns : List (List Nat)} {x : List Nat} (hN : ck_N h c ns) (h8 : ns.length < 8) (hx : nm_ok x) (e : q_J h1 c = vp_updL (q_J h c) ns.length (q_e5 x)) : ck_N h1 c (ns ++ [x]) := by
  rw [ck_N, List.length_append]
  refine ⟨by show ns.length + 1 ≤ 8; omega, fun i hi => ?_⟩
  have hi : i < ns.length + 1 := hi
  rw [q_getD_app, e]
  by_cases q : i = ns.length
  · rw [if_pos q, q]
    exact ⟨if_pos rfl, hx⟩
  · rw [if_neg q]
    refine ⟨(if_neg q).trans (hN.2 i (by omega)).1, (hN.2 i (by omega)).2⟩
theorem ck_N_co {h h1 : q_H} {c : Nat} {ns : List (List Nat)} (hN : ck_N h c ns) (e : q_J h1 c = q_J h c) : ck_N h1 c ns := ⟨hN.1, fun i hi => ⟨(congrFun e i).trans (hN.2 i hi).1, (hN.2 i hi).2⟩⟩
theorem q_row_app {F G : Nat → Int32} {l : List Nat} {v : Nat} (hF : ∀ i, i < l.length → F i = nI (l.getD i 0)) (e : G = upd F l.length (nI v)) : ∀ i, i < (l ++ [v]).length → G i = nI ((l ++ [v]).getD i 0) := by
  intro i hi
  rw [List.length_append] at hi
  have hi : i < l.length + 1 := hi
  rw [q_getD_app, e]
  by_cases q : i = l.length
  · rw [if_pos q, q]
    exact pk_us
  · rw [if_neg q, pk_un q]
    exact hF i (by omega)
theorem v_man10 {h h1 : q_H} {K : q_TK} {n v : Nat} {s : q_PS} {x : List Nat} {e : Option (Nat × Nat)} (hV : ck_V h K 10 n s) (h8 : (ps_m s).length < 8) (hx : nm_ok x) (eR : ∀ r, r ≠ 7 → r ≠ 10 → r ≠ 13 → q_I h1 r = q_I h r) (eP : ∀ j, j ≠ 3 → q_I h1 10 j = q_I h 10 j) (e3 : q_I h1 10 3 = nI ((ps_m s).length + 1)) (eF : q_I h1 13 = upd (q_I h 13) (ps_m s).length (nI v)) (e8 : q_J h1 8 = vp_updL (q_J h 8) (ps_m s).length (q_e5 x)) (e9 : q_J h1 9 = q_J h 9) (el : q_lfv K (q_I h1 7 9) (q_I h1 7 10) e) (e0 : q_I h1 7 7 = nI 0) : ck_V h1 K 10 n (ps_m s ++ [x], ps_d s, ps_f s ++ [v], ps_g s, ps_c s, ps_o s, ps_L s, e) := by
  obtain ⟨v2, v3, v4, v5, v6, v6b, vf, vg, vc, vF, vG, vC, vL, vN8, vN9, vE, v7⟩ := id hV
  refine ⟨(eP 2 (by decide)).trans v2, e3.trans (congrArg nI (List.length_append (as := ps_m s) (bs := [x])).symm), (eP 4 (by decide)).trans v4, (eP 5 (by decide)).trans v5, (eP 6 (by decide)).trans v6, v6b, ?_, vg, vc, ?_, fun i hi => (congrFun (eR _ (by decide) (by decide) (by decide)) i).trans (vG i hi), fun i hi => (congrFun (eR _ (by decide) (by decide) (by decide)) i).trans (vC i hi), ?_, ck_N_app vN8 h8 hx e8, ck_N_co vN9 e9, el, e0⟩
  · show (ps_f s ++ [v]).length = (ps_m s ++ [x]).length
    rw [List.length_append, List.length_append, vf]
    rfl
  · exact q_row_app vF (by rw [vf]; exact eF)
  · exact rk_L_c vL (Nat.le_refl _) (eR _ (by decide) (by decide) (by decide)) (eR _ (by decide) (by decide) (by decide)) (eR _ (by decide) (by decide) (by decide)) (eR _ (by decide) (by decide) (by decide)) (fun i _ => ⟨congrFun (eR _ (by decide) (by decide) (by decide)) i, congrFun (eR _ (by decide) (by decide) (by decide)) i⟩)
theorem v_deed10 {h h1 : q_H} {K : q_TK} {n v : Nat} {s : q_PS} {x : List Nat} {e : Option (Nat × Nat)} (hV : ck_V h K 10 n s) (h8 : (ps_d s).length < 8) (hx : nm_ok x) (eR : ∀ r, r ≠ 7 → r ≠ 10 → r ≠ 14 → q_I h1 r = q_I h r) (eP : ∀ j, j ≠ 4 → q_I h1 10 j = q_I h 10 j) (e3 : q_I h1 10 4 = nI ((ps_d s).length + 1)) (eF : q_I h1 14 = upd (q_I h 14) (ps_d s).length (nI v)) (e8 : q_J h1 9 = vp_updL (q_J h 9) (ps_d s).length (q_e5 x)) (e9 : q_J h1 8 = q_J h 8) (el : q_lfv K (q_I h1 7 9) (q_I h1 7 10) e) (e0 : q_I h1 7 7 = nI 0) : ck_V h1 K 10 n (ps_m s, ps_d s ++ [x], ps_f s, ps_g s ++ [v], ps_c s, ps_o s, ps_L s, e) := by
  obtain ⟨v2, v3, v4, v5, v6, v6b, vf, vg, vc, vF, vG, vC, vL, vN8, vN9, vE, v7⟩ := id hV
  refine ⟨(eP 2 (by decide)).trans v2, (eP 3 (by decide)).trans v3, e3.trans (congrArg nI (List.length_append (as := ps_d s) (bs := [x])).symm), (eP 5 (by decide)).trans v5, (eP 6 (by decide)).trans v6, v6b, vf, ?_, vc, fun i hi => (congrFun (eR _ (by decide) (by decide) (by decide)) i).trans (vF i hi), ?_, fun i hi => (congrFun (eR _ (by decide) (by decide) (by decide)) i).trans (vC i hi), ?_, ck_N_co vN8 e9, ck_N_app vN9 h8 hx e8, el, e0⟩
  · show (ps_g s ++ [v]).length = (ps_d s ++ [x]).length
    rw [List.length_append, List.length_append, vg]
    rfl
  · exact q_row_app vG (by rw [vg]; exact eF)
  · exact rk_L_c vL (Nat.le_refl _) (eR _ (by decide) (by decide) (by decide)) (eR _ (by decide) (by decide) (by decide)) (eR _ (by decide) (by decide) (by decide)) (eR _ (by decide) (by decide) (by decide)) (fun i _ => ⟨congrFun (eR _ (by decide) (by decide) (by decide)) i, congrFun (eR _ (by decide) (by decide) (by decide)) i⟩)
theorem v_moult10 {h h1 : q_H} {K : q_TK} {n v : Nat} {s : q_PS} {e : Option (Nat × Nat)} (hV : ck_V h K 10 n s) (hv9 : v ≤ 9999) (eR : ∀ r, r ≠ 7 → r ≠ 10 → q_I h1 r = q_I h r) (eP : ∀ j, j ≠ 6 → q_I h1 10 j = q_I h 10 j) (e3 : q_I h1 10 6 = nI v) (eJ : q_J h1 = q_J h) (el : q_lfv K (q_I h1 7 9) (q_I h1 7 10) e) (e0 : q_I h1 7 7 = nI 0) : ck_V h1 K 10 n (ps_m s, ps_d s, ps_f s, ps_g s, ps_c s, v, ps_L s, e) := by
  obtain ⟨v2, v3, v4, v5, v6, v6b, vf, vg, vc, vF, vG, vC, vL, vN8, vN9, vE, v7⟩ := id hV
  refine ⟨(eP 2 (by decide)).trans v2, (eP 3 (by decide)).trans v3, (eP 4 (by decide)).trans v4, (eP 5 (by decide)).trans v5, e3, hv9, vf, vg, vc, fun i hi => (congrFun (eR _ (by decide) (by decide)) i).trans (vF i hi), fun i hi => (congrFun (eR _ (by decide) (by decide)) i).trans (vG i hi), fun i hi => (congrFun (eR _ (by decide) (by decide)) i).trans (vC i hi), ?_, ck_N_co vN8 (by rw [eJ]), ck_N_co vN9 (by rw [eJ]), el, e0⟩
  exact rk_L_c vL (Nat.le_refl _) (eR _ (by decide) (by decide)) (eR _ (by decide) (by decide)) (eR _ (by decide) (by decide)) (eR _ (by decide) (by decide)) (fun i _ => ⟨congrFun (eR _ (by decide) (by decide)) i, congrFun (eR _ (by decide) (by decide)) i⟩)
theorem v_man22 {h h1 : q_H} {K : q_TK} {n v : Nat} {s : q_PS} {x : List Nat} {e : Option (Nat × Nat)} (hV : ck_V h K 22 n s) (h8 : (ps_m s).length < 8) (hx : nm_ok x) (eR : ∀ r, r ≠ 7 → r ≠ 22 → r ≠ 25 → q_I h1 r = q_I h r) (eP : ∀ j, j ≠ 3 → q_I h1 22 j = q_I h 22 j) (e3 : q_I h1 22 3 = nI ((ps_m s).length + 1)) (eF : q_I h1 25 = upd (q_I h 25) (ps_m s).length (nI v)) (e8 : q_J h1 8 = vp_updL (q_J h 8) (ps_m s).length (q_e5 x)) (e9 : q_J h1 9 = q_J h 9) (el : q_lfv K (q_I h1 7 9) (q_I h1 7 10) e) (e0 : q_I h1 7 7 = nI 0) : ck_V h1 K 22 n (ps_m s ++ [x], ps_d s, ps_f s ++ [v], ps_g s, ps_c s, ps_o s, ps_L s, e) := by
  obtain ⟨v2, v3, v4, v5, v6, v6b, vf, vg, vc, vF, vG, vC, vL, vN8, vN9, vE, v7⟩ := id hV
  refine ⟨(eP 2 (by decide)).trans v2, e3.trans (congrArg nI (List.length_append (as := ps_m s) (bs := [x])).symm), (eP 4 (by decide)).trans v4, (eP 5 (by decide)).trans v5, (eP 6 (by decide)).trans v6, v6b, ?_, vg, vc, ?_, fun i hi => (congrFun (eR _ (by decide) (by decide) (by decide)) i).trans (vG i hi), fun i hi => (congrFun (eR _ (by decide) (by decide) (by decide)) i).trans (vC i hi), ?_, ck_N_app vN8 h8 hx e8, ck_N_co vN9 e9, el, e0⟩
  · show (ps_f s ++ [v]).length = (ps_m s ++ [x]).length
    rw [List.length_append, List.length_append, vf]
    rfl
  · exact q_row_app vF (by rw [vf]; exact eF)
  · exact rk_L_c vL (Nat.le_refl _) (eR _ (by decide) (by decide) (by decide)) (eR _ (by decide) (by decide) (by decide)) (eR _ (by decide) (by decide) (by decide)) (eR _ (by decide) (by decide) (by decide)) (fun i _ => ⟨congrFun (eR _ (by decide) (by decide) (by decide)) i, congrFun (eR _ (by decide) (by decide) (by decide)) i⟩)
theorem v_deed22 {h h1 : q_H} {K : q_TK} {n v : Nat} {s : q_PS} {x : List Nat} {e : Option (Nat × Nat)} (hV : ck_V h K 22 n s) (h8 : (ps_d s).length < 8) (hx : nm_ok x) (eR : ∀ r, r ≠ 7 → r ≠ 22 → r ≠ 26 → q_I h1 r = q_I h r) (eP : ∀ j, j ≠ 4 → q_I h1 22 j = q_I h 22 j) (e3 : q_I h1 22 4 = nI ((ps_d s).length + 1)) (eF : q_I h1 26 = upd (q_I h 26) (ps_d s).length (nI v)) (e8 : q_J h1 9 = vp_updL (q_J h 9) (ps_d s).length (q_e5 x)) (e9 : q_J h1 8 = q_J h 8) (el : q_lfv K (q_I h1 7 9) (q_I h1 7 10) e) (e0 : q_I h1 7 7 = nI 0) : ck_V h1 K 22 n (ps_m s, ps_d s ++ [x], ps_f s, ps_g s ++ [v], ps_c s, ps_o s, ps_L s, e) := by
  obtain ⟨v2, v3, v4, v5, v6, v6b, vf, vg, vc, vF, vG, vC, vL, vN8, vN9, vE, v7⟩ := id hV
  refine ⟨(eP 2 (by decide)).trans v2, (eP 3 (by decide)).trans v3, e3.trans (congrArg nI (List.length_append (as := ps_d s) (bs := [x])).symm), (eP 5 (by decide)).trans v5, (eP 6 (by decide)).trans v6, v6b, vf, ?_, vc, fun i hi => (congrFun (eR _ (by decide) (by decide) (by decide)) i).trans (vF i hi), ?_, fun i hi => (congrFun (eR _ (by decide) (by decide) (by decide)) i).trans (vC i hi), ?_, ck_N_co vN8 e9, ck_N_app vN9 h8 hx e8, el, e0⟩
  · show (ps_g s ++ [v]).length = (ps_d s ++ [x]).length
    rw [List.length_append, List.length_append, vg]
    rfl
  · exact q_row_app vG (by rw [vg]; exact eF)
  · exact rk_L_c vL (Nat.le_refl _) (eR _ (by decide) (by decide) (by decide)) (eR _ (by decide) (by decide) (by decide)) (eR _ (by decide) (by decide) (by decide)) (eR _ (by decide) (by decide) (by decide)) (fun i _ => ⟨congrFun (eR _ (by decide) (by decide) (by decide)) i, congrFun (eR _ (by decide) (by decide) (by decide)) i⟩)
theorem v_moult22 {h h1 : q_H} {K : q_TK} {n v : Nat} {s : q_PS} {e : Option (Nat × Nat)} (hV : ck_V h K 22 n s) (hv9 : v ≤ 9999) (eR : ∀ r, r ≠ 7 → r ≠ 22 → q_I h1 r = q_I h r) (eP : ∀ j, j ≠ 6 → q_I h1 22 j = q_I h 22 j) (e3 : q_I h1 22 6 = nI v) (eJ : q_J h1 = q_J h) (el : q_lfv K (q_I h1 7 9) (q_I h1 7 10) e) (e0 : q_I h1 7 7 = nI 0) : ck_V h1 K 22 n (ps_m s, ps_d s, ps_f s, ps_g s, ps_c s, v, ps_L s, e) := by
  obtain ⟨v2, v3, v4, v5, v6, v6b, vf, vg, vc, vF, vG, vC, vL, vN8, vN9, vE, v7⟩ := id hV
  refine ⟨(eP 2 (by decide)).trans v2, (eP 3 (by decide)).trans v3, (eP 4 (by decide)).trans v4, (eP 5 (by decide)).trans v5, e3, hv9, vf, vg, vc, fun i hi => (congrFun (eR _ (by decide) (by decide)) i).trans (vF i hi), fun i hi => (congrFun (eR _ (by decide) (by decide)) i).trans (vG i hi), fun i hi => (congrFun (eR _ (by decide) (by decide)) i).trans (vC i hi), ?_, ck_N_co vN8 (by rw [eJ]), ck_N_co vN9 (by rw [eJ]), el, e0⟩
  exact rk_L_c vL (Nat.le_refl _) (eR _ (by decide) (by decide)) (eR _ (by decide) (by decide)) (eR _ (by decide) (by decide)) (eR _ (by decide) (by decide)) (fun i _ => ⟨congrFun (eR _ (by decide) (by decide)) i, congrFun (eR _ (by decide) (by decide)) i⟩)
theorem ck_gn {h : q_H} {K : q_TK} {m t k : Nat} (hT : ck_T h K m) (ht : t ≤ m) (hc : tx_ck (tk_T K) k t = none) (h0 : ¬ k = 0) (h3 : ¬ k = 3) : t + 1 ≤ m := by
  obtain ⟨hk, h4⟩ := tx_ck_none hc
  exact ck_go hT ht h4 (by rw [hk]; exact h0) (by rw [hk]; exact h3)
theorem c_X5_takeMan10 (l : Launch) (g : q_GP) (h : q_H) (hs : q_Stat h) {K : q_TK} {m t n : Nat} {s : q_PS} (hR : ck_R h K m 10 t) (hV : ck_V h K 10 n s) (hnt : n ≤ 10 + t) : q_Ct l g 2 mX5_takeMan [.ref 7] h (q_tlA K m 10 h (tx_man K s t)) := by
  have hI2 := hR.1
  have hI3 := hR.2.1
  have h4 := hR.2.2.2.2.1
  have h5 := hR.2.2.2.2.2
  have h4m := hR.2.2.1.1
  have htm := hR.2.2.2.1
  obtain ⟨v2, v3, v4, v5, v6, v6b, vf, vg, vc, vF, vG, vC, vL, vN8, vN9, vE, v7⟩ := id hV
  have l8 := vN8.1
  have l9 := vN9.1
  unfold tx_man
  by_cases hl : 8 ≤ (ps_m s).length
  · rw [if_pos hl]
    refine q_CtV mvX5_takeMan (Nat.le_of_ble_eq_true rfl) ?_
    refine xe_aload_n dX5_takeMan_0 rfl ?_
    refine xe_getP dX5_takeMan_1 flX5_26 (st7 hs) (by decide) rfl hI3 ?_
    refine xe_getIv dX5_takeMan_4 flX5_77 (st10 hs) (by decide) rfl (v := nI ((ps_m s).length)) (v3) ?_
    refine xe_bipush dX5_takeMan_7 kb_8 ?_
    refine xn_icmp_lt (tgt := 18) dX5_takeMan_9 rfl (by omega) (by omega) (fun c1 => ?_) (fun c1 => ?_)
    · omega
    · refine xe_aload_n dX5_takeMan_12 rfl ?_
      refine xe_iconst dX5_takeMan_13 kc_2 ?_
      refine xe_callVI (d' := 0) (y' := mX5_fail) dX5_takeMan_14 mlX5_119 mvX5_fail rfl (st7 hs) (by decide) rfl (by decide) (by decide) (Nat.le_of_ble_eq_true rfl) (c_X5_fail l g _ (by exact hs) (p := 10) (t := t) (by refine ck_R_t (t' := t) hR ?_ ?_ ?_ ?_ (by omega) ?_ ?_ <;> first | exact rfl | exact h4 | exact h5) _) rfl ?_
      refine xe_ireturn dX5_takeMan_17 rfl (by first | rfl | decide +kernel) ?_
      exact ⟨rfl, (by repeat (first | exact fr_r | refine fr_I (by decide) ?_ | refine fr_J (by decide) ?_)), rfl, rfl⟩
  · rw [if_neg hl]
    cases k1 : tx_ck (tk_T K) 20 t with
    | some er =>
      refine q_CtV mvX5_takeMan (Nat.le_of_ble_eq_true rfl) ?_
      refine xe_aload_n dX5_takeMan_0 rfl ?_
      refine xe_getP dX5_takeMan_1 flX5_26 (st7 hs) (by decide) rfl hI3 ?_
      refine xe_getIv dX5_takeMan_4 flX5_77 (st10 hs) (by decide) rfl (v := nI ((ps_m s).length)) (v3) ?_
      refine xe_bipush dX5_takeMan_7 kb_8 ?_
      refine xn_icmp_lt (tgt := 18) dX5_takeMan_9 rfl (by omega) (by omega) (fun c1 => ?_) (fun c1 => ?_)
      · refine xe_aload_n dX5_takeMan_18 rfl ?_
        refine xe_sipush dX5_takeMan_19 ks_256 ?_
        refine xe_callVI (d' := 0) (y' := mX5_take) dX5_takeMan_22 mlX5_63 mvX5_take rfl (st7 hs) (by decide) rfl (by decide) (by decide) (Nat.le_of_ble_eq_true rfl) (c_X5_take_f l g _ (by exact hs) (p := 10) (t := t) (by refine ck_R_t (t' := t) hR ?_ ?_ ?_ ?_ (by omega) ?_ ?_ <;> first | exact rfl | exact h4 | exact h5) (k := 20) (by decide) (by decide) k1) rfl ?_
        refine xn_if_eq (tgt := 57) dX5_takeMan_25 rfl (by omega) (fun c2 => ?_) (fun c2 => ?_)
        · refine xe_iconst dX5_takeMan_57 kc_0 ?_
          refine xe_ireturn dX5_takeMan_58 rfl (by first | rfl | decide +kernel) ?_
          exact ⟨rfl, (by repeat (first | exact fr_r | refine fr_I (by decide) ?_ | refine fr_J (by decide) ?_)), rfl, rfl⟩
        · omega
      · omega
    | none =>
      have go1 := ck_gn hR.2.2.1 (show t ≤ m by omega) k1 (by decide) (by decide)
      show q_Ct l g 2 mX5_takeMan _ h (q_tlA K m 10 h (tx_b (tx_ck (tk_T K) 1 (t + 1)) _))
      cases k2 : tx_ck (tk_T K) 1 (t + 1) with
      | some er =>
        refine q_CtV mvX5_takeMan (Nat.le_of_ble_eq_true rfl) ?_
        refine xe_aload_n dX5_takeMan_0 rfl ?_
        refine xe_getP dX5_takeMan_1 flX5_26 (st7 hs) (by decide) rfl hI3 ?_
        refine xe_getIv dX5_takeMan_4 flX5_77 (st10 hs) (by decide) rfl (v := nI ((ps_m s).length)) (v3) ?_
        refine xe_bipush dX5_takeMan_7 kb_8 ?_
        refine xn_icmp_lt (tgt := 18) dX5_takeMan_9 rfl (by omega) (by omega) (fun c1 => ?_) (fun c1 => ?_)
        · refine xe_aload_n dX5_takeMan_18 rfl ?_
          refine xe_sipush dX5_takeMan_19 ks_256 ?_
          refine xe_callVI (d' := 0) (y' := mX5_take) dX5_takeMan_22 mlX5_63 mvX5_take rfl (st7 hs) (by decide) rfl (by decide) (by decide) (Nat.le_of_ble_eq_true rfl) (c_X5_take_t l g _ (by exact hs) (p := 10) (t := t) (by refine ck_R_t (t' := t) hR ?_ ?_ ?_ ?_ (by omega) ?_ ?_ <;> first | exact rfl | exact h4 | exact h5) (k := 20) (by decide) (by decide) (by decide) k1) rfl ?_
          refine xn_if_eq (tgt := 57) dX5_takeMan_25 rfl (by omega) (fun c2 => ?_) (fun c2 => ?_)
          · omega
          · refine xe_aload_n dX5_takeMan_28 rfl ?_
            refine xe_aload_n dX5_takeMan_29 rfl ?_
            refine xe_getP dX5_takeMan_30 flX5_15 (st7 hs) (by decide) rfl (sp7_0 hs) ?_
            refine xe_aload_n dX5_takeMan_33 rfl ?_
            refine xe_getP dX5_takeMan_34 flX5_26 (st7 hs) (by decide) rfl hI3 ?_
            refine xe_getIv dX5_takeMan_37 flX5_77 (st10 hs) (by decide) rfl (v := nI ((ps_m s).length)) (v3) ?_
            refine xe_callVI (d' := 1) (y' := mX5_takeNewName) dX5_takeMan_40 mlX5_122 mvX5_takeNewName rfl (st7 hs) (by decide) rfl (by decide) (by decide) (Nat.le_of_ble_eq_true rfl) (c_X5_takeNewName_f l g _ (by exact hs) (p := 10) (t := (t + 1)) (by refine ck_R_t (t' := (t + 1)) hR ?_ ?_ ?_ ?_ (by omega) ?_ ?_ <;> first | exact rfl | exact h4 | exact h5) k2 _ _) rfl ?_
            refine xn_if_eq (tgt := 57) dX5_takeMan_43 rfl (by omega) (fun c3 => ?_) (fun c3 => ?_)
            · refine xe_iconst dX5_takeMan_57 kc_0 ?_
              refine xe_ireturn dX5_takeMan_58 rfl (by first | rfl | decide +kernel) ?_
              exact ⟨rfl, (by repeat (first | exact fr_r | refine fr_I (by decide) ?_ | refine fr_J (by decide) ?_)), rfl, rfl⟩
            · omega
        · omega
      | none =>
        have go2 := ck_gn hR.2.2.1 (show t + 1 ≤ m by omega) k2 (by decide) (by decide)
        have hx := (hR.2.2.1.2.2 (t + 1) (by omega)).2.2.2.2.1 (tx_ck_none k2).1
        show q_Ct l g 2 mX5_takeMan _ h (q_tlA K m 10 h (tx_b (tx_ck (tk_T K) 2 (t + 2)) _))
        cases k3 : tx_ck (tk_T K) 2 (t + 2) with
        | some er =>
          refine q_CtV mvX5_takeMan (Nat.le_of_ble_eq_true rfl) ?_
          refine xe_aload_n dX5_takeMan_0 rfl ?_
          refine xe_getP dX5_takeMan_1 flX5_26 (st7 hs) (by decide) rfl hI3 ?_
          refine xe_getIv dX5_takeMan_4 flX5_77 (st10 hs) (by decide) rfl (v := nI ((ps_m s).length)) (v3) ?_
          refine xe_bipush dX5_takeMan_7 kb_8 ?_
          refine xn_icmp_lt (tgt := 18) dX5_takeMan_9 rfl (by omega) (by omega) (fun c1 => ?_) (fun c1 => ?_)
          · refine xe_aload_n dX5_takeMan_18 rfl ?_
            refine xe_sipush dX5_takeMan_19 ks_256 ?_
            refine xe_callVI (d' := 0) (y' := mX5_take) dX5_takeMan_22 mlX5_63 mvX5_take rfl (st7 hs) (by decide) rfl (by decide) (by decide) (Nat.le_of_ble_eq_true rfl) (c_X5_take_t l g _ (by exact hs) (p := 10) (t := t) (by refine ck_R_t (t' := t) hR ?_ ?_ ?_ ?_ (by omega) ?_ ?_ <;> first | exact rfl | exact h4 | exact h5) (k := 20) (by decide) (by decide) (by decide) k1) rfl ?_
            refine xn_if_eq (tgt := 57) dX5_takeMan_25 rfl (by omega) (fun c2 => ?_) (fun c2 => ?_)
            · omega
            · refine xe_aload_n dX5_takeMan_28 rfl ?_
              refine xe_aload_n dX5_takeMan_29 rfl ?_
              refine xe_getP dX5_takeMan_30 flX5_15 (st7 hs) (by decide) rfl (sp7_0 hs) ?_
              refine xe_aload_n dX5_takeMan_33 rfl ?_
              refine xe_getP dX5_takeMan_34 flX5_26 (st7 hs) (by decide) rfl hI3 ?_
              refine xe_getIv dX5_takeMan_37 flX5_77 (st10 hs) (by decide) rfl (v := nI ((ps_m s).length)) (v3) ?_
              refine xe_callVIq (d' := 1) (y' := mX5_takeNewName) dX5_takeMan_40 mlX5_122 mvX5_takeNewName rfl (st7 hs) (by decide) rfl (by decide) (by decide) (Nat.le_of_ble_eq_true rfl) (c_X5_takeNewName810_t l g _ (by exact hs) (t := (t + 1)) (by refine ck_R_t (t' := (t + 1)) hR ?_ ?_ ?_ ?_ (by omega) ?_ ?_ <;> first | exact rfl | exact h4 | exact h5) (by exact vE) (nsm := ps_m s) (nsd := ps_d s) (by exact vN8) (by exact vN9) (by exact v3) (by exact v4) (by omega) k2) rfl (fun h3 hq3 => ?_)
              obtain ⟨a3, b3, rfl, hl3⟩ := hq3
              refine xn_if_eq (tgt := 57) dX5_takeMan_43 rfl (by omega) (fun c4 => ?_) (fun c4 => ?_)
              · omega
              · refine xe_aload_n dX5_takeMan_46 rfl ?_
                refine xe_iconst dX5_takeMan_47 kc_0 ?_
                refine xe_sipush dX5_takeMan_48 ks_999 ?_
                refine xe_callVI (d' := 1) (y' := mX5_takeInt) dX5_takeMan_51 mlX5_125 mvX5_takeInt rfl (st7 hs) (by decide) rfl (by decide) (by decide) (Nat.le_of_ble_eq_true rfl) (c_X5_takeInt_f l g _ (by exact hs) (p := 10) (t := (t + 1 + 1)) (by refine ck_R_t (t' := (t + 1 + 1)) hR ?_ ?_ ?_ ?_ (by omega) ?_ ?_ <;> first | exact rfl | exact h4 | exact h5) k3 _ _) rfl ?_
                refine xn_if_ne (tgt := 59) dX5_takeMan_54 rfl (by omega) (fun c5 => ?_) (fun c5 => ?_)
                · omega
                · refine xe_iconst dX5_takeMan_57 kc_0 ?_
                  refine xe_ireturn dX5_takeMan_58 rfl (by first | rfl | decide +kernel) ?_
                  exact ⟨rfl, (by repeat (first | exact fr_r | refine fr_I (by decide) ?_ | refine fr_J (by decide) ?_)), rfl, rfl⟩
          · omega
        | none =>
          have go3 := ck_gn hR.2.2.1 (show t + 2 ≤ m by omega) k3 (by decide) (by decide)
          have hv := (hR.2.2.1.2.2 (t + 2) (by omega)).2.2.2.2.2 (tx_ck_none k3).1
          show q_Ct l g 2 mX5_takeMan _ h (q_tlA K m 10 h (tx_b (tx_ck (tk_T K) 4 (t + 3)) _))
          cases k4 : tx_ck (tk_T K) 4 (t + 3) with
          | some er =>
            refine q_CtV mvX5_takeMan (Nat.le_of_ble_eq_true rfl) ?_
            refine xe_aload_n dX5_takeMan_0 rfl ?_
            refine xe_getP dX5_takeMan_1 flX5_26 (st7 hs) (by decide) rfl hI3 ?_
            refine xe_getIv dX5_takeMan_4 flX5_77 (st10 hs) (by decide) rfl (v := nI ((ps_m s).length)) (v3) ?_
            refine xe_bipush dX5_takeMan_7 kb_8 ?_
            refine xn_icmp_lt (tgt := 18) dX5_takeMan_9 rfl (by omega) (by omega) (fun c1 => ?_) (fun c1 => ?_)
            · refine xe_aload_n dX5_takeMan_18 rfl ?_
              refine xe_sipush dX5_takeMan_19 ks_256 ?_
              refine xe_callVI (d' := 0) (y' := mX5_take) dX5_takeMan_22 mlX5_63 mvX5_take rfl (st7 hs) (by decide) rfl (by decide) (by decide) (Nat.le_of_ble_eq_true rfl) (c_X5_take_t l g _ (by exact hs) (p := 10) (t := t) (by refine ck_R_t (t' := t) hR ?_ ?_ ?_ ?_ (by omega) ?_ ?_ <;> first | exact rfl | exact h4 | exact h5) (k := 20) (by decide) (by decide) (by decide) k1) rfl ?_
              refine xn_if_eq (tgt := 57) dX5_takeMan_25 rfl (by omega) (fun c2 => ?_) (fun c2 => ?_)
              · omega
              · refine xe_aload_n dX5_takeMan_28 rfl ?_
                refine xe_aload_n dX5_takeMan_29 rfl ?_
                refine xe_getP dX5_takeMan_30 flX5_15 (st7 hs) (by decide) rfl (sp7_0 hs) ?_
                refine xe_aload_n dX5_takeMan_33 rfl ?_
                refine xe_getP dX5_takeMan_34 flX5_26 (st7 hs) (by decide) rfl hI3 ?_
                refine xe_getIv dX5_takeMan_37 flX5_77 (st10 hs) (by decide) rfl (v := nI ((ps_m s).length)) (v3) ?_
                refine xe_callVIq (d' := 1) (y' := mX5_takeNewName) dX5_takeMan_40 mlX5_122 mvX5_takeNewName rfl (st7 hs) (by decide) rfl (by decide) (by decide) (Nat.le_of_ble_eq_true rfl) (c_X5_takeNewName810_t l g _ (by exact hs) (t := (t + 1)) (by refine ck_R_t (t' := (t + 1)) hR ?_ ?_ ?_ ?_ (by omega) ?_ ?_ <;> first | exact rfl | exact h4 | exact h5) (by exact vE) (nsm := ps_m s) (nsd := ps_d s) (by exact vN8) (by exact vN9) (by exact v3) (by exact v4) (by omega) k2) rfl (fun h3 hq3 => ?_)
                obtain ⟨a3, b3, rfl, hl3⟩ := hq3
                refine xn_if_eq (tgt := 57) dX5_takeMan_43 rfl (by omega) (fun c4 => ?_) (fun c4 => ?_)
                · omega
                · refine xe_aload_n dX5_takeMan_46 rfl ?_
                  refine xe_iconst dX5_takeMan_47 kc_0 ?_
                  refine xe_sipush dX5_takeMan_48 ks_999 ?_
                  refine xe_callVIq (d' := 1) (y' := mX5_takeInt) dX5_takeMan_51 mlX5_125 mvX5_takeInt rfl (st7 hs) (by decide) rfl (by decide) (by decide) (Nat.le_of_ble_eq_true rfl) (c_X5_takeInt_t l g _ (by exact hs) (p := 10) (t := (t + 1 + 1)) (by refine ck_R_t (t' := (t + 1 + 1)) hR ?_ ?_ ?_ ?_ (by omega) ?_ ?_ <;> first | exact rfl | exact h4 | exact h5) (by exact hl3) (lo := 0) (hi := 999) (by decide) (by decide) k3) rfl (fun h5 hq5 => ?_)
                  obtain ⟨a5, b5, rfl, hl5⟩ := hq5
                  refine xn_if_ne (tgt := 59) dX5_takeMan_54 rfl (by omega) (fun c6 => ?_) (fun c6 => ?_)
                  · refine xe_aload_n dX5_takeMan_59 rfl ?_
                    refine xe_getP dX5_takeMan_60 flX5_26 (st7 hs) (by decide) rfl hI3 ?_
                    refine xe_getP dX5_takeMan_63 flX5_129 (st10 hs) (by decide) rfl (sp10_7 hs) ?_
                    refine xe_aload_n dX5_takeMan_66 rfl ?_
                    refine xe_getP dX5_takeMan_67 flX5_26 (st7 hs) (by decide) rfl hI3 ?_
                    refine xe_getIv dX5_takeMan_70 flX5_77 (st10 hs) (by decide) rfl (v := nI ((ps_m s).length)) (v3) ?_
                    refine xe_aload_n dX5_takeMan_73 rfl ?_
                    refine xe_getIv dX5_takeMan_74 flX5_70 (st7 hs) (by decide) rfl (v := nI (tk_V K ((t + 1 + 1)))) (rfl) ?_
                    refine xn_iast dX5_takeMan_77 (st13 hs) (by omega) (by decide) ?_
                    refine xe_aload_n dX5_takeMan_78 rfl ?_
                    refine xe_getP dX5_takeMan_79 flX5_26 (st7 hs) (by decide) rfl hI3 ?_
                    refine xe_dup dX5_takeMan_82 rfl ?_
                    refine xe_getIv dX5_takeMan_83 flX5_77 (st10 hs) (by decide) rfl (v := nI ((ps_m s).length)) (v3) ?_
                    refine xe_iconst dX5_takeMan_86 kc_1 ?_
                    refine xn_iadd dX5_takeMan_87 ?_
                    refine xe_putI dX5_takeMan_88 flX5_77 (st10 hs) (by decide) rfl (Or.inl rfl) rfl rfl ?_
                    refine xe_aload_n dX5_takeMan_91 rfl ?_
                    refine xe_bipush dX5_takeMan_92 kb_59 ?_
                    refine xe_callVI (d' := 0) (y' := mX5_take) dX5_takeMan_94 mlX5_63 mvX5_take rfl (st7 hs) (by decide) rfl (by decide) (by decide) (Nat.le_of_ble_eq_true rfl) (c_X5_take_f l g _ (by exact hs) (p := 10) (t := (t + 1 + 1 + 1)) (by refine ck_R_t (t' := (t + 1 + 1 + 1)) hR ?_ ?_ ?_ ?_ (by omega) ?_ ?_ <;> first | exact rfl | exact h4 | exact h5) (k := 4) (by decide) (by decide) k4) rfl ?_
                    refine xe_ireturn dX5_takeMan_97 rfl (by first | rfl | decide +kernel) ?_
                    exact ⟨rfl, (by repeat (first | exact fr_r | refine fr_I (by decide) ?_ | refine fr_J (by decide) ?_)), rfl, rfl⟩
                  · omega
            · omega
          | none =>
            have go4 := ck_gn hR.2.2.1 (show t + 3 ≤ m by omega) k4 (by decide) (by decide)
            refine q_CtV mvX5_takeMan (Nat.le_of_ble_eq_true rfl) ?_
            refine xe_aload_n dX5_takeMan_0 rfl ?_
            refine xe_getP dX5_takeMan_1 flX5_26 (st7 hs) (by decide) rfl hI3 ?_
            refine xe_getIv dX5_takeMan_4 flX5_77 (st10 hs) (by decide) rfl (v := nI ((ps_m s).length)) (v3) ?_
            refine xe_bipush dX5_takeMan_7 kb_8 ?_
            refine xn_icmp_lt (tgt := 18) dX5_takeMan_9 rfl (by omega) (by omega) (fun c1 => ?_) (fun c1 => ?_)
            · refine xe_aload_n dX5_takeMan_18 rfl ?_
              refine xe_sipush dX5_takeMan_19 ks_256 ?_
              refine xe_callVI (d' := 0) (y' := mX5_take) dX5_takeMan_22 mlX5_63 mvX5_take rfl (st7 hs) (by decide) rfl (by decide) (by decide) (Nat.le_of_ble_eq_true rfl) (c_X5_take_t l g _ (by exact hs) (p := 10) (t := t) (by refine ck_R_t (t' := t) hR ?_ ?_ ?_ ?_ (by omega) ?_ ?_ <;> first | exact rfl | exact h4 | exact h5) (k := 20) (by decide) (by decide) (by decide) k1) rfl ?_
              refine xn_if_eq (tgt := 57) dX5_takeMan_25 rfl (by omega) (fun c2 => ?_) (fun c2 => ?_)
              · omega
              · refine xe_aload_n dX5_takeMan_28 rfl ?_
                refine xe_aload_n dX5_takeMan_29 rfl ?_
                refine xe_getP dX5_takeMan_30 flX5_15 (st7 hs) (by decide) rfl (sp7_0 hs) ?_
                refine xe_aload_n dX5_takeMan_33 rfl ?_
                refine xe_getP dX5_takeMan_34 flX5_26 (st7 hs) (by decide) rfl hI3 ?_
                refine xe_getIv dX5_takeMan_37 flX5_77 (st10 hs) (by decide) rfl (v := nI ((ps_m s).length)) (v3) ?_
                refine xe_callVIq (d' := 1) (y' := mX5_takeNewName) dX5_takeMan_40 mlX5_122 mvX5_takeNewName rfl (st7 hs) (by decide) rfl (by decide) (by decide) (Nat.le_of_ble_eq_true rfl) (c_X5_takeNewName810_t l g _ (by exact hs) (t := (t + 1)) (by refine ck_R_t (t' := (t + 1)) hR ?_ ?_ ?_ ?_ (by omega) ?_ ?_ <;> first | exact rfl | exact h4 | exact h5) (by exact vE) (nsm := ps_m s) (nsd := ps_d s) (by exact vN8) (by exact vN9) (by exact v3) (by exact v4) (by omega) k2) rfl (fun h3 hq3 => ?_)
                obtain ⟨a3, b3, rfl, hl3⟩ := hq3
                refine xn_if_eq (tgt := 57) dX5_takeMan_43 rfl (by omega) (fun c4 => ?_) (fun c4 => ?_)
                · omega
                · refine xe_aload_n dX5_takeMan_46 rfl ?_
                  refine xe_iconst dX5_takeMan_47 kc_0 ?_
                  refine xe_sipush dX5_takeMan_48 ks_999 ?_
                  refine xe_callVIq (d' := 1) (y' := mX5_takeInt) dX5_takeMan_51 mlX5_125 mvX5_takeInt rfl (st7 hs) (by decide) rfl (by decide) (by decide) (Nat.le_of_ble_eq_true rfl) (c_X5_takeInt_t l g _ (by exact hs) (p := 10) (t := (t + 1 + 1)) (by refine ck_R_t (t' := (t + 1 + 1)) hR ?_ ?_ ?_ ?_ (by omega) ?_ ?_ <;> first | exact rfl | exact h4 | exact h5) (by exact hl3) (lo := 0) (hi := 999) (by decide) (by decide) k3) rfl (fun h5 hq5 => ?_)
                  obtain ⟨a5, b5, rfl, hl5⟩ := hq5
                  refine xn_if_ne (tgt := 59) dX5_takeMan_54 rfl (by omega) (fun c6 => ?_) (fun c6 => ?_)
                  · refine xe_aload_n dX5_takeMan_59 rfl ?_
                    refine xe_getP dX5_takeMan_60 flX5_26 (st7 hs) (by decide) rfl hI3 ?_
                    refine xe_getP dX5_takeMan_63 flX5_129 (st10 hs) (by decide) rfl (sp10_7 hs) ?_
                    refine xe_aload_n dX5_takeMan_66 rfl ?_
                    refine xe_getP dX5_takeMan_67 flX5_26 (st7 hs) (by decide) rfl hI3 ?_
                    refine xe_getIv dX5_takeMan_70 flX5_77 (st10 hs) (by decide) rfl (v := nI ((ps_m s).length)) (v3) ?_
                    refine xe_aload_n dX5_takeMan_73 rfl ?_
                    refine xe_getIv dX5_takeMan_74 flX5_70 (st7 hs) (by decide) rfl (v := nI (tk_V K ((t + 1 + 1)))) (rfl) ?_
                    refine xn_iast dX5_takeMan_77 (st13 hs) (by omega) (by decide) ?_
                    refine xe_aload_n dX5_takeMan_78 rfl ?_
                    refine xe_getP dX5_takeMan_79 flX5_26 (st7 hs) (by decide) rfl hI3 ?_
                    refine xe_dup dX5_takeMan_82 rfl ?_
                    refine xe_getIv dX5_takeMan_83 flX5_77 (st10 hs) (by decide) rfl (v := nI ((ps_m s).length)) (v3) ?_
                    refine xe_iconst dX5_takeMan_86 kc_1 ?_
                    refine xn_iadd dX5_takeMan_87 ?_
                    refine xe_putI dX5_takeMan_88 flX5_77 (st10 hs) (by decide) rfl (Or.inl rfl) rfl rfl ?_
                    refine xe_aload_n dX5_takeMan_91 rfl ?_
                    refine xe_bipush dX5_takeMan_92 kb_59 ?_
                    refine xe_callVI (d' := 0) (y' := mX5_take) dX5_takeMan_94 mlX5_63 mvX5_take rfl (st7 hs) (by decide) rfl (by decide) (by decide) (Nat.le_of_ble_eq_true rfl) (c_X5_take_t l g _ (by exact hs) (p := 10) (t := (t + 1 + 1 + 1)) (by refine ck_R_t (t' := (t + 1 + 1 + 1)) hR ?_ ?_ ?_ ?_ (by omega) ?_ ?_ <;> first | exact rfl | exact h4 | exact h5) (k := 4) (by decide) (by decide) (by decide) k4) rfl ?_
                    refine xe_ireturn dX5_takeMan_97 rfl (by first | rfl | decide +kernel) ?_
                    rw [show decide (tk_V K (t + 1 + 1) < 0 ∨ 999 < tk_V K (t + 1 + 1)) = decide (999 < tk_V K (t + 2)) from decide_eq_decide.mpr ⟨fun q => q.elim (fun z => absurd z (Nat.not_lt_zero _)) id, Or.inr⟩] at hl5
                    refine ⟨rfl, (by repeat (first | exact fr_r | refine fr_I (by decide) ?_ | refine fr_J (by decide) ?_)), by show t + 4 ≤ m; omega, rfl, rfl, n, by show n ≤ 10 + (t + 4); omega, ?_⟩
                    exact v_man10 hV (by omega) hx.2 (by intro r a1 a2 a3; repeat (first | exact rfl | refine (q_Ine (by assumption)).trans ?_)) (fun j hj => pk_un hj) rfl rfl rfl rfl hl5 v7
                  · omega
            · omega
theorem c_X5_takeDeed10 (l : Launch) (g : q_GP) (h : q_H) (hs : q_Stat h) {K : q_TK} {m t n : Nat} {s : q_PS} (hR : ck_R h K m 10 t) (hV : ck_V h K 10 n s) (hnt : n ≤ 10 + t) : q_Ct l g 2 mX5_takeDeed [.ref 7] h (q_tlA K m 10 h (tx_deed K s t)) := by
  have hI2 := hR.1
  have hI3 := hR.2.1
  have h4 := hR.2.2.2.2.1
  have h5 := hR.2.2.2.2.2
  have h4m := hR.2.2.1.1
  have htm := hR.2.2.2.1
  obtain ⟨v2, v3, v4, v5, v6, v6b, vf, vg, vc, vF, vG, vC, vL, vN8, vN9, vE, v7⟩ := id hV
  have l8 := vN8.1
  have l9 := vN9.1
  unfold tx_deed
  by_cases hl : 8 ≤ (ps_d s).length
  · rw [if_pos hl]
    refine q_CtV mvX5_takeDeed (Nat.le_of_ble_eq_true rfl) ?_
    refine xe_aload_n dX5_takeDeed_0 rfl ?_
    refine xe_getP dX5_takeDeed_1 flX5_26 (st7 hs) (by decide) rfl hI3 ?_
    refine xe_getIv dX5_takeDeed_4 flX5_84 (st10 hs) (by decide) rfl (v := nI ((ps_d s).length)) (v4) ?_
    refine xe_bipush dX5_takeDeed_7 kb_8 ?_
    refine xn_icmp_lt (tgt := 18) dX5_takeDeed_9 rfl (by omega) (by omega) (fun c1 => ?_) (fun c1 => ?_)
    · omega
    · refine xe_aload_n dX5_takeDeed_12 rfl ?_
      refine xe_iconst dX5_takeDeed_13 kc_2 ?_
      refine xe_callVI (d' := 0) (y' := mX5_fail) dX5_takeDeed_14 mlX5_119 mvX5_fail rfl (st7 hs) (by decide) rfl (by decide) (by decide) (Nat.le_of_ble_eq_true rfl) (c_X5_fail l g _ (by exact hs) (p := 10) (t := t) (by refine ck_R_t (t' := t) hR ?_ ?_ ?_ ?_ (by omega) ?_ ?_ <;> first | exact rfl | exact h4 | exact h5) _) rfl ?_
      refine xe_ireturn dX5_takeDeed_17 rfl (by first | rfl | decide +kernel) ?_
      exact ⟨rfl, (by repeat (first | exact fr_r | refine fr_I (by decide) ?_ | refine fr_J (by decide) ?_)), rfl, rfl⟩
  · rw [if_neg hl]
    cases k1 : tx_ck (tk_T K) 21 t with
    | some er =>
      refine q_CtV mvX5_takeDeed (Nat.le_of_ble_eq_true rfl) ?_
      refine xe_aload_n dX5_takeDeed_0 rfl ?_
      refine xe_getP dX5_takeDeed_1 flX5_26 (st7 hs) (by decide) rfl hI3 ?_
      refine xe_getIv dX5_takeDeed_4 flX5_84 (st10 hs) (by decide) rfl (v := nI ((ps_d s).length)) (v4) ?_
      refine xe_bipush dX5_takeDeed_7 kb_8 ?_
      refine xn_icmp_lt (tgt := 18) dX5_takeDeed_9 rfl (by omega) (by omega) (fun c1 => ?_) (fun c1 => ?_)
      · refine xe_aload_n dX5_takeDeed_18 rfl ?_
        refine xe_sipush dX5_takeDeed_19 ks_257 ?_
        refine xe_callVI (d' := 0) (y' := mX5_take) dX5_takeDeed_22 mlX5_63 mvX5_take rfl (st7 hs) (by decide) rfl (by decide) (by decide) (Nat.le_of_ble_eq_true rfl) (c_X5_take_f l g _ (by exact hs) (p := 10) (t := t) (by refine ck_R_t (t' := t) hR ?_ ?_ ?_ ?_ (by omega) ?_ ?_ <;> first | exact rfl | exact h4 | exact h5) (k := 21) (by decide) (by decide) k1) rfl ?_
        refine xn_if_eq (tgt := 56) dX5_takeDeed_25 rfl (by omega) (fun c2 => ?_) (fun c2 => ?_)
        · refine xe_iconst dX5_takeDeed_56 kc_0 ?_
          refine xe_ireturn dX5_takeDeed_57 rfl (by first | rfl | decide +kernel) ?_
          exact ⟨rfl, (by repeat (first | exact fr_r | refine fr_I (by decide) ?_ | refine fr_J (by decide) ?_)), rfl, rfl⟩
        · omega
      · omega
    | none =>
      have go1 := ck_gn hR.2.2.1 (show t ≤ m by omega) k1 (by decide) (by decide)
      show q_Ct l g 2 mX5_takeDeed _ h (q_tlA K m 10 h (tx_b (tx_ck (tk_T K) 1 (t + 1)) _))
      cases k2 : tx_ck (tk_T K) 1 (t + 1) with
      | some er =>
        refine q_CtV mvX5_takeDeed (Nat.le_of_ble_eq_true rfl) ?_
        refine xe_aload_n dX5_takeDeed_0 rfl ?_
        refine xe_getP dX5_takeDeed_1 flX5_26 (st7 hs) (by decide) rfl hI3 ?_
        refine xe_getIv dX5_takeDeed_4 flX5_84 (st10 hs) (by decide) rfl (v := nI ((ps_d s).length)) (v4) ?_
        refine xe_bipush dX5_takeDeed_7 kb_8 ?_
        refine xn_icmp_lt (tgt := 18) dX5_takeDeed_9 rfl (by omega) (by omega) (fun c1 => ?_) (fun c1 => ?_)
        · refine xe_aload_n dX5_takeDeed_18 rfl ?_
          refine xe_sipush dX5_takeDeed_19 ks_257 ?_
          refine xe_callVI (d' := 0) (y' := mX5_take) dX5_takeDeed_22 mlX5_63 mvX5_take rfl (st7 hs) (by decide) rfl (by decide) (by decide) (Nat.le_of_ble_eq_true rfl) (c_X5_take_t l g _ (by exact hs) (p := 10) (t := t) (by refine ck_R_t (t' := t) hR ?_ ?_ ?_ ?_ (by omega) ?_ ?_ <;> first | exact rfl | exact h4 | exact h5) (k := 21) (by decide) (by decide) (by decide) k1) rfl ?_
          refine xn_if_eq (tgt := 56) dX5_takeDeed_25 rfl (by omega) (fun c2 => ?_) (fun c2 => ?_)
          · omega
          · refine xe_aload_n dX5_takeDeed_28 rfl ?_
            refine xe_aload_n dX5_takeDeed_29 rfl ?_
            refine xe_getP dX5_takeDeed_30 flX5_19 (st7 hs) (by decide) rfl (sp7_1 hs) ?_
            refine xe_aload_n dX5_takeDeed_33 rfl ?_
            refine xe_getP dX5_takeDeed_34 flX5_26 (st7 hs) (by decide) rfl hI3 ?_
            refine xe_getIv dX5_takeDeed_37 flX5_84 (st10 hs) (by decide) rfl (v := nI ((ps_d s).length)) (v4) ?_
            refine xe_callVI (d' := 1) (y' := mX5_takeNewName) dX5_takeDeed_40 mlX5_122 mvX5_takeNewName rfl (st7 hs) (by decide) rfl (by decide) (by decide) (Nat.le_of_ble_eq_true rfl) (c_X5_takeNewName_f l g _ (by exact hs) (p := 10) (t := (t + 1)) (by refine ck_R_t (t' := (t + 1)) hR ?_ ?_ ?_ ?_ (by omega) ?_ ?_ <;> first | exact rfl | exact h4 | exact h5) k2 _ _) rfl ?_
            refine xn_if_eq (tgt := 56) dX5_takeDeed_43 rfl (by omega) (fun c3 => ?_) (fun c3 => ?_)
            · refine xe_iconst dX5_takeDeed_56 kc_0 ?_
              refine xe_ireturn dX5_takeDeed_57 rfl (by first | rfl | decide +kernel) ?_
              exact ⟨rfl, (by repeat (first | exact fr_r | refine fr_I (by decide) ?_ | refine fr_J (by decide) ?_)), rfl, rfl⟩
            · omega
        · omega
      | none =>
        have go2 := ck_gn hR.2.2.1 (show t + 1 ≤ m by omega) k2 (by decide) (by decide)
        have hx := (hR.2.2.1.2.2 (t + 1) (by omega)).2.2.2.2.1 (tx_ck_none k2).1
        show q_Ct l g 2 mX5_takeDeed _ h (q_tlA K m 10 h (tx_b (tx_ck (tk_T K) 2 (t + 2)) _))
        cases k3 : tx_ck (tk_T K) 2 (t + 2) with
        | some er =>
          refine q_CtV mvX5_takeDeed (Nat.le_of_ble_eq_true rfl) ?_
          refine xe_aload_n dX5_takeDeed_0 rfl ?_
          refine xe_getP dX5_takeDeed_1 flX5_26 (st7 hs) (by decide) rfl hI3 ?_
          refine xe_getIv dX5_takeDeed_4 flX5_84 (st10 hs) (by decide) rfl (v := nI ((ps_d s).length)) (v4) ?_
          refine xe_bipush dX5_takeDeed_7 kb_8 ?_
          refine xn_icmp_lt (tgt := 18) dX5_takeDeed_9 rfl (by omega) (by omega) (fun c1 => ?_) (fun c1 => ?_)
          · refine xe_aload_n dX5_takeDeed_18 rfl ?_
            refine xe_sipush dX5_takeDeed_19 ks_257 ?_
            refine xe_callVI (d' := 0) (y' := mX5_take) dX5_takeDeed_22 mlX5_63 mvX5_take rfl (st7 hs) (by decide) rfl (by decide) (by decide) (Nat.le_of_ble_eq_true rfl) (c_X5_take_t l g _ (by exact hs) (p := 10) (t := t) (by refine ck_R_t (t' := t) hR ?_ ?_ ?_ ?_ (by omega) ?_ ?_ <;> first | exact rfl | exact h4 | exact h5) (k := 21) (by decide) (by decide) (by decide) k1) rfl ?_
            refine xn_if_eq (tgt := 56) dX5_takeDeed_25 rfl (by omega) (fun c2 => ?_) (fun c2 => ?_)
            · omega
            · refine xe_aload_n dX5_takeDeed_28 rfl ?_
              refine xe_aload_n dX5_takeDeed_29 rfl ?_
              refine xe_getP dX5_takeDeed_30 flX5_19 (st7 hs) (by decide) rfl (sp7_1 hs) ?_
              refine xe_aload_n dX5_takeDeed_33 rfl ?_
              refine xe_getP dX5_takeDeed_34 flX5_26 (st7 hs) (by decide) rfl hI3 ?_
              refine xe_getIv dX5_takeDeed_37 flX5_84 (st10 hs) (by decide) rfl (v := nI ((ps_d s).length)) (v4) ?_
              refine xe_callVIq (d' := 1) (y' := mX5_takeNewName) dX5_takeDeed_40 mlX5_122 mvX5_takeNewName rfl (st7 hs) (by decide) rfl (by decide) (by decide) (Nat.le_of_ble_eq_true rfl) (c_X5_takeNewName910_t l g _ (by exact hs) (t := (t + 1)) (by refine ck_R_t (t' := (t + 1)) hR ?_ ?_ ?_ ?_ (by omega) ?_ ?_ <;> first | exact rfl | exact h4 | exact h5) (by exact vE) (nsm := ps_m s) (nsd := ps_d s) (by exact vN8) (by exact vN9) (by exact v3) (by exact v4) (by omega) k2) rfl (fun h3 hq3 => ?_)
              obtain ⟨a3, b3, rfl, hl3⟩ := hq3
              refine xn_if_eq (tgt := 56) dX5_takeDeed_43 rfl (by omega) (fun c4 => ?_) (fun c4 => ?_)
              · omega
              · refine xe_aload_n dX5_takeDeed_46 rfl ?_
                refine xe_iconst dX5_takeDeed_47 kc_0 ?_
                refine xe_bipush dX5_takeDeed_48 kb_99 ?_
                refine xe_callVI (d' := 1) (y' := mX5_takeInt) dX5_takeDeed_50 mlX5_125 mvX5_takeInt rfl (st7 hs) (by decide) rfl (by decide) (by decide) (Nat.le_of_ble_eq_true rfl) (c_X5_takeInt_f l g _ (by exact hs) (p := 10) (t := (t + 1 + 1)) (by refine ck_R_t (t' := (t + 1 + 1)) hR ?_ ?_ ?_ ?_ (by omega) ?_ ?_ <;> first | exact rfl | exact h4 | exact h5) k3 _ _) rfl ?_
                refine xn_if_ne (tgt := 58) dX5_takeDeed_53 rfl (by omega) (fun c5 => ?_) (fun c5 => ?_)
                · omega
                · refine xe_iconst dX5_takeDeed_56 kc_0 ?_
                  refine xe_ireturn dX5_takeDeed_57 rfl (by first | rfl | decide +kernel) ?_
                  exact ⟨rfl, (by repeat (first | exact fr_r | refine fr_I (by decide) ?_ | refine fr_J (by decide) ?_)), rfl, rfl⟩
          · omega
        | none =>
          have go3 := ck_gn hR.2.2.1 (show t + 2 ≤ m by omega) k3 (by decide) (by decide)
          have hv := (hR.2.2.1.2.2 (t + 2) (by omega)).2.2.2.2.2 (tx_ck_none k3).1
          show q_Ct l g 2 mX5_takeDeed _ h (q_tlA K m 10 h (tx_b (tx_ck (tk_T K) 4 (t + 3)) _))
          cases k4 : tx_ck (tk_T K) 4 (t + 3) with
          | some er =>
            refine q_CtV mvX5_takeDeed (Nat.le_of_ble_eq_true rfl) ?_
            refine xe_aload_n dX5_takeDeed_0 rfl ?_
            refine xe_getP dX5_takeDeed_1 flX5_26 (st7 hs) (by decide) rfl hI3 ?_
            refine xe_getIv dX5_takeDeed_4 flX5_84 (st10 hs) (by decide) rfl (v := nI ((ps_d s).length)) (v4) ?_
            refine xe_bipush dX5_takeDeed_7 kb_8 ?_
            refine xn_icmp_lt (tgt := 18) dX5_takeDeed_9 rfl (by omega) (by omega) (fun c1 => ?_) (fun c1 => ?_)
            · refine xe_aload_n dX5_takeDeed_18 rfl ?_
              refine xe_sipush dX5_takeDeed_19 ks_257 ?_
              refine xe_callVI (d' := 0) (y' := mX5_take) dX5_takeDeed_22 mlX5_63 mvX5_take rfl (st7 hs) (by decide) rfl (by decide) (by decide) (Nat.le_of_ble_eq_true rfl) (c_X5_take_t l g _ (by exact hs) (p := 10) (t := t) (by refine ck_R_t (t' := t) hR ?_ ?_ ?_ ?_ (by omega) ?_ ?_ <;> first | exact rfl | exact h4 | exact h5) (k := 21) (by decide) (by decide) (by decide) k1) rfl ?_
              refine xn_if_eq (tgt := 56) dX5_takeDeed_25 rfl (by omega) (fun c2 => ?_) (fun c2 => ?_)
              · omega
              · refine xe_aload_n dX5_takeDeed_28 rfl ?_
                refine xe_aload_n dX5_takeDeed_29 rfl ?_
                refine xe_getP dX5_takeDeed_30 flX5_19 (st7 hs) (by decide) rfl (sp7_1 hs) ?_
                refine xe_aload_n dX5_takeDeed_33 rfl ?_
                refine xe_getP dX5_takeDeed_34 flX5_26 (st7 hs) (by decide) rfl hI3 ?_
                refine xe_getIv dX5_takeDeed_37 flX5_84 (st10 hs) (by decide) rfl (v := nI ((ps_d s).length)) (v4) ?_
                refine xe_callVIq (d' := 1) (y' := mX5_takeNewName) dX5_takeDeed_40 mlX5_122 mvX5_takeNewName rfl (st7 hs) (by decide) rfl (by decide) (by decide) (Nat.le_of_ble_eq_true rfl) (c_X5_takeNewName910_t l g _ (by exact hs) (t := (t + 1)) (by refine ck_R_t (t' := (t + 1)) hR ?_ ?_ ?_ ?_ (by omega) ?_ ?_ <;> first | exact rfl | exact h4 | exact h5) (by exact vE) (nsm := ps_m s) (nsd := ps_d s) (by exact vN8) (by exact vN9) (by exact v3) (by exact v4) (by omega) k2) rfl (fun h3 hq3 => ?_)
                obtain ⟨a3, b3, rfl, hl3⟩ := hq3
                refine xn_if_eq (tgt := 56) dX5_takeDeed_43 rfl (by omega) (fun c4 => ?_) (fun c4 => ?_)
                · omega
                · refine xe_aload_n dX5_takeDeed_46 rfl ?_
                  refine xe_iconst dX5_takeDeed_47 kc_0 ?_
                  refine xe_bipush dX5_takeDeed_48 kb_99 ?_
                  refine xe_callVIq (d' := 1) (y' := mX5_takeInt) dX5_takeDeed_50 mlX5_125 mvX5_takeInt rfl (st7 hs) (by decide) rfl (by decide) (by decide) (Nat.le_of_ble_eq_true rfl) (c_X5_takeInt_t l g _ (by exact hs) (p := 10) (t := (t + 1 + 1)) (by refine ck_R_t (t' := (t + 1 + 1)) hR ?_ ?_ ?_ ?_ (by omega) ?_ ?_ <;> first | exact rfl | exact h4 | exact h5) (by exact hl3) (lo := 0) (hi := 99) (by decide) (by decide) k3) rfl (fun h5 hq5 => ?_)
                  obtain ⟨a5, b5, rfl, hl5⟩ := hq5
                  refine xn_if_ne (tgt := 58) dX5_takeDeed_53 rfl (by omega) (fun c6 => ?_) (fun c6 => ?_)
                  · refine xe_aload_n dX5_takeDeed_58 rfl ?_
                    refine xe_getP dX5_takeDeed_59 flX5_26 (st7 hs) (by decide) rfl hI3 ?_
                    refine xe_getP dX5_takeDeed_62 flX5_132 (st10 hs) (by decide) rfl (sp10_8 hs) ?_
                    refine xe_aload_n dX5_takeDeed_65 rfl ?_
                    refine xe_getP dX5_takeDeed_66 flX5_26 (st7 hs) (by decide) rfl hI3 ?_
                    refine xe_getIv dX5_takeDeed_69 flX5_84 (st10 hs) (by decide) rfl (v := nI ((ps_d s).length)) (v4) ?_
                    refine xe_aload_n dX5_takeDeed_72 rfl ?_
                    refine xe_getIv dX5_takeDeed_73 flX5_70 (st7 hs) (by decide) rfl (v := nI (tk_V K ((t + 1 + 1)))) (rfl) ?_
                    refine xn_iast dX5_takeDeed_76 (st14 hs) (by omega) (by decide) ?_
                    refine xe_aload_n dX5_takeDeed_77 rfl ?_
                    refine xe_getP dX5_takeDeed_78 flX5_26 (st7 hs) (by decide) rfl hI3 ?_
                    refine xe_dup dX5_takeDeed_81 rfl ?_
                    refine xe_getIv dX5_takeDeed_82 flX5_84 (st10 hs) (by decide) rfl (v := nI ((ps_d s).length)) (v4) ?_
                    refine xe_iconst dX5_takeDeed_85 kc_1 ?_
                    refine xn_iadd dX5_takeDeed_86 ?_
                    refine xe_putI dX5_takeDeed_87 flX5_84 (st10 hs) (by decide) rfl (Or.inl rfl) rfl rfl ?_
                    refine xe_aload_n dX5_takeDeed_90 rfl ?_
                    refine xe_bipush dX5_takeDeed_91 kb_59 ?_
                    refine xe_callVI (d' := 0) (y' := mX5_take) dX5_takeDeed_93 mlX5_63 mvX5_take rfl (st7 hs) (by decide) rfl (by decide) (by decide) (Nat.le_of_ble_eq_true rfl) (c_X5_take_f l g _ (by exact hs) (p := 10) (t := (t + 1 + 1 + 1)) (by refine ck_R_t (t' := (t + 1 + 1 + 1)) hR ?_ ?_ ?_ ?_ (by omega) ?_ ?_ <;> first | exact rfl | exact h4 | exact h5) (k := 4) (by decide) (by decide) k4) rfl ?_
                    refine xe_ireturn dX5_takeDeed_96 rfl (by first | rfl | decide +kernel) ?_
                    exact ⟨rfl, (by repeat (first | exact fr_r | refine fr_I (by decide) ?_ | refine fr_J (by decide) ?_)), rfl, rfl⟩
                  · omega
            · omega
          | none =>
            have go4 := ck_gn hR.2.2.1 (show t + 3 ≤ m by omega) k4 (by decide) (by decide)
            refine q_CtV mvX5_takeDeed (Nat.le_of_ble_eq_true rfl) ?_
            refine xe_aload_n dX5_takeDeed_0 rfl ?_
            refine xe_getP dX5_takeDeed_1 flX5_26 (st7 hs) (by decide) rfl hI3 ?_
            refine xe_getIv dX5_takeDeed_4 flX5_84 (st10 hs) (by decide) rfl (v := nI ((ps_d s).length)) (v4) ?_
            refine xe_bipush dX5_takeDeed_7 kb_8 ?_
            refine xn_icmp_lt (tgt := 18) dX5_takeDeed_9 rfl (by omega) (by omega) (fun c1 => ?_) (fun c1 => ?_)
            · refine xe_aload_n dX5_takeDeed_18 rfl ?_
              refine xe_sipush dX5_takeDeed_19 ks_257 ?_
              refine xe_callVI (d' := 0) (y' := mX5_take) dX5_takeDeed_22 mlX5_63 mvX5_take rfl (st7 hs) (by decide) rfl (by decide) (by decide) (Nat.le_of_ble_eq_true rfl) (c_X5_take_t l g _ (by exact hs) (p := 10) (t := t) (by refine ck_R_t (t' := t) hR ?_ ?_ ?_ ?_ (by omega) ?_ ?_ <;> first | exact rfl | exact h4 | exact h5) (k := 21) (by decide) (by decide) (by decide) k1) rfl ?_
              refine xn_if_eq (tgt := 56) dX5_takeDeed_25 rfl (by omega) (fun c2 => ?_) (fun c2 => ?_)
              · omega
              · refine xe_aload_n dX5_takeDeed_28 rfl ?_
                refine xe_aload_n dX5_takeDeed_29 rfl ?_
                refine xe_getP dX5_takeDeed_30 flX5_19 (st7 hs) (by decide) rfl (sp7_1 hs) ?_
                refine xe_aload_n dX5_takeDeed_33 rfl ?_
                refine xe_getP dX5_takeDeed_34 flX5_26 (st7 hs) (by decide) rfl hI3 ?_
                refine xe_getIv dX5_takeDeed_37 flX5_84 (st10 hs) (by decide) rfl (v := nI ((ps_d s).length)) (v4) ?_
                refine xe_callVIq (d' := 1) (y' := mX5_takeNewName) dX5_takeDeed_40 mlX5_122 mvX5_takeNewName rfl (st7 hs) (by decide) rfl (by decide) (by decide) (Nat.le_of_ble_eq_true rfl) (c_X5_takeNewName910_t l g _ (by exact hs) (t := (t + 1)) (by refine ck_R_t (t' := (t + 1)) hR ?_ ?_ ?_ ?_ (by omega) ?_ ?_ <;> first | exact rfl | exact h4 | exact h5) (by exact vE) (nsm := ps_m s) (nsd := ps_d s) (by exact vN8) (by exact vN9) (by exact v3) (by exact v4) (by omega) k2) rfl (fun h3 hq3 => ?_)
                obtain ⟨a3, b3, rfl, hl3⟩ := hq3
                refine xn_if_eq (tgt := 56) dX5_takeDeed_43 rfl (by omega) (fun c4 => ?_) (fun c4 => ?_)
                · omega
                · refine xe_aload_n dX5_takeDeed_46 rfl ?_
                  refine xe_iconst dX5_takeDeed_47 kc_0 ?_
                  refine xe_bipush dX5_takeDeed_48 kb_99 ?_
                  refine xe_callVIq (d' := 1) (y' := mX5_takeInt) dX5_takeDeed_50 mlX5_125 mvX5_takeInt rfl (st7 hs) (by decide) rfl (by decide) (by decide) (Nat.le_of_ble_eq_true rfl) (c_X5_takeInt_t l g _ (by exact hs) (p := 10) (t := (t + 1 + 1)) (by refine ck_R_t (t' := (t + 1 + 1)) hR ?_ ?_ ?_ ?_ (by omega) ?_ ?_ <;> first | exact rfl | exact h4 | exact h5) (by exact hl3) (lo := 0) (hi := 99) (by decide) (by decide) k3) rfl (fun h5 hq5 => ?_)
                  obtain ⟨a5, b5, rfl, hl5⟩ := hq5
                  refine xn_if_ne (tgt := 58) dX5_takeDeed_53 rfl (by omega) (fun c6 => ?_) (fun c6 => ?_)
                  · refine xe_aload_n dX5_takeDeed_58 rfl ?_
                    refine xe_getP dX5_takeDeed_59 flX5_26 (st7 hs) (by decide) rfl hI3 ?_
                    refine xe_getP dX5_takeDeed_62 flX5_132 (st10 hs) (by decide) rfl (sp10_8 hs) ?_
                    refine xe_aload_n dX5_takeDeed_65 rfl ?_
                    refine xe_getP dX5_takeDeed_66 flX5_26 (st7 hs) (by decide) rfl hI3 ?_
                    refine xe_getIv dX5_takeDeed_69 flX5_84 (st10 hs) (by decide) rfl (v := nI ((ps_d s).length)) (v4) ?_
                    refine xe_aload_n dX5_takeDeed_72 rfl ?_
                    refine xe_getIv dX5_takeDeed_73 flX5_70 (st7 hs) (by decide) rfl (v := nI (tk_V K ((t + 1 + 1)))) (rfl) ?_
                    refine xn_iast dX5_takeDeed_76 (st14 hs) (by omega) (by decide) ?_
                    refine xe_aload_n dX5_takeDeed_77 rfl ?_
                    refine xe_getP dX5_takeDeed_78 flX5_26 (st7 hs) (by decide) rfl hI3 ?_
                    refine xe_dup dX5_takeDeed_81 rfl ?_
                    refine xe_getIv dX5_takeDeed_82 flX5_84 (st10 hs) (by decide) rfl (v := nI ((ps_d s).length)) (v4) ?_
                    refine xe_iconst dX5_takeDeed_85 kc_1 ?_
                    refine xn_iadd dX5_takeDeed_86 ?_
                    refine xe_putI dX5_takeDeed_87 flX5_84 (st10 hs) (by decide) rfl (Or.inl rfl) rfl rfl ?_
                    refine xe_aload_n dX5_takeDeed_90 rfl ?_
                    refine xe_bipush dX5_takeDeed_91 kb_59 ?_
                    refine xe_callVI (d' := 0) (y' := mX5_take) dX5_takeDeed_93 mlX5_63 mvX5_take rfl (st7 hs) (by decide) rfl (by decide) (by decide) (Nat.le_of_ble_eq_true rfl) (c_X5_take_t l g _ (by exact hs) (p := 10) (t := (t + 1 + 1 + 1)) (by refine ck_R_t (t' := (t + 1 + 1 + 1)) hR ?_ ?_ ?_ ?_ (by omega) ?_ ?_ <;> first | exact rfl | exact h4 | exact h5) (k := 4) (by decide) (by decide) (by decide) k4) rfl ?_
                    refine xe_ireturn dX5_takeDeed_96 rfl (by first | rfl | decide +kernel) ?_
                    rw [show decide (tk_V K (t + 1 + 1) < 0 ∨ 99 < tk_V K (t + 1 + 1)) = decide (99 < tk_V K (t + 2)) from decide_eq_decide.mpr ⟨fun q => q.elim (fun z => absurd z (Nat.not_lt_zero _)) id, Or.inr⟩] at hl5
                    refine ⟨rfl, (by repeat (first | exact fr_r | refine fr_I (by decide) ?_ | refine fr_J (by decide) ?_)), by show t + 4 ≤ m; omega, rfl, rfl, n, by show n ≤ 10 + (t + 4); omega, ?_⟩
                    exact v_deed10 hV (by omega) hx.2 (by intro r a1 a2 a3; repeat (first | exact rfl | refine (q_Ine (by assumption)).trans ?_)) (fun j hj => pk_un hj) rfl rfl rfl rfl hl5 v7
                  · omega
            · omega
theorem c_X5_takeMoult10 (l : Launch) (g : q_GP) (h : q_H) (hs : q_Stat h) {K : q_TK} {m t n : Nat} {s : q_PS} (hR : ck_R h K m 10 t) (hV : ck_V h K 10 n s) (hnt : n ≤ 10 + t) : q_Ct l g 2 mX5_takeMoult [.ref 7] h (q_tlA K m 10 h (tx_moult K s t)) := by
  have hI2 := hR.1
  have hI3 := hR.2.1
  have h4 := hR.2.2.2.2.1
  have h5 := hR.2.2.2.2.2
  have h4m := hR.2.2.1.1
  have htm := hR.2.2.2.1
  obtain ⟨v2, v3, v4, v5, v6, v6b, vf, vg, vc, vF, vG, vC, vL, vN8, vN9, vE, v7⟩ := id hV
  have l8 := vN8.1
  have l9 := vN9.1
  unfold tx_moult
  cases k1 : tx_ck (tk_T K) 27 t with
  | some er =>
    refine q_CtV mvX5_takeMoult (Nat.le_of_ble_eq_true rfl) ?_
    refine xe_aload_n dX5_takeMoult_0 rfl ?_
    refine xe_sipush dX5_takeMoult_1 ks_263 ?_
    refine xe_callVI (d' := 0) (y' := mX5_take) dX5_takeMoult_4 mlX5_63 mvX5_take rfl (st7 hs) (by decide) rfl (by decide) (by decide) (Nat.le_of_ble_eq_true rfl) (c_X5_take_f l g _ (by exact hs) (p := 10) (t := t) (by refine ck_R_t (t' := t) hR ?_ ?_ ?_ ?_ (by omega) ?_ ?_ <;> first | exact rfl | exact h4 | exact h5) (k := 27) (by decide) (by decide) k1) rfl ?_
    refine xn_if_eq (tgt := 20) dX5_takeMoult_7 rfl (by omega) (fun c1 => ?_) (fun c1 => ?_)
    · refine xe_iconst dX5_takeMoult_20 kc_0 ?_
      refine xe_ireturn dX5_takeMoult_21 rfl (by first | rfl | decide +kernel) ?_
      exact ⟨rfl, (by repeat (first | exact fr_r | refine fr_I (by decide) ?_ | refine fr_J (by decide) ?_)), rfl, rfl⟩
    · omega
  | none =>
    have go1 := ck_gn hR.2.2.1 (show t ≤ m by omega) k1 (by decide) (by decide)
    show q_Ct l g 2 mX5_takeMoult _ h (q_tlA K m 10 h (tx_b (tx_ck (tk_T K) 2 (t + 1)) _))
    cases k2 : tx_ck (tk_T K) 2 (t + 1) with
    | some er =>
      refine q_CtV mvX5_takeMoult (Nat.le_of_ble_eq_true rfl) ?_
      refine xe_aload_n dX5_takeMoult_0 rfl ?_
      refine xe_sipush dX5_takeMoult_1 ks_263 ?_
      refine xe_callVI (d' := 0) (y' := mX5_take) dX5_takeMoult_4 mlX5_63 mvX5_take rfl (st7 hs) (by decide) rfl (by decide) (by decide) (Nat.le_of_ble_eq_true rfl) (c_X5_take_t l g _ (by exact hs) (p := 10) (t := t) (by refine ck_R_t (t' := t) hR ?_ ?_ ?_ ?_ (by omega) ?_ ?_ <;> first | exact rfl | exact h4 | exact h5) (k := 27) (by decide) (by decide) (by decide) k1) rfl ?_
      refine xn_if_eq (tgt := 20) dX5_takeMoult_7 rfl (by omega) (fun c1 => ?_) (fun c1 => ?_)
      · omega
      · refine xe_aload_n dX5_takeMoult_10 rfl ?_
        refine xe_iconst dX5_takeMoult_11 kc_1 ?_
        refine xe_bipush dX5_takeMoult_12 kb_99 ?_
        refine xe_callVI (d' := 1) (y' := mX5_takeInt) dX5_takeMoult_14 mlX5_125 mvX5_takeInt rfl (st7 hs) (by decide) rfl (by decide) (by decide) (Nat.le_of_ble_eq_true rfl) (c_X5_takeInt_f l g _ (by exact hs) (p := 10) (t := (t + 1)) (by refine ck_R_t (t' := (t + 1)) hR ?_ ?_ ?_ ?_ (by omega) ?_ ?_ <;> first | exact rfl | exact h4 | exact h5) k2 _ _) rfl ?_
        refine xn_if_ne (tgt := 22) dX5_takeMoult_17 rfl (by omega) (fun c2 => ?_) (fun c2 => ?_)
        · omega
        · refine xe_iconst dX5_takeMoult_20 kc_0 ?_
          refine xe_ireturn dX5_takeMoult_21 rfl (by first | rfl | decide +kernel) ?_
          exact ⟨rfl, (by repeat (first | exact fr_r | refine fr_I (by decide) ?_ | refine fr_J (by decide) ?_)), rfl, rfl⟩
    | none =>
      have go2 := ck_gn hR.2.2.1 (show t + 1 ≤ m by omega) k2 (by decide) (by decide)
      have hv := (hR.2.2.1.2.2 (t + 1) (by omega)).2.2.2.2.2 (tx_ck_none k2).1
      show q_Ct l g 2 mX5_takeMoult _ h (q_tlA K m 10 h (tx_b (tx_ck (tk_T K) 4 (t + 2)) _))
      cases k3 : tx_ck (tk_T K) 4 (t + 2) with
      | some er =>
        refine q_CtV mvX5_takeMoult (Nat.le_of_ble_eq_true rfl) ?_
        refine xe_aload_n dX5_takeMoult_0 rfl ?_
        refine xe_sipush dX5_takeMoult_1 ks_263 ?_
        refine xe_callVI (d' := 0) (y' := mX5_take) dX5_takeMoult_4 mlX5_63 mvX5_take rfl (st7 hs) (by decide) rfl (by decide) (by decide) (Nat.le_of_ble_eq_true rfl) (c_X5_take_t l g _ (by exact hs) (p := 10) (t := t) (by refine ck_R_t (t' := t) hR ?_ ?_ ?_ ?_ (by omega) ?_ ?_ <;> first | exact rfl | exact h4 | exact h5) (k := 27) (by decide) (by decide) (by decide) k1) rfl ?_
        refine xn_if_eq (tgt := 20) dX5_takeMoult_7 rfl (by omega) (fun c1 => ?_) (fun c1 => ?_)
        · omega
        · refine xe_aload_n dX5_takeMoult_10 rfl ?_
          refine xe_iconst dX5_takeMoult_11 kc_1 ?_
          refine xe_bipush dX5_takeMoult_12 kb_99 ?_
          refine xe_callVIq (d' := 1) (y' := mX5_takeInt) dX5_takeMoult_14 mlX5_125 mvX5_takeInt rfl (st7 hs) (by decide) rfl (by decide) (by decide) (Nat.le_of_ble_eq_true rfl) (c_X5_takeInt_t l g _ (by exact hs) (p := 10) (t := (t + 1)) (by refine ck_R_t (t' := (t + 1)) hR ?_ ?_ ?_ ?_ (by omega) ?_ ?_ <;> first | exact rfl | exact h4 | exact h5) (by exact vE) (lo := 1) (hi := 99) (by decide) (by decide) k2) rfl (fun h2 hq2 => ?_)
          obtain ⟨a2, b2, rfl, hl2⟩ := hq2
          refine xn_if_ne (tgt := 22) dX5_takeMoult_17 rfl (by omega) (fun c3 => ?_) (fun c3 => ?_)
          · refine xe_aload_n dX5_takeMoult_22 rfl ?_
            refine xe_getP dX5_takeMoult_23 flX5_26 (st7 hs) (by decide) rfl hI3 ?_
            refine xe_aload_n dX5_takeMoult_26 rfl ?_
            refine xe_getIv dX5_takeMoult_27 flX5_70 (st7 hs) (by decide) rfl (v := nI (tk_V K ((t + 1)))) (rfl) ?_
            refine xe_putI dX5_takeMoult_30 flX5_141 (st10 hs) (by decide) rfl (Or.inl rfl) rfl rfl ?_
            refine xe_aload_n dX5_takeMoult_33 rfl ?_
            refine xe_bipush dX5_takeMoult_34 kb_59 ?_
            refine xe_callVI (d' := 0) (y' := mX5_take) dX5_takeMoult_36 mlX5_63 mvX5_take rfl (st7 hs) (by decide) rfl (by decide) (by decide) (Nat.le_of_ble_eq_true rfl) (c_X5_take_f l g _ (by exact hs) (p := 10) (t := (t + 1 + 1)) (by refine ck_R_t (t' := (t + 1 + 1)) hR ?_ ?_ ?_ ?_ (by omega) ?_ ?_ <;> first | exact rfl | exact h4 | exact h5) (k := 4) (by decide) (by decide) k3) rfl ?_
            refine xe_ireturn dX5_takeMoult_39 rfl (by first | rfl | decide +kernel) ?_
            exact ⟨rfl, (by repeat (first | exact fr_r | refine fr_I (by decide) ?_ | refine fr_J (by decide) ?_)), rfl, rfl⟩
          · omega
      | none =>
        have go3 := ck_gn hR.2.2.1 (show t + 2 ≤ m by omega) k3 (by decide) (by decide)
        refine q_CtV mvX5_takeMoult (Nat.le_of_ble_eq_true rfl) ?_
        refine xe_aload_n dX5_takeMoult_0 rfl ?_
        refine xe_sipush dX5_takeMoult_1 ks_263 ?_
        refine xe_callVI (d' := 0) (y' := mX5_take) dX5_takeMoult_4 mlX5_63 mvX5_take rfl (st7 hs) (by decide) rfl (by decide) (by decide) (Nat.le_of_ble_eq_true rfl) (c_X5_take_t l g _ (by exact hs) (p := 10) (t := t) (by refine ck_R_t (t' := t) hR ?_ ?_ ?_ ?_ (by omega) ?_ ?_ <;> first | exact rfl | exact h4 | exact h5) (k := 27) (by decide) (by decide) (by decide) k1) rfl ?_
        refine xn_if_eq (tgt := 20) dX5_takeMoult_7 rfl (by omega) (fun c1 => ?_) (fun c1 => ?_)
        · omega
        · refine xe_aload_n dX5_takeMoult_10 rfl ?_
          refine xe_iconst dX5_takeMoult_11 kc_1 ?_
          refine xe_bipush dX5_takeMoult_12 kb_99 ?_
          refine xe_callVIq (d' := 1) (y' := mX5_takeInt) dX5_takeMoult_14 mlX5_125 mvX5_takeInt rfl (st7 hs) (by decide) rfl (by decide) (by decide) (Nat.le_of_ble_eq_true rfl) (c_X5_takeInt_t l g _ (by exact hs) (p := 10) (t := (t + 1)) (by refine ck_R_t (t' := (t + 1)) hR ?_ ?_ ?_ ?_ (by omega) ?_ ?_ <;> first | exact rfl | exact h4 | exact h5) (by exact vE) (lo := 1) (hi := 99) (by decide) (by decide) k2) rfl (fun h2 hq2 => ?_)
          obtain ⟨a2, b2, rfl, hl2⟩ := hq2
          refine xn_if_ne (tgt := 22) dX5_takeMoult_17 rfl (by omega) (fun c3 => ?_) (fun c3 => ?_)
          · refine xe_aload_n dX5_takeMoult_22 rfl ?_
            refine xe_getP dX5_takeMoult_23 flX5_26 (st7 hs) (by decide) rfl hI3 ?_
            refine xe_aload_n dX5_takeMoult_26 rfl ?_
            refine xe_getIv dX5_takeMoult_27 flX5_70 (st7 hs) (by decide) rfl (v := nI (tk_V K ((t + 1)))) (rfl) ?_
            refine xe_putI dX5_takeMoult_30 flX5_141 (st10 hs) (by decide) rfl (Or.inl rfl) rfl rfl ?_
            refine xe_aload_n dX5_takeMoult_33 rfl ?_
            refine xe_bipush dX5_takeMoult_34 kb_59 ?_
            refine xe_callVI (d' := 0) (y' := mX5_take) dX5_takeMoult_36 mlX5_63 mvX5_take rfl (st7 hs) (by decide) rfl (by decide) (by decide) (Nat.le_of_ble_eq_true rfl) (c_X5_take_t l g _ (by exact hs) (p := 10) (t := (t + 1 + 1)) (by refine ck_R_t (t' := (t + 1 + 1)) hR ?_ ?_ ?_ ?_ (by omega) ?_ ?_ <;> first | exact rfl | exact h4 | exact h5) (k := 4) (by decide) (by decide) (by decide) k3) rfl ?_
            refine xe_ireturn dX5_takeMoult_39 rfl (by first | rfl | decide +kernel) ?_
            refine ⟨rfl, (by repeat (first | exact fr_r | refine fr_I (by decide) ?_ | refine fr_J (by decide) ?_)), by show t + 3 ≤ m; omega, rfl, rfl, n, by show n ≤ 10 + (t + 3); omega, ?_⟩
            exact v_moult10 hV hv.2 (by intro r a1 a2; repeat (first | exact rfl | refine (q_Ine (by assumption)).trans ?_)) (fun j hj => pk_un hj) rfl rfl hl2 v7
          · omega
theorem c_X5_takeMan22 (l : Launch) (g : q_GP) (h : q_H) (hs : q_Stat h) {K : q_TK} {m t n : Nat} {s : q_PS} (hR : ck_R h K m 22 t) (hV : ck_V h K 22 n s) (hnt : n ≤ 10 + t) : q_Ct l g 2 mX5_takeMan [.ref 7] h (q_tlA K m 22 h (tx_man K s t)) := by
  have hI2 := hR.1
  have hI3 := hR.2.1
  have h4 := hR.2.2.2.2.1
  have h5 := hR.2.2.2.2.2
  have h4m := hR.2.2.1.1
  have htm := hR.2.2.2.1
  obtain ⟨v2, v3, v4, v5, v6, v6b, vf, vg, vc, vF, vG, vC, vL, vN8, vN9, vE, v7⟩ := id hV
  have l8 := vN8.1
  have l9 := vN9.1
  unfold tx_man
  by_cases hl : 8 ≤ (ps_m s).length
  · rw [if_pos hl]
    refine q_CtV mvX5_takeMan (Nat.le_of_ble_eq_true rfl) ?_
    refine xe_aload_n dX5_takeMan_0 rfl ?_
    refine xe_getP dX5_takeMan_1 flX5_26 (st7 hs) (by decide) rfl hI3 ?_
    refine xe_getIv dX5_takeMan_4 flX5_77 (st22 hs) (by decide) rfl (v := nI ((ps_m s).length)) (v3) ?_
    refine xe_bipush dX5_takeMan_7 kb_8 ?_
    refine xn_icmp_lt (tgt := 18) dX5_takeMan_9 rfl (by omega) (by omega) (fun c1 => ?_) (fun c1 => ?_)
    · omega
    · refine xe_aload_n dX5_takeMan_12 rfl ?_
      refine xe_iconst dX5_takeMan_13 kc_2 ?_
      refine xe_callVI (d' := 0) (y' := mX5_fail) dX5_takeMan_14 mlX5_119 mvX5_fail rfl (st7 hs) (by decide) rfl (by decide) (by decide) (Nat.le_of_ble_eq_true rfl) (c_X5_fail l g _ (by exact hs) (p := 22) (t := t) (by refine ck_R_t (t' := t) hR ?_ ?_ ?_ ?_ (by omega) ?_ ?_ <;> first | exact rfl | exact h4 | exact h5) _) rfl ?_
      refine xe_ireturn dX5_takeMan_17 rfl (by first | rfl | decide +kernel) ?_
      exact ⟨rfl, (by repeat (first | exact fr_r | refine fr_I (by decide) ?_ | refine fr_J (by decide) ?_)), rfl, rfl⟩
  · rw [if_neg hl]
    cases k1 : tx_ck (tk_T K) 20 t with
    | some er =>
      refine q_CtV mvX5_takeMan (Nat.le_of_ble_eq_true rfl) ?_
      refine xe_aload_n dX5_takeMan_0 rfl ?_
      refine xe_getP dX5_takeMan_1 flX5_26 (st7 hs) (by decide) rfl hI3 ?_
      refine xe_getIv dX5_takeMan_4 flX5_77 (st22 hs) (by decide) rfl (v := nI ((ps_m s).length)) (v3) ?_
      refine xe_bipush dX5_takeMan_7 kb_8 ?_
      refine xn_icmp_lt (tgt := 18) dX5_takeMan_9 rfl (by omega) (by omega) (fun c1 => ?_) (fun c1 => ?_)
      · refine xe_aload_n dX5_takeMan_18 rfl ?_
        refine xe_sipush dX5_takeMan_19 ks_256 ?_
        refine xe_callVI (d' := 0) (y' := mX5_take) dX5_takeMan_22 mlX5_63 mvX5_take rfl (st7 hs) (by decide) rfl (by decide) (by decide) (Nat.le_of_ble_eq_true rfl) (c_X5_take_f l g _ (by exact hs) (p := 22) (t := t) (by refine ck_R_t (t' := t) hR ?_ ?_ ?_ ?_ (by omega) ?_ ?_ <;> first | exact rfl | exact h4 | exact h5) (k := 20) (by decide) (by decide) k1) rfl ?_
        refine xn_if_eq (tgt := 57) dX5_takeMan_25 rfl (by omega) (fun c2 => ?_) (fun c2 => ?_)
        · refine xe_iconst dX5_takeMan_57 kc_0 ?_
          refine xe_ireturn dX5_takeMan_58 rfl (by first | rfl | decide +kernel) ?_
          exact ⟨rfl, (by repeat (first | exact fr_r | refine fr_I (by decide) ?_ | refine fr_J (by decide) ?_)), rfl, rfl⟩
        · omega
      · omega
    | none =>
      have go1 := ck_gn hR.2.2.1 (show t ≤ m by omega) k1 (by decide) (by decide)
      show q_Ct l g 2 mX5_takeMan _ h (q_tlA K m 22 h (tx_b (tx_ck (tk_T K) 1 (t + 1)) _))
      cases k2 : tx_ck (tk_T K) 1 (t + 1) with
      | some er =>
        refine q_CtV mvX5_takeMan (Nat.le_of_ble_eq_true rfl) ?_
        refine xe_aload_n dX5_takeMan_0 rfl ?_
        refine xe_getP dX5_takeMan_1 flX5_26 (st7 hs) (by decide) rfl hI3 ?_
        refine xe_getIv dX5_takeMan_4 flX5_77 (st22 hs) (by decide) rfl (v := nI ((ps_m s).length)) (v3) ?_
        refine xe_bipush dX5_takeMan_7 kb_8 ?_
        refine xn_icmp_lt (tgt := 18) dX5_takeMan_9 rfl (by omega) (by omega) (fun c1 => ?_) (fun c1 => ?_)
        · refine xe_aload_n dX5_takeMan_18 rfl ?_
          refine xe_sipush dX5_takeMan_19 ks_256 ?_
          refine xe_callVI (d' := 0) (y' := mX5_take) dX5_takeMan_22 mlX5_63 mvX5_take rfl (st7 hs) (by decide) rfl (by decide) (by decide) (Nat.le_of_ble_eq_true rfl) (c_X5_take_t l g _ (by exact hs) (p := 22) (t := t) (by refine ck_R_t (t' := t) hR ?_ ?_ ?_ ?_ (by omega) ?_ ?_ <;> first | exact rfl | exact h4 | exact h5) (k := 20) (by decide) (by decide) (by decide) k1) rfl ?_
          refine xn_if_eq (tgt := 57) dX5_takeMan_25 rfl (by omega) (fun c2 => ?_) (fun c2 => ?_)
          · omega
          · refine xe_aload_n dX5_takeMan_28 rfl ?_
            refine xe_aload_n dX5_takeMan_29 rfl ?_
            refine xe_getP dX5_takeMan_30 flX5_15 (st7 hs) (by decide) rfl (sp7_0 hs) ?_
            refine xe_aload_n dX5_takeMan_33 rfl ?_
            refine xe_getP dX5_takeMan_34 flX5_26 (st7 hs) (by decide) rfl hI3 ?_
            refine xe_getIv dX5_takeMan_37 flX5_77 (st22 hs) (by decide) rfl (v := nI ((ps_m s).length)) (v3) ?_
            refine xe_callVI (d' := 1) (y' := mX5_takeNewName) dX5_takeMan_40 mlX5_122 mvX5_takeNewName rfl (st7 hs) (by decide) rfl (by decide) (by decide) (Nat.le_of_ble_eq_true rfl) (c_X5_takeNewName_f l g _ (by exact hs) (p := 22) (t := (t + 1)) (by refine ck_R_t (t' := (t + 1)) hR ?_ ?_ ?_ ?_ (by omega) ?_ ?_ <;> first | exact rfl | exact h4 | exact h5) k2 _ _) rfl ?_
            refine xn_if_eq (tgt := 57) dX5_takeMan_43 rfl (by omega) (fun c3 => ?_) (fun c3 => ?_)
            · refine xe_iconst dX5_takeMan_57 kc_0 ?_
              refine xe_ireturn dX5_takeMan_58 rfl (by first | rfl | decide +kernel) ?_
              exact ⟨rfl, (by repeat (first | exact fr_r | refine fr_I (by decide) ?_ | refine fr_J (by decide) ?_)), rfl, rfl⟩
            · omega
        · omega
      | none =>
        have go2 := ck_gn hR.2.2.1 (show t + 1 ≤ m by omega) k2 (by decide) (by decide)
        have hx := (hR.2.2.1.2.2 (t + 1) (by omega)).2.2.2.2.1 (tx_ck_none k2).1
        show q_Ct l g 2 mX5_takeMan _ h (q_tlA K m 22 h (tx_b (tx_ck (tk_T K) 2 (t + 2)) _))
        cases k3 : tx_ck (tk_T K) 2 (t + 2) with
        | some er =>
          refine q_CtV mvX5_takeMan (Nat.le_of_ble_eq_true rfl) ?_
          refine xe_aload_n dX5_takeMan_0 rfl ?_
          refine xe_getP dX5_takeMan_1 flX5_26 (st7 hs) (by decide) rfl hI3 ?_
          refine xe_getIv dX5_takeMan_4 flX5_77 (st22 hs) (by decide) rfl (v := nI ((ps_m s).length)) (v3) ?_
          refine xe_bipush dX5_takeMan_7 kb_8 ?_
          refine xn_icmp_lt (tgt := 18) dX5_takeMan_9 rfl (by omega) (by omega) (fun c1 => ?_) (fun c1 => ?_)
          · refine xe_aload_n dX5_takeMan_18 rfl ?_
            refine xe_sipush dX5_takeMan_19 ks_256 ?_
            refine xe_callVI (d' := 0) (y' := mX5_take) dX5_takeMan_22 mlX5_63 mvX5_take rfl (st7 hs) (by decide) rfl (by decide) (by decide) (Nat.le_of_ble_eq_true rfl) (c_X5_take_t l g _ (by exact hs) (p := 22) (t := t) (by refine ck_R_t (t' := t) hR ?_ ?_ ?_ ?_ (by omega) ?_ ?_ <;> first | exact rfl | exact h4 | exact h5) (k := 20) (by decide) (by decide) (by decide) k1) rfl ?_
            refine xn_if_eq (tgt := 57) dX5_takeMan_25 rfl (by omega) (fun c2 => ?_) (fun c2 => ?_)
            · omega
            · refine xe_aload_n dX5_takeMan_28 rfl ?_
              refine xe_aload_n dX5_takeMan_29 rfl ?_
              refine xe_getP dX5_takeMan_30 flX5_15 (st7 hs) (by decide) rfl (sp7_0 hs) ?_
              refine xe_aload_n dX5_takeMan_33 rfl ?_
              refine xe_getP dX5_takeMan_34 flX5_26 (st7 hs) (by decide) rfl hI3 ?_
              refine xe_getIv dX5_takeMan_37 flX5_77 (st22 hs) (by decide) rfl (v := nI ((ps_m s).length)) (v3) ?_
              refine xe_callVIq (d' := 1) (y' := mX5_takeNewName) dX5_takeMan_40 mlX5_122 mvX5_takeNewName rfl (st7 hs) (by decide) rfl (by decide) (by decide) (Nat.le_of_ble_eq_true rfl) (c_X5_takeNewName822_t l g _ (by exact hs) (t := (t + 1)) (by refine ck_R_t (t' := (t + 1)) hR ?_ ?_ ?_ ?_ (by omega) ?_ ?_ <;> first | exact rfl | exact h4 | exact h5) (by exact vE) (nsm := ps_m s) (nsd := ps_d s) (by exact vN8) (by exact vN9) (by exact v3) (by exact v4) (by omega) k2) rfl (fun h3 hq3 => ?_)
              obtain ⟨a3, b3, rfl, hl3⟩ := hq3
              refine xn_if_eq (tgt := 57) dX5_takeMan_43 rfl (by omega) (fun c4 => ?_) (fun c4 => ?_)
              · omega
              · refine xe_aload_n dX5_takeMan_46 rfl ?_
                refine xe_iconst dX5_takeMan_47 kc_0 ?_
                refine xe_sipush dX5_takeMan_48 ks_999 ?_
                refine xe_callVI (d' := 1) (y' := mX5_takeInt) dX5_takeMan_51 mlX5_125 mvX5_takeInt rfl (st7 hs) (by decide) rfl (by decide) (by decide) (Nat.le_of_ble_eq_true rfl) (c_X5_takeInt_f l g _ (by exact hs) (p := 22) (t := (t + 1 + 1)) (by refine ck_R_t (t' := (t + 1 + 1)) hR ?_ ?_ ?_ ?_ (by omega) ?_ ?_ <;> first | exact rfl | exact h4 | exact h5) k3 _ _) rfl ?_
                refine xn_if_ne (tgt := 59) dX5_takeMan_54 rfl (by omega) (fun c5 => ?_) (fun c5 => ?_)
                · omega
                · refine xe_iconst dX5_takeMan_57 kc_0 ?_
                  refine xe_ireturn dX5_takeMan_58 rfl (by first | rfl | decide +kernel) ?_
                  exact ⟨rfl, (by repeat (first | exact fr_r | refine fr_I (by decide) ?_ | refine fr_J (by decide) ?_)), rfl, rfl⟩
          · omega
        | none =>
          have go3 := ck_gn hR.2.2.1 (show t + 2 ≤ m by omega) k3 (by decide) (by decide)
          have hv := (hR.2.2.1.2.2 (t + 2) (by omega)).2.2.2.2.2 (tx_ck_none k3).1
          show q_Ct l g 2 mX5_takeMan _ h (q_tlA K m 22 h (tx_b (tx_ck (tk_T K) 4 (t + 3)) _))
          cases k4 : tx_ck (tk_T K) 4 (t + 3) with
          | some er =>
            refine q_CtV mvX5_takeMan (Nat.le_of_ble_eq_true rfl) ?_
            refine xe_aload_n dX5_takeMan_0 rfl ?_
            refine xe_getP dX5_takeMan_1 flX5_26 (st7 hs) (by decide) rfl hI3 ?_
            refine xe_getIv dX5_takeMan_4 flX5_77 (st22 hs) (by decide) rfl (v := nI ((ps_m s).length)) (v3) ?_
            refine xe_bipush dX5_takeMan_7 kb_8 ?_
            refine xn_icmp_lt (tgt := 18) dX5_takeMan_9 rfl (by omega) (by omega) (fun c1 => ?_) (fun c1 => ?_)
            · refine xe_aload_n dX5_takeMan_18 rfl ?_
              refine xe_sipush dX5_takeMan_19 ks_256 ?_
              refine xe_callVI (d' := 0) (y' := mX5_take) dX5_takeMan_22 mlX5_63 mvX5_take rfl (st7 hs) (by decide) rfl (by decide) (by decide) (Nat.le_of_ble_eq_true rfl) (c_X5_take_t l g _ (by exact hs) (p := 22) (t := t) (by refine ck_R_t (t' := t) hR ?_ ?_ ?_ ?_ (by omega) ?_ ?_ <;> first | exact rfl | exact h4 | exact h5) (k := 20) (by decide) (by decide) (by decide) k1) rfl ?_
              refine xn_if_eq (tgt := 57) dX5_takeMan_25 rfl (by omega) (fun c2 => ?_) (fun c2 => ?_)
              · omega
              · refine xe_aload_n dX5_takeMan_28 rfl ?_
                refine xe_aload_n dX5_takeMan_29 rfl ?_
                refine xe_getP dX5_takeMan_30 flX5_15 (st7 hs) (by decide) rfl (sp7_0 hs) ?_
                refine xe_aload_n dX5_takeMan_33 rfl ?_
                refine xe_getP dX5_takeMan_34 flX5_26 (st7 hs) (by decide) rfl hI3 ?_
                refine xe_getIv dX5_takeMan_37 flX5_77 (st22 hs) (by decide) rfl (v := nI ((ps_m s).length)) (v3) ?_
                refine xe_callVIq (d' := 1) (y' := mX5_takeNewName) dX5_takeMan_40 mlX5_122 mvX5_takeNewName rfl (st7 hs) (by decide) rfl (by decide) (by decide) (Nat.le_of_ble_eq_true rfl) (c_X5_takeNewName822_t l g _ (by exact hs) (t := (t + 1)) (by refine ck_R_t (t' := (t + 1)) hR ?_ ?_ ?_ ?_ (by omega) ?_ ?_ <;> first | exact rfl | exact h4 | exact h5) (by exact vE) (nsm := ps_m s) (nsd := ps_d s) (by exact vN8) (by exact vN9) (by exact v3) (by exact v4) (by omega) k2) rfl (fun h3 hq3 => ?_)
                obtain ⟨a3, b3, rfl, hl3⟩ := hq3
                refine xn_if_eq (tgt := 57) dX5_takeMan_43 rfl (by omega) (fun c4 => ?_) (fun c4 => ?_)
                · omega
                · refine xe_aload_n dX5_takeMan_46 rfl ?_
                  refine xe_iconst dX5_takeMan_47 kc_0 ?_
                  refine xe_sipush dX5_takeMan_48 ks_999 ?_
                  refine xe_callVIq (d' := 1) (y' := mX5_takeInt) dX5_takeMan_51 mlX5_125 mvX5_takeInt rfl (st7 hs) (by decide) rfl (by decide) (by decide) (Nat.le_of_ble_eq_true rfl) (c_X5_takeInt_t l g _ (by exact hs) (p := 22) (t := (t + 1 + 1)) (by refine ck_R_t (t' := (t + 1 + 1)) hR ?_ ?_ ?_ ?_ (by omega) ?_ ?_ <;> first | exact rfl | exact h4 | exact h5) (by exact hl3) (lo := 0) (hi := 999) (by decide) (by decide) k3) rfl (fun h5 hq5 => ?_)
                  obtain ⟨a5, b5, rfl, hl5⟩ := hq5
                  refine xn_if_ne (tgt := 59) dX5_takeMan_54 rfl (by omega) (fun c6 => ?_) (fun c6 => ?_)
                  · refine xe_aload_n dX5_takeMan_59 rfl ?_
                    refine xe_getP dX5_takeMan_60 flX5_26 (st7 hs) (by decide) rfl hI3 ?_
                    refine xe_getP dX5_takeMan_63 flX5_129 (st22 hs) (by decide) rfl (sp22_7 hs) ?_
                    refine xe_aload_n dX5_takeMan_66 rfl ?_
                    refine xe_getP dX5_takeMan_67 flX5_26 (st7 hs) (by decide) rfl hI3 ?_
                    refine xe_getIv dX5_takeMan_70 flX5_77 (st22 hs) (by decide) rfl (v := nI ((ps_m s).length)) (v3) ?_
                    refine xe_aload_n dX5_takeMan_73 rfl ?_
                    refine xe_getIv dX5_takeMan_74 flX5_70 (st7 hs) (by decide) rfl (v := nI (tk_V K ((t + 1 + 1)))) (rfl) ?_
                    refine xn_iast dX5_takeMan_77 (st25 hs) (by omega) (by decide) ?_
                    refine xe_aload_n dX5_takeMan_78 rfl ?_
                    refine xe_getP dX5_takeMan_79 flX5_26 (st7 hs) (by decide) rfl hI3 ?_
                    refine xe_dup dX5_takeMan_82 rfl ?_
                    refine xe_getIv dX5_takeMan_83 flX5_77 (st22 hs) (by decide) rfl (v := nI ((ps_m s).length)) (v3) ?_
                    refine xe_iconst dX5_takeMan_86 kc_1 ?_
                    refine xn_iadd dX5_takeMan_87 ?_
                    refine xe_putI dX5_takeMan_88 flX5_77 (st22 hs) (by decide) rfl (Or.inl rfl) rfl rfl ?_
                    refine xe_aload_n dX5_takeMan_91 rfl ?_
                    refine xe_bipush dX5_takeMan_92 kb_59 ?_
                    refine xe_callVI (d' := 0) (y' := mX5_take) dX5_takeMan_94 mlX5_63 mvX5_take rfl (st7 hs) (by decide) rfl (by decide) (by decide) (Nat.le_of_ble_eq_true rfl) (c_X5_take_f l g _ (by exact hs) (p := 22) (t := (t + 1 + 1 + 1)) (by refine ck_R_t (t' := (t + 1 + 1 + 1)) hR ?_ ?_ ?_ ?_ (by omega) ?_ ?_ <;> first | exact rfl | exact h4 | exact h5) (k := 4) (by decide) (by decide) k4) rfl ?_
                    refine xe_ireturn dX5_takeMan_97 rfl (by first | rfl | decide +kernel) ?_
                    exact ⟨rfl, (by repeat (first | exact fr_r | refine fr_I (by decide) ?_ | refine fr_J (by decide) ?_)), rfl, rfl⟩
                  · omega
            · omega
          | none =>
            have go4 := ck_gn hR.2.2.1 (show t + 3 ≤ m by omega) k4 (by decide) (by decide)
            refine q_CtV mvX5_takeMan (Nat.le_of_ble_eq_true rfl) ?_
            refine xe_aload_n dX5_takeMan_0 rfl ?_
            refine xe_getP dX5_takeMan_1 flX5_26 (st7 hs) (by decide) rfl hI3 ?_
            refine xe_getIv dX5_takeMan_4 flX5_77 (st22 hs) (by decide) rfl (v := nI ((ps_m s).length)) (v3) ?_
            refine xe_bipush dX5_takeMan_7 kb_8 ?_
            refine xn_icmp_lt (tgt := 18) dX5_takeMan_9 rfl (by omega) (by omega) (fun c1 => ?_) (fun c1 => ?_)
            · refine xe_aload_n dX5_takeMan_18 rfl ?_
              refine xe_sipush dX5_takeMan_19 ks_256 ?_
              refine xe_callVI (d' := 0) (y' := mX5_take) dX5_takeMan_22 mlX5_63 mvX5_take rfl (st7 hs) (by decide) rfl (by decide) (by decide) (Nat.le_of_ble_eq_true rfl) (c_X5_take_t l g _ (by exact hs) (p := 22) (t := t) (by refine ck_R_t (t' := t) hR ?_ ?_ ?_ ?_ (by omega) ?_ ?_ <;> first | exact rfl | exact h4 | exact h5) (k := 20) (by decide) (by decide) (by decide) k1) rfl ?_
              refine xn_if_eq (tgt := 57) dX5_takeMan_25 rfl (by omega) (fun c2 => ?_) (fun c2 => ?_)
              · omega
              · refine xe_aload_n dX5_takeMan_28 rfl ?_
                refine xe_aload_n dX5_takeMan_29 rfl ?_
                refine xe_getP dX5_takeMan_30 flX5_15 (st7 hs) (by decide) rfl (sp7_0 hs) ?_
                refine xe_aload_n dX5_takeMan_33 rfl ?_
                refine xe_getP dX5_takeMan_34 flX5_26 (st7 hs) (by decide) rfl hI3 ?_
                refine xe_getIv dX5_takeMan_37 flX5_77 (st22 hs) (by decide) rfl (v := nI ((ps_m s).length)) (v3) ?_
                refine xe_callVIq (d' := 1) (y' := mX5_takeNewName) dX5_takeMan_40 mlX5_122 mvX5_takeNewName rfl (st7 hs) (by decide) rfl (by decide) (by decide) (Nat.le_of_ble_eq_true rfl) (c_X5_takeNewName822_t l g _ (by exact hs) (t := (t + 1)) (by refine ck_R_t (t' := (t + 1)) hR ?_ ?_ ?_ ?_ (by omega) ?_ ?_ <;> first | exact rfl | exact h4 | exact h5) (by exact vE) (nsm := ps_m s) (nsd := ps_d s) (by exact vN8) (by exact vN9) (by exact v3) (by exact v4) (by omega) k2) rfl (fun h3 hq3 => ?_)
                obtain ⟨a3, b3, rfl, hl3⟩ := hq3
                refine xn_if_eq (tgt := 57) dX5_takeMan_43 rfl (by omega) (fun c4 => ?_) (fun c4 => ?_)
                · omega
                · refine xe_aload_n dX5_takeMan_46 rfl ?_
                  refine xe_iconst dX5_takeMan_47 kc_0 ?_
                  refine xe_sipush dX5_takeMan_48 ks_999 ?_
                  refine xe_callVIq (d' := 1) (y' := mX5_takeInt) dX5_takeMan_51 mlX5_125 mvX5_takeInt rfl (st7 hs) (by decide) rfl (by decide) (by decide) (Nat.le_of_ble_eq_true rfl) (c_X5_takeInt_t l g _ (by exact hs) (p := 22) (t := (t + 1 + 1)) (by refine ck_R_t (t' := (t + 1 + 1)) hR ?_ ?_ ?_ ?_ (by omega) ?_ ?_ <;> first | exact rfl | exact h4 | exact h5) (by exact hl3) (lo := 0) (hi := 999) (by decide) (by decide) k3) rfl (fun h5 hq5 => ?_)
                  obtain ⟨a5, b5, rfl, hl5⟩ := hq5
                  refine xn_if_ne (tgt := 59) dX5_takeMan_54 rfl (by omega) (fun c6 => ?_) (fun c6 => ?_)
                  · refine xe_aload_n dX5_takeMan_59 rfl ?_
                    refine xe_getP dX5_takeMan_60 flX5_26 (st7 hs) (by decide) rfl hI3 ?_
                    refine xe_getP dX5_takeMan_63 flX5_129 (st22 hs) (by decide) rfl (sp22_7 hs) ?_
                    refine xe_aload_n dX5_takeMan_66 rfl ?_
                    refine xe_getP dX5_takeMan_67 flX5_26 (st7 hs) (by decide) rfl hI3 ?_
                    refine xe_getIv dX5_takeMan_70 flX5_77 (st22 hs) (by decide) rfl (v := nI ((ps_m s).length)) (v3) ?_
                    refine xe_aload_n dX5_takeMan_73 rfl ?_
                    refine xe_getIv dX5_takeMan_74 flX5_70 (st7 hs) (by decide) rfl (v := nI (tk_V K ((t + 1 + 1)))) (rfl) ?_
                    refine xn_iast dX5_takeMan_77 (st25 hs) (by omega) (by decide) ?_
                    refine xe_aload_n dX5_takeMan_78 rfl ?_
                    refine xe_getP dX5_takeMan_79 flX5_26 (st7 hs) (by decide) rfl hI3 ?_
                    refine xe_dup dX5_takeMan_82 rfl ?_
                    refine xe_getIv dX5_takeMan_83 flX5_77 (st22 hs) (by decide) rfl (v := nI ((ps_m s).length)) (v3) ?_
                    refine xe_iconst dX5_takeMan_86 kc_1 ?_
                    refine xn_iadd dX5_takeMan_87 ?_
                    refine xe_putI dX5_takeMan_88 flX5_77 (st22 hs) (by decide) rfl (Or.inl rfl) rfl rfl ?_
                    refine xe_aload_n dX5_takeMan_91 rfl ?_
                    refine xe_bipush dX5_takeMan_92 kb_59 ?_
                    refine xe_callVI (d' := 0) (y' := mX5_take) dX5_takeMan_94 mlX5_63 mvX5_take rfl (st7 hs) (by decide) rfl (by decide) (by decide) (Nat.le_of_ble_eq_true rfl) (c_X5_take_t l g _ (by exact hs) (p := 22) (t := (t + 1 + 1 + 1)) (by refine ck_R_t (t' := (t + 1 + 1 + 1)) hR ?_ ?_ ?_ ?_ (by omega) ?_ ?_ <;> first | exact rfl | exact h4 | exact h5) (k := 4) (by decide) (by decide) (by decide) k4) rfl ?_
                    refine xe_ireturn dX5_takeMan_97 rfl (by first | rfl | decide +kernel) ?_
                    rw [show decide (tk_V K (t + 1 + 1) < 0 ∨ 999 < tk_V K (t + 1 + 1)) = decide (999 < tk_V K (t + 2)) from decide_eq_decide.mpr ⟨fun q => q.elim (fun z => absurd z (Nat.not_lt_zero _)) id, Or.inr⟩] at hl5
                    refine ⟨rfl, (by repeat (first | exact fr_r | refine fr_I (by decide) ?_ | refine fr_J (by decide) ?_)), by show t + 4 ≤ m; omega, rfl, rfl, n, by show n ≤ 10 + (t + 4); omega, ?_⟩
                    exact v_man22 hV (by omega) hx.2 (by intro r a1 a2 a3; repeat (first | exact rfl | refine (q_Ine (by assumption)).trans ?_)) (fun j hj => pk_un hj) rfl rfl rfl rfl hl5 v7
                  · omega
            · omega
theorem c_X5_takeDeed22 (l : Launch) (g : q_GP) (h : q_H) (hs : q_Stat h) {K : q_TK} {m t n : Nat} {s : q_PS} (hR : ck_R h K m 22 t) (hV : ck_V h K 22 n s) (hnt : n ≤ 10 + t) : q_Ct l g 2 mX5_takeDeed [.ref 7] h (q_tlA K m 22 h (tx_deed K s t)) := by
  have hI2 := hR.1
  have hI3 := hR.2.1
  have h4 := hR.2.2.2.2.1
  have h5 := hR.2.2.2.2.2
  have h4m := hR.2.2.1.1
  have htm := hR.2.2.2.1
  obtain ⟨v2, v3, v4, v5, v6, v6b, vf, vg, vc, vF, vG, vC, vL, vN8, vN9, vE, v7⟩ := id hV
  have l8 := vN8.1
  have l9 := vN9.1
  unfold tx_deed
  by_cases hl : 8 ≤ (ps_d s).length
  · rw [if_pos hl]
    refine q_CtV mvX5_takeDeed (Nat.le_of_ble_eq_true rfl) ?_
    refine xe_aload_n dX5_takeDeed_0 rfl ?_
    refine xe_getP dX5_takeDeed_1 flX5_26 (st7 hs) (by decide) rfl hI3 ?_
    refine xe_getIv dX5_takeDeed_4 flX5_84 (st22 hs) (by decide) rfl (v := nI ((ps_d s).length)) (v4) ?_
    refine xe_bipush dX5_takeDeed_7 kb_8 ?_
    refine xn_icmp_lt (tgt := 18) dX5_takeDeed_9 rfl (by omega) (by omega) (fun c1 => ?_) (fun c1 => ?_)
    · omega
    · refine xe_aload_n dX5_takeDeed_12 rfl ?_
      refine xe_iconst dX5_takeDeed_13 kc_2 ?_
      refine xe_callVI (d' := 0) (y' := mX5_fail) dX5_takeDeed_14 mlX5_119 mvX5_fail rfl (st7 hs) (by decide) rfl (by decide) (by decide) (Nat.le_of_ble_eq_true rfl) (c_X5_fail l g _ (by exact hs) (p := 22) (t := t) (by refine ck_R_t (t' := t) hR ?_ ?_ ?_ ?_ (by omega) ?_ ?_ <;> first | exact rfl | exact h4 | exact h5) _) rfl ?_
      refine xe_ireturn dX5_takeDeed_17 rfl (by first | rfl | decide +kernel) ?_
      exact ⟨rfl, (by repeat (first | exact fr_r | refine fr_I (by decide) ?_ | refine fr_J (by decide) ?_)), rfl, rfl⟩
  · rw [if_neg hl]
    cases k1 : tx_ck (tk_T K) 21 t with
    | some er =>
      refine q_CtV mvX5_takeDeed (Nat.le_of_ble_eq_true rfl) ?_
      refine xe_aload_n dX5_takeDeed_0 rfl ?_
      refine xe_getP dX5_takeDeed_1 flX5_26 (st7 hs) (by decide) rfl hI3 ?_
      refine xe_getIv dX5_takeDeed_4 flX5_84 (st22 hs) (by decide) rfl (v := nI ((ps_d s).length)) (v4) ?_
      refine xe_bipush dX5_takeDeed_7 kb_8 ?_
      refine xn_icmp_lt (tgt := 18) dX5_takeDeed_9 rfl (by omega) (by omega) (fun c1 => ?_) (fun c1 => ?_)
      · refine xe_aload_n dX5_takeDeed_18 rfl ?_
        refine xe_sipush dX5_takeDeed_19 ks_257 ?_
        refine xe_callVI (d' := 0) (y' := mX5_take) dX5_takeDeed_22 mlX5_63 mvX5_take rfl (st7 hs) (by decide) rfl (by decide) (by decide) (Nat.le_of_ble_eq_true rfl) (c_X5_take_f l g _ (by exact hs) (p := 22) (t := t) (by refine ck_R_t (t' := t) hR ?_ ?_ ?_ ?_ (by omega) ?_ ?_ <;> first | exact rfl | exact h4 | exact h5) (k := 21) (by decide) (by decide) k1) rfl ?_
        refine xn_if_eq (tgt := 56) dX5_takeDeed_25 rfl (by omega) (fun c2 => ?_) (fun c2 => ?_)
        · refine xe_iconst dX5_takeDeed_56 kc_0 ?_
          refine xe_ireturn dX5_takeDeed_57 rfl (by first | rfl | decide +kernel) ?_
          exact ⟨rfl, (by repeat (first | exact fr_r | refine fr_I (by decide) ?_ | refine fr_J (by decide) ?_)), rfl, rfl⟩
        · omega
      · omega
    | none =>
      have go1 := ck_gn hR.2.2.1 (show t ≤ m by omega) k1 (by decide) (by decide)
      show q_Ct l g 2 mX5_takeDeed _ h (q_tlA K m 22 h (tx_b (tx_ck (tk_T K) 1 (t + 1)) _))
      cases k2 : tx_ck (tk_T K) 1 (t + 1) with
      | some er =>
        refine q_CtV mvX5_takeDeed (Nat.le_of_ble_eq_true rfl) ?_
        refine xe_aload_n dX5_takeDeed_0 rfl ?_
        refine xe_getP dX5_takeDeed_1 flX5_26 (st7 hs) (by decide) rfl hI3 ?_
        refine xe_getIv dX5_takeDeed_4 flX5_84 (st22 hs) (by decide) rfl (v := nI ((ps_d s).length)) (v4) ?_
        refine xe_bipush dX5_takeDeed_7 kb_8 ?_
        refine xn_icmp_lt (tgt := 18) dX5_takeDeed_9 rfl (by omega) (by omega) (fun c1 => ?_) (fun c1 => ?_)
        · refine xe_aload_n dX5_takeDeed_18 rfl ?_
          refine xe_sipush dX5_takeDeed_19 ks_257 ?_
          refine xe_callVI (d' := 0) (y' := mX5_take) dX5_takeDeed_22 mlX5_63 mvX5_take rfl (st7 hs) (by decide) rfl (by decide) (by decide) (Nat.le_of_ble_eq_true rfl) (c_X5_take_t l g _ (by exact hs) (p := 22) (t := t) (by refine ck_R_t (t' := t) hR ?_ ?_ ?_ ?_ (by omega) ?_ ?_ <;> first | exact rfl | exact h4 | exact h5) (k := 21) (by decide) (by decide) (by decide) k1) rfl ?_
          refine xn_if_eq (tgt := 56) dX5_takeDeed_25 rfl (by omega) (fun c2 => ?_) (fun c2 => ?_)
          · omega
          · refine xe_aload_n dX5_takeDeed_28 rfl ?_
            refine xe_aload_n dX5_takeDeed_29 rfl ?_
            refine xe_getP dX5_takeDeed_30 flX5_19 (st7 hs) (by decide) rfl (sp7_1 hs) ?_
            refine xe_aload_n dX5_takeDeed_33 rfl ?_
            refine xe_getP dX5_takeDeed_34 flX5_26 (st7 hs) (by decide) rfl hI3 ?_
            refine xe_getIv dX5_takeDeed_37 flX5_84 (st22 hs) (by decide) rfl (v := nI ((ps_d s).length)) (v4) ?_
            refine xe_callVI (d' := 1) (y' := mX5_takeNewName) dX5_takeDeed_40 mlX5_122 mvX5_takeNewName rfl (st7 hs) (by decide) rfl (by decide) (by decide) (Nat.le_of_ble_eq_true rfl) (c_X5_takeNewName_f l g _ (by exact hs) (p := 22) (t := (t + 1)) (by refine ck_R_t (t' := (t + 1)) hR ?_ ?_ ?_ ?_ (by omega) ?_ ?_ <;> first | exact rfl | exact h4 | exact h5) k2 _ _) rfl ?_
            refine xn_if_eq (tgt := 56) dX5_takeDeed_43 rfl (by omega) (fun c3 => ?_) (fun c3 => ?_)
            · refine xe_iconst dX5_takeDeed_56 kc_0 ?_
              refine xe_ireturn dX5_takeDeed_57 rfl (by first | rfl | decide +kernel) ?_
              exact ⟨rfl, (by repeat (first | exact fr_r | refine fr_I (by decide) ?_ | refine fr_J (by decide) ?_)), rfl, rfl⟩
            · omega
        · omega
      | none =>
        have go2 := ck_gn hR.2.2.1 (show t + 1 ≤ m by omega) k2 (by decide) (by decide)
        have hx := (hR.2.2.1.2.2 (t + 1) (by omega)).2.2.2.2.1 (tx_ck_none k2).1
        show q_Ct l g 2 mX5_takeDeed _ h (q_tlA K m 22 h (tx_b (tx_ck (tk_T K) 2 (t + 2)) _))
        cases k3 : tx_ck (tk_T K) 2 (t + 2) with
        | some er =>
          refine q_CtV mvX5_takeDeed (Nat.le_of_ble_eq_true rfl) ?_
          refine xe_aload_n dX5_takeDeed_0 rfl ?_
          refine xe_getP dX5_takeDeed_1 flX5_26 (st7 hs) (by decide) rfl hI3 ?_
          refine xe_getIv dX5_takeDeed_4 flX5_84 (st22 hs) (by decide) rfl (v := nI ((ps_d s).length)) (v4) ?_
          refine xe_bipush dX5_takeDeed_7 kb_8 ?_
          refine xn_icmp_lt (tgt := 18) dX5_takeDeed_9 rfl (by omega) (by omega) (fun c1 => ?_) (fun c1 => ?_)
          · refine xe_aload_n dX5_takeDeed_18 rfl ?_
            refine xe_sipush dX5_takeDeed_19 ks_257 ?_
            refine xe_callVI (d' := 0) (y' := mX5_take) dX5_takeDeed_22 mlX5_63 mvX5_take rfl (st7 hs) (by decide) rfl (by decide) (by decide) (Nat.le_of_ble_eq_true rfl) (c_X5_take_t l g _ (by exact hs) (p := 22) (t := t) (by refine ck_R_t (t' := t) hR ?_ ?_ ?_ ?_ (by omega) ?_ ?_ <;> first | exact rfl | exact h4 | exact h5) (k := 21) (by decide) (by decide) (by decide) k1) rfl ?_
            refine xn_if_eq (tgt := 56) dX5_takeDeed_25 rfl (by omega) (fun c2 => ?_) (fun c2 => ?_)
            · omega
            · refine xe_aload_n dX5_takeDeed_28 rfl ?_
              refine xe_aload_n dX5_takeDeed_29 rfl ?_
              refine xe_getP dX5_takeDeed_30 flX5_19 (st7 hs) (by decide) rfl (sp7_1 hs) ?_
              refine xe_aload_n dX5_takeDeed_33 rfl ?_
              refine xe_getP dX5_takeDeed_34 flX5_26 (st7 hs) (by decide) rfl hI3 ?_
              refine xe_getIv dX5_takeDeed_37 flX5_84 (st22 hs) (by decide) rfl (v := nI ((ps_d s).length)) (v4) ?_
              refine xe_callVIq (d' := 1) (y' := mX5_takeNewName) dX5_takeDeed_40 mlX5_122 mvX5_takeNewName rfl (st7 hs) (by decide) rfl (by decide) (by decide) (Nat.le_of_ble_eq_true rfl) (c_X5_takeNewName922_t l g _ (by exact hs) (t := (t + 1)) (by refine ck_R_t (t' := (t + 1)) hR ?_ ?_ ?_ ?_ (by omega) ?_ ?_ <;> first | exact rfl | exact h4 | exact h5) (by exact vE) (nsm := ps_m s) (nsd := ps_d s) (by exact vN8) (by exact vN9) (by exact v3) (by exact v4) (by omega) k2) rfl (fun h3 hq3 => ?_)
              obtain ⟨a3, b3, rfl, hl3⟩ := hq3
              refine xn_if_eq (tgt := 56) dX5_takeDeed_43 rfl (by omega) (fun c4 => ?_) (fun c4 => ?_)
              · omega
              · refine xe_aload_n dX5_takeDeed_46 rfl ?_
                refine xe_iconst dX5_takeDeed_47 kc_0 ?_
                refine xe_bipush dX5_takeDeed_48 kb_99 ?_
                refine xe_callVI (d' := 1) (y' := mX5_takeInt) dX5_takeDeed_50 mlX5_125 mvX5_takeInt rfl (st7 hs) (by decide) rfl (by decide) (by decide) (Nat.le_of_ble_eq_true rfl) (c_X5_takeInt_f l g _ (by exact hs) (p := 22) (t := (t + 1 + 1)) (by refine ck_R_t (t' := (t + 1 + 1)) hR ?_ ?_ ?_ ?_ (by omega) ?_ ?_ <;> first | exact rfl | exact h4 | exact h5) k3 _ _) rfl ?_
                refine xn_if_ne (tgt := 58) dX5_takeDeed_53 rfl (by omega) (fun c5 => ?_) (fun c5 => ?_)
                · omega
                · refine xe_iconst dX5_takeDeed_56 kc_0 ?_
                  refine xe_ireturn dX5_takeDeed_57 rfl (by first | rfl | decide +kernel) ?_
                  exact ⟨rfl, (by repeat (first | exact fr_r | refine fr_I (by decide) ?_ | refine fr_J (by decide) ?_)), rfl, rfl⟩
          · omega
        | none =>
          have go3 := ck_gn hR.2.2.1 (show t + 2 ≤ m by omega) k3 (by decide) (by decide)
          have hv := (hR.2.2.1.2.2 (t + 2) (by omega)).2.2.2.2.2 (tx_ck_none k3).1
          show q_Ct l g 2 mX5_takeDeed _ h (q_tlA K m 22 h (tx_b (tx_ck (tk_T K) 4 (t + 3)) _))
          cases k4 : tx_ck (tk_T K) 4 (t + 3) with
          | some er =>
            refine q_CtV mvX5_takeDeed (Nat.le_of_ble_eq_true rfl) ?_
            refine xe_aload_n dX5_takeDeed_0 rfl ?_
            refine xe_getP dX5_takeDeed_1 flX5_26 (st7 hs) (by decide) rfl hI3 ?_
            refine xe_getIv dX5_takeDeed_4 flX5_84 (st22 hs) (by decide) rfl (v := nI ((ps_d s).length)) (v4) ?_
            refine xe_bipush dX5_takeDeed_7 kb_8 ?_
            refine xn_icmp_lt (tgt := 18) dX5_takeDeed_9 rfl (by omega) (by omega) (fun c1 => ?_) (fun c1 => ?_)
            · refine xe_aload_n dX5_takeDeed_18 rfl ?_
              refine xe_sipush dX5_takeDeed_19 ks_257 ?_
              refine xe_callVI (d' := 0) (y' := mX5_take) dX5_takeDeed_22 mlX5_63 mvX5_take rfl (st7 hs) (by decide) rfl (by decide) (by decide) (Nat.le_of_ble_eq_true rfl) (c_X5_take_t l g _ (by exact hs) (p := 22) (t := t) (by refine ck_R_t (t' := t) hR ?_ ?_ ?_ ?_ (by omega) ?_ ?_ <;> first | exact rfl | exact h4 | exact h5) (k := 21) (by decide) (by decide) (by decide) k1) rfl ?_
              refine xn_if_eq (tgt := 56) dX5_takeDeed_25 rfl (by omega) (fun c2 => ?_) (fun c2 => ?_)
              · omega
              · refine xe_aload_n dX5_takeDeed_28 rfl ?_
                refine xe_aload_n dX5_takeDeed_29 rfl ?_
                refine xe_getP dX5_takeDeed_30 flX5_19 (st7 hs) (by decide) rfl (sp7_1 hs) ?_
                refine xe_aload_n dX5_takeDeed_33 rfl ?_
                refine xe_getP dX5_takeDeed_34 flX5_26 (st7 hs) (by decide) rfl hI3 ?_
                refine xe_getIv dX5_takeDeed_37 flX5_84 (st22 hs) (by decide) rfl (v := nI ((ps_d s).length)) (v4) ?_
                refine xe_callVIq (d' := 1) (y' := mX5_takeNewName) dX5_takeDeed_40 mlX5_122 mvX5_takeNewName rfl (st7 hs) (by decide) rfl (by decide) (by decide) (Nat.le_of_ble_eq_true rfl) (c_X5_takeNewName922_t l g _ (by exact hs) (t := (t + 1)) (by refine ck_R_t (t' := (t + 1)) hR ?_ ?_ ?_ ?_ (by omega) ?_ ?_ <;> first | exact rfl | exact h4 | exact h5) (by exact vE) (nsm := ps_m s) (nsd := ps_d s) (by exact vN8) (by exact vN9) (by exact v3) (by exact v4) (by omega) k2) rfl (fun h3 hq3 => ?_)
                obtain ⟨a3, b3, rfl, hl3⟩ := hq3
                refine xn_if_eq (tgt := 56) dX5_takeDeed_43 rfl (by omega) (fun c4 => ?_) (fun c4 => ?_)
                · omega
                · refine xe_aload_n dX5_takeDeed_46 rfl ?_
                  refine xe_iconst dX5_takeDeed_47 kc_0 ?_
                  refine xe_bipush dX5_takeDeed_48 kb_99 ?_
                  refine xe_callVIq (d' := 1) (y' := mX5_takeInt) dX5_takeDeed_50 mlX5_125 mvX5_takeInt rfl (st7 hs) (by decide) rfl (by decide) (by decide) (Nat.le_of_ble_eq_true rfl) (c_X5_takeInt_t l g _ (by exact hs) (p := 22) (t := (t + 1 + 1)) (by refine ck_R_t (t' := (t + 1 + 1)) hR ?_ ?_ ?_ ?_ (by omega) ?_ ?_ <;> first | exact rfl | exact h4 | exact h5) (by exact hl3) (lo := 0) (hi := 99) (by decide) (by decide) k3) rfl (fun h5 hq5 => ?_)
                  obtain ⟨a5, b5, rfl, hl5⟩ := hq5
                  refine xn_if_ne (tgt := 58) dX5_takeDeed_53 rfl (by omega) (fun c6 => ?_) (fun c6 => ?_)
                  · refine xe_aload_n dX5_takeDeed_58 rfl ?_
                    refine xe_getP dX5_takeDeed_59 flX5_26 (st7 hs) (by decide) rfl hI3 ?_
                    refine xe_getP dX5_takeDeed_62 flX5_132 (st22 hs) (by decide) rfl (sp22_8 hs) ?_
                    refine xe_aload_n dX5_takeDeed_65 rfl ?_
                    refine xe_getP dX5_takeDeed_66 flX5_26 (st7 hs) (by decide) rfl hI3 ?_
                    refine xe_getIv dX5_takeDeed_69 flX5_84 (st22 hs) (by decide) rfl (v := nI ((ps_d s).length)) (v4) ?_
                    refine xe_aload_n dX5_takeDeed_72 rfl ?_
                    refine xe_getIv dX5_takeDeed_73 flX5_70 (st7 hs) (by decide) rfl (v := nI (tk_V K ((t + 1 + 1)))) (rfl) ?_
                    refine xn_iast dX5_takeDeed_76 (st26 hs) (by omega) (by decide) ?_
                    refine xe_aload_n dX5_takeDeed_77 rfl ?_
                    refine xe_getP dX5_takeDeed_78 flX5_26 (st7 hs) (by decide) rfl hI3 ?_
                    refine xe_dup dX5_takeDeed_81 rfl ?_
                    refine xe_getIv dX5_takeDeed_82 flX5_84 (st22 hs) (by decide) rfl (v := nI ((ps_d s).length)) (v4) ?_
                    refine xe_iconst dX5_takeDeed_85 kc_1 ?_
                    refine xn_iadd dX5_takeDeed_86 ?_
                    refine xe_putI dX5_takeDeed_87 flX5_84 (st22 hs) (by decide) rfl (Or.inl rfl) rfl rfl ?_
                    refine xe_aload_n dX5_takeDeed_90 rfl ?_
                    refine xe_bipush dX5_takeDeed_91 kb_59 ?_
                    refine xe_callVI (d' := 0) (y' := mX5_take) dX5_takeDeed_93 mlX5_63 mvX5_take rfl (st7 hs) (by decide) rfl (by decide) (by decide) (Nat.le_of_ble_eq_true rfl) (c_X5_take_f l g _ (by exact hs) (p := 22) (t := (t + 1 + 1 + 1)) (by refine ck_R_t (t' := (t + 1 + 1 + 1)) hR ?_ ?_ ?_ ?_ (by omega) ?_ ?_ <;> first | exact rfl | exact h4 | exact h5) (k := 4) (by decide) (by decide) k4) rfl ?_
                    refine xe_ireturn dX5_takeDeed_96 rfl (by first | rfl | decide +kernel) ?_
                    exact ⟨rfl, (by repeat (first | exact fr_r | refine fr_I (by decide) ?_ | refine fr_J (by decide) ?_)), rfl, rfl⟩
                  · omega
            · omega
          | none =>
            have go4 := ck_gn hR.2.2.1 (show t + 3 ≤ m by omega) k4 (by decide) (by decide)
            refine q_CtV mvX5_takeDeed (Nat.le_of_ble_eq_true rfl) ?_
            refine xe_aload_n dX5_takeDeed_0 rfl ?_
            refine xe_getP dX5_takeDeed_1 flX5_26 (st7 hs) (by decide) rfl hI3 ?_
            refine xe_getIv dX5_takeDeed_4 flX5_84 (st22 hs) (by decide) rfl (v := nI ((ps_d s).length)) (v4) ?_
            refine xe_bipush dX5_takeDeed_7 kb_8 ?_
            refine xn_icmp_lt (tgt := 18) dX5_takeDeed_9 rfl (by omega) (by omega) (fun c1 => ?_) (fun c1 => ?_)
            · refine xe_aload_n dX5_takeDeed_18 rfl ?_
              refine xe_sipush dX5_takeDeed_19 ks_257 ?_
              refine xe_callVI (d' := 0) (y' := mX5_take) dX5_takeDeed_22 mlX5_63 mvX5_take rfl (st7 hs) (by decide) rfl (by decide) (by decide) (Nat.le_of_ble_eq_true rfl) (c_X5_take_t l g _ (by exact hs) (p := 22) (t := t) (by refine ck_R_t (t' := t) hR ?_ ?_ ?_ ?_ (by omega) ?_ ?_ <;> first | exact rfl | exact h4 | exact h5) (k := 21) (by decide) (by decide) (by decide) k1) rfl ?_
              refine xn_if_eq (tgt := 56) dX5_takeDeed_25 rfl (by omega) (fun c2 => ?_) (fun c2 => ?_)
              · omega
              · refine xe_aload_n dX5_takeDeed_28 rfl ?_
                refine xe_aload_n dX5_takeDeed_29 rfl ?_
                refine xe_getP dX5_takeDeed_30 flX5_19 (st7 hs) (by decide) rfl (sp7_1 hs) ?_
                refine xe_aload_n dX5_takeDeed_33 rfl ?_
                refine xe_getP dX5_takeDeed_34 flX5_26 (st7 hs) (by decide) rfl hI3 ?_
                refine xe_getIv dX5_takeDeed_37 flX5_84 (st22 hs) (by decide) rfl (v := nI ((ps_d s).length)) (v4) ?_
                refine xe_callVIq (d' := 1) (y' := mX5_takeNewName) dX5_takeDeed_40 mlX5_122 mvX5_takeNewName rfl (st7 hs) (by decide) rfl (by decide) (by decide) (Nat.le_of_ble_eq_true rfl) (c_X5_takeNewName922_t l g _ (by exact hs) (t := (t + 1)) (by refine ck_R_t (t' := (t + 1)) hR ?_ ?_ ?_ ?_ (by omega) ?_ ?_ <;> first | exact rfl | exact h4 | exact h5) (by exact vE) (nsm := ps_m s) (nsd := ps_d s) (by exact vN8) (by exact vN9) (by exact v3) (by exact v4) (by omega) k2) rfl (fun h3 hq3 => ?_)
                obtain ⟨a3, b3, rfl, hl3⟩ := hq3
                refine xn_if_eq (tgt := 56) dX5_takeDeed_43 rfl (by omega) (fun c4 => ?_) (fun c4 => ?_)
                · omega
                · refine xe_aload_n dX5_takeDeed_46 rfl ?_
                  refine xe_iconst dX5_takeDeed_47 kc_0 ?_
                  refine xe_bipush dX5_takeDeed_48 kb_99 ?_
                  refine xe_callVIq (d' := 1) (y' := mX5_takeInt) dX5_takeDeed_50 mlX5_125 mvX5_takeInt rfl (st7 hs) (by decide) rfl (by decide) (by decide) (Nat.le_of_ble_eq_true rfl) (c_X5_takeInt_t l g _ (by exact hs) (p := 22) (t := (t + 1 + 1)) (by refine ck_R_t (t' := (t + 1 + 1)) hR ?_ ?_ ?_ ?_ (by omega) ?_ ?_ <;> first | exact rfl | exact h4 | exact h5) (by exact hl3) (lo := 0) (hi := 99) (by decide) (by decide) k3) rfl (fun h5 hq5 => ?_)
                  obtain ⟨a5, b5, rfl, hl5⟩ := hq5
                  refine xn_if_ne (tgt := 58) dX5_takeDeed_53 rfl (by omega) (fun c6 => ?_) (fun c6 => ?_)
                  · refine xe_aload_n dX5_takeDeed_58 rfl ?_
                    refine xe_getP dX5_takeDeed_59 flX5_26 (st7 hs) (by decide) rfl hI3 ?_
                    refine xe_getP dX5_takeDeed_62 flX5_132 (st22 hs) (by decide) rfl (sp22_8 hs) ?_
                    refine xe_aload_n dX5_takeDeed_65 rfl ?_
                    refine xe_getP dX5_takeDeed_66 flX5_26 (st7 hs) (by decide) rfl hI3 ?_
                    refine xe_getIv dX5_takeDeed_69 flX5_84 (st22 hs) (by decide) rfl (v := nI ((ps_d s).length)) (v4) ?_
                    refine xe_aload_n dX5_takeDeed_72 rfl ?_
                    refine xe_getIv dX5_takeDeed_73 flX5_70 (st7 hs) (by decide) rfl (v := nI (tk_V K ((t + 1 + 1)))) (rfl) ?_
                    refine xn_iast dX5_takeDeed_76 (st26 hs) (by omega) (by decide) ?_
                    refine xe_aload_n dX5_takeDeed_77 rfl ?_
                    refine xe_getP dX5_takeDeed_78 flX5_26 (st7 hs) (by decide) rfl hI3 ?_
                    refine xe_dup dX5_takeDeed_81 rfl ?_
                    refine xe_getIv dX5_takeDeed_82 flX5_84 (st22 hs) (by decide) rfl (v := nI ((ps_d s).length)) (v4) ?_
                    refine xe_iconst dX5_takeDeed_85 kc_1 ?_
                    refine xn_iadd dX5_takeDeed_86 ?_
                    refine xe_putI dX5_takeDeed_87 flX5_84 (st22 hs) (by decide) rfl (Or.inl rfl) rfl rfl ?_
                    refine xe_aload_n dX5_takeDeed_90 rfl ?_
                    refine xe_bipush dX5_takeDeed_91 kb_59 ?_
                    refine xe_callVI (d' := 0) (y' := mX5_take) dX5_takeDeed_93 mlX5_63 mvX5_take rfl (st7 hs) (by decide) rfl (by decide) (by decide) (Nat.le_of_ble_eq_true rfl) (c_X5_take_t l g _ (by exact hs) (p := 22) (t := (t + 1 + 1 + 1)) (by refine ck_R_t (t' := (t + 1 + 1 + 1)) hR ?_ ?_ ?_ ?_ (by omega) ?_ ?_ <;> first | exact rfl | exact h4 | exact h5) (k := 4) (by decide) (by decide) (by decide) k4) rfl ?_
                    refine xe_ireturn dX5_takeDeed_96 rfl (by first | rfl | decide +kernel) ?_
                    rw [show decide (tk_V K (t + 1 + 1) < 0 ∨ 99 < tk_V K (t + 1 + 1)) = decide (99 < tk_V K (t + 2)) from decide_eq_decide.mpr ⟨fun q => q.elim (fun z => absurd z (Nat.not_lt_zero _)) id, Or.inr⟩] at hl5
                    refine ⟨rfl, (by repeat (first | exact fr_r | refine fr_I (by decide) ?_ | refine fr_J (by decide) ?_)), by show t + 4 ≤ m; omega, rfl, rfl, n, by show n ≤ 10 + (t + 4); omega, ?_⟩
                    exact v_deed22 hV (by omega) hx.2 (by intro r a1 a2 a3; repeat (first | exact rfl | refine (q_Ine (by assumption)).trans ?_)) (fun j hj => pk_un hj) rfl rfl rfl rfl hl5 v7
                  · omega
            · omega
theorem c_X5_takeMoult22 (l : Launch) (g : q_GP) (h : q_H) (hs : q_Stat h) {K : q_TK} {m t n : Nat} {s : q_PS} (hR : ck_R h K m 22 t) (hV : ck_V h K 22 n s) (hnt : n ≤ 10 + t) : q_Ct l g 2 mX5_takeMoult [.ref 7] h (q_tlA K m 22 h (tx_moult K s t)) := by
  have hI2 := hR.1
  have hI3 := hR.2.1
  have h4 := hR.2.2.2.2.1
  have h5 := hR.2.2.2.2.2
  have h4m := hR.2.2.1.1
  have htm := hR.2.2.2.1
  obtain ⟨v2, v3, v4, v5, v6, v6b, vf, vg, vc, vF, vG, vC, vL, vN8, vN9, vE, v7⟩ := id hV
  have l8 := vN8.1
  have l9 := vN9.1
  unfold tx_moult
  cases k1 : tx_ck (tk_T K) 27 t with
  | some er =>
    refine q_CtV mvX5_takeMoult (Nat.le_of_ble_eq_true rfl) ?_
    refine xe_aload_n dX5_takeMoult_0 rfl ?_
    refine xe_sipush dX5_takeMoult_1 ks_263 ?_
    refine xe_callVI (d' := 0) (y' := mX5_take) dX5_takeMoult_4 mlX5_63 mvX5_take rfl (st7 hs) (by decide) rfl (by decide) (by decide) (Nat.le_of_ble_eq_true rfl) (c_X5_take_f l g _ (by exact hs) (p := 22) (t := t) (by refine ck_R_t (t' := t) hR ?_ ?_ ?_ ?_ (by omega) ?_ ?_ <;> first | exact rfl | exact h4 | exact h5) (k := 27) (by decide) (by decide) k1) rfl ?_
    refine xn_if_eq (tgt := 20) dX5_takeMoult_7 rfl (by omega) (fun c1 => ?_) (fun c1 => ?_)
    · refine xe_iconst dX5_takeMoult_20 kc_0 ?_
      refine xe_ireturn dX5_takeMoult_21 rfl (by first | rfl | decide +kernel) ?_
      exact ⟨rfl, (by repeat (first | exact fr_r | refine fr_I (by decide) ?_ | refine fr_J (by decide) ?_)), rfl, rfl⟩
    · omega
  | none =>
    have go1 := ck_gn hR.2.2.1 (show t ≤ m by omega) k1 (by decide) (by decide)
    show q_Ct l g 2 mX5_takeMoult _ h (q_tlA K m 22 h (tx_b (tx_ck (tk_T K) 2 (t + 1)) _))
    cases k2 : tx_ck (tk_T K) 2 (t + 1) with
    | some er =>
      refine q_CtV mvX5_takeMoult (Nat.le_of_ble_eq_true rfl) ?_
      refine xe_aload_n dX5_takeMoult_0 rfl ?_
      refine xe_sipush dX5_takeMoult_1 ks_263 ?_
      refine xe_callVI (d' := 0) (y' := mX5_take) dX5_takeMoult_4 mlX5_63 mvX5_take rfl (st7 hs) (by decide) rfl (by decide) (by decide) (Nat.le_of_ble_eq_true rfl) (c_X5_take_t l g _ (by exact hs) (p := 22) (t := t) (by refine ck_R_t (t' := t) hR ?_ ?_ ?_ ?_ (by omega) ?_ ?_ <;> first | exact rfl | exact h4 | exact h5) (k := 27) (by decide) (by decide) (by decide) k1) rfl ?_
      refine xn_if_eq (tgt := 20) dX5_takeMoult_7 rfl (by omega) (fun c1 => ?_) (fun c1 => ?_)
      · omega
      · refine xe_aload_n dX5_takeMoult_10 rfl ?_
        refine xe_iconst dX5_takeMoult_11 kc_1 ?_
        refine xe_bipush dX5_takeMoult_12 kb_99 ?_
        refine xe_callVI (d' := 1) (y' := mX5_takeInt) dX5_takeMoult_14 mlX5_125 mvX5_takeInt rfl (st7 hs) (by decide) rfl (by decide) (by decide) (Nat.le_of_ble_eq_true rfl) (c_X5_takeInt_f l g _ (by exact hs) (p := 22) (t := (t + 1)) (by refine ck_R_t (t' := (t + 1)) hR ?_ ?_ ?_ ?_ (by omega) ?_ ?_ <;> first | exact rfl | exact h4 | exact h5) k2 _ _) rfl ?_
        refine xn_if_ne (tgt := 22) dX5_takeMoult_17 rfl (by omega) (fun c2 => ?_) (fun c2 => ?_)
        · omega
        · refine xe_iconst dX5_takeMoult_20 kc_0 ?_
          refine xe_ireturn dX5_takeMoult_21 rfl (by first | rfl | decide +kernel) ?_
          exact ⟨rfl, (by repeat (first | exact fr_r | refine fr_I (by decide) ?_ | refine fr_J (by decide) ?_)), rfl, rfl⟩
    | none =>
      have go2 := ck_gn hR.2.2.1 (show t + 1 ≤ m by omega) k2 (by decide) (by decide)
      have hv := (hR.2.2.1.2.2 (t + 1) (by omega)).2.2.2.2.2 (tx_ck_none k2).1
      show q_Ct l g 2 mX5_takeMoult _ h (q_tlA K m 22 h (tx_b (tx_ck (tk_T K) 4 (t + 2)) _))
      cases k3 : tx_ck (tk_T K) 4 (t + 2) with
      | some er =>
        refine q_CtV mvX5_takeMoult (Nat.le_of_ble_eq_true rfl) ?_
        refine xe_aload_n dX5_takeMoult_0 rfl ?_
        refine xe_sipush dX5_takeMoult_1 ks_263 ?_
        refine xe_callVI (d' := 0) (y' := mX5_take) dX5_takeMoult_4 mlX5_63 mvX5_take rfl (st7 hs) (by decide) rfl (by decide) (by decide) (Nat.le_of_ble_eq_true rfl) (c_X5_take_t l g _ (by exact hs) (p := 22) (t := t) (by refine ck_R_t (t' := t) hR ?_ ?_ ?_ ?_ (by omega) ?_ ?_ <;> first | exact rfl | exact h4 | exact h5) (k := 27) (by decide) (by decide) (by decide) k1) rfl ?_
        refine xn_if_eq (tgt := 20) dX5_takeMoult_7 rfl (by omega) (fun c1 => ?_) (fun c1 => ?_)
        · omega
        · refine xe_aload_n dX5_takeMoult_10 rfl ?_
          refine xe_iconst dX5_takeMoult_11 kc_1 ?_
          refine xe_bipush dX5_takeMoult_12 kb_99 ?_
          refine xe_callVIq (d' := 1) (y' := mX5_takeInt) dX5_takeMoult_14 mlX5_125 mvX5_takeInt rfl (st7 hs) (by decide) rfl (by decide) (by decide) (Nat.le_of_ble_eq_true rfl) (c_X5_takeInt_t l g _ (by exact hs) (p := 22) (t := (t + 1)) (by refine ck_R_t (t' := (t + 1)) hR ?_ ?_ ?_ ?_ (by omega) ?_ ?_ <;> first | exact rfl | exact h4 | exact h5) (by exact vE) (lo := 1) (hi := 99) (by decide) (by decide) k2) rfl (fun h2 hq2 => ?_)
          obtain ⟨a2, b2, rfl, hl2⟩ := hq2
          refine xn_if_ne (tgt := 22) dX5_takeMoult_17 rfl (by omega) (fun c3 => ?_) (fun c3 => ?_)
          · refine xe_aload_n dX5_takeMoult_22 rfl ?_
            refine xe_getP dX5_takeMoult_23 flX5_26 (st7 hs) (by decide) rfl hI3 ?_
            refine xe_aload_n dX5_takeMoult_26 rfl ?_
            refine xe_getIv dX5_takeMoult_27 flX5_70 (st7 hs) (by decide) rfl (v := nI (tk_V K ((t + 1)))) (rfl) ?_
            refine xe_putI dX5_takeMoult_30 flX5_141 (st22 hs) (by decide) rfl (Or.inl rfl) rfl rfl ?_
            refine xe_aload_n dX5_takeMoult_33 rfl ?_
            refine xe_bipush dX5_takeMoult_34 kb_59 ?_
            refine xe_callVI (d' := 0) (y' := mX5_take) dX5_takeMoult_36 mlX5_63 mvX5_take rfl (st7 hs) (by decide) rfl (by decide) (by decide) (Nat.le_of_ble_eq_true rfl) (c_X5_take_f l g _ (by exact hs) (p := 22) (t := (t + 1 + 1)) (by refine ck_R_t (t' := (t + 1 + 1)) hR ?_ ?_ ?_ ?_ (by omega) ?_ ?_ <;> first | exact rfl | exact h4 | exact h5) (k := 4) (by decide) (by decide) k3) rfl ?_
            refine xe_ireturn dX5_takeMoult_39 rfl (by first | rfl | decide +kernel) ?_
            exact ⟨rfl, (by repeat (first | exact fr_r | refine fr_I (by decide) ?_ | refine fr_J (by decide) ?_)), rfl, rfl⟩
          · omega
      | none =>
        have go3 := ck_gn hR.2.2.1 (show t + 2 ≤ m by omega) k3 (by decide) (by decide)
        refine q_CtV mvX5_takeMoult (Nat.le_of_ble_eq_true rfl) ?_
        refine xe_aload_n dX5_takeMoult_0 rfl ?_
        refine xe_sipush dX5_takeMoult_1 ks_263 ?_
        refine xe_callVI (d' := 0) (y' := mX5_take) dX5_takeMoult_4 mlX5_63 mvX5_take rfl (st7 hs) (by decide) rfl (by decide) (by decide) (Nat.le_of_ble_eq_true rfl) (c_X5_take_t l g _ (by exact hs) (p := 22) (t := t) (by refine ck_R_t (t' := t) hR ?_ ?_ ?_ ?_ (by omega) ?_ ?_ <;> first | exact rfl | exact h4 | exact h5) (k := 27) (by decide) (by decide) (by decide) k1) rfl ?_
        refine xn_if_eq (tgt := 20) dX5_takeMoult_7 rfl (by omega) (fun c1 => ?_) (fun c1 => ?_)
        · omega
        · refine xe_aload_n dX5_takeMoult_10 rfl ?_
          refine xe_iconst dX5_takeMoult_11 kc_1 ?_
          refine xe_bipush dX5_takeMoult_12 kb_99 ?_
          refine xe_callVIq (d' := 1) (y' := mX5_takeInt) dX5_takeMoult_14 mlX5_125 mvX5_takeInt rfl (st7 hs) (by decide) rfl (by decide) (by decide) (Nat.le_of_ble_eq_true rfl) (c_X5_takeInt_t l g _ (by exact hs) (p := 22) (t := (t + 1)) (by refine ck_R_t (t' := (t + 1)) hR ?_ ?_ ?_ ?_ (by omega) ?_ ?_ <;> first | exact rfl | exact h4 | exact h5) (by exact vE) (lo := 1) (hi := 99) (by decide) (by decide) k2) rfl (fun h2 hq2 => ?_)
          obtain ⟨a2, b2, rfl, hl2⟩ := hq2
          refine xn_if_ne (tgt := 22) dX5_takeMoult_17 rfl (by omega) (fun c3 => ?_) (fun c3 => ?_)
          · refine xe_aload_n dX5_takeMoult_22 rfl ?_
            refine xe_getP dX5_takeMoult_23 flX5_26 (st7 hs) (by decide) rfl hI3 ?_
            refine xe_aload_n dX5_takeMoult_26 rfl ?_
            refine xe_getIv dX5_takeMoult_27 flX5_70 (st7 hs) (by decide) rfl (v := nI (tk_V K ((t + 1)))) (rfl) ?_
            refine xe_putI dX5_takeMoult_30 flX5_141 (st22 hs) (by decide) rfl (Or.inl rfl) rfl rfl ?_
            refine xe_aload_n dX5_takeMoult_33 rfl ?_
            refine xe_bipush dX5_takeMoult_34 kb_59 ?_
            refine xe_callVI (d' := 0) (y' := mX5_take) dX5_takeMoult_36 mlX5_63 mvX5_take rfl (st7 hs) (by decide) rfl (by decide) (by decide) (Nat.le_of_ble_eq_true rfl) (c_X5_take_t l g _ (by exact hs) (p := 22) (t := (t + 1 + 1)) (by refine ck_R_t (t' := (t + 1 + 1)) hR ?_ ?_ ?_ ?_ (by omega) ?_ ?_ <;> first | exact rfl | exact h4 | exact h5) (k := 4) (by decide) (by decide) (by decide) k3) rfl ?_
            refine xe_ireturn dX5_takeMoult_39 rfl (by first | rfl | decide +kernel) ?_
            refine ⟨rfl, (by repeat (first | exact fr_r | refine fr_I (by decide) ?_ | refine fr_J (by decide) ?_)), by show t + 3 ≤ m; omega, rfl, rfl, n, by show n ≤ 10 + (t + 3); omega, ?_⟩
            exact v_moult22 hV hv.2 (by intro r a1 a2; repeat (first | exact rfl | refine (q_Ine (by assumption)).trans ?_)) (fun j hj => pk_un hj) rfl rfl hl2 v7
          · omega
