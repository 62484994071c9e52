/-! arrays and fields -/
section QA
variable {l : Launch} {g : q_GP} {d : Nat} {y : q_MI} {pc : Nat} {L : List (Nat × Value)} {S : List Value} {h : q_H} {Q : Option Value → q_H → Prop}
theorem q_row_i {r t n : Nat} (hs : q_Sh h r t n) (ht : t < 103) : q_row g h r = (n, .inl (q_I h r)) := by
  unfold q_row
  rw [hs.2.1, hs.2.2, if_pos ht]
theorem q_row_j {r n : Nat} (hs : q_Sh h r 103 n) : q_row g h r = (n, .inr (.inl (q_J h r))) := by
  unfold q_row
  rw [hs.2.1, hs.2.2]
  rfl
theorem q_row_p {r t n : Nat} (hs : q_Sh h r t n) (ht : 103 < t) : q_row g h r = (n, .inr (.inr (.inr (.inr (fun i => (q_P h r i).map (q_ad g)))))) := by
  unfold q_row
  rw [hs.2.1, hs.2.2, if_neg (by omega), if_neg (by omega)]
theorem q_ent_i {r t n : Nat} (hs : q_Sh h r t n) (h1 : ¬ t < 100) (ht : t < 103) : q_ent g h r = .inl (q_C g t, n, .inl (q_I h r)) := by
  rw [q_ent_a (by rw [hs.2.1]; exact h1), q_row_i hs ht, hs.2.1]
theorem q_ent_j {r n : Nat} (hs : q_Sh h r 103 n) : q_ent g h r = .inl (q_C g 103, n, .inr (.inl (q_J h r))) := by
  rw [q_ent_a (by rw [hs.2.1]; decide), q_row_j hs, hs.2.1]
theorem q_ent_p {r t n : Nat} (hs : q_Sh h r t n) (ht : 103 < t) : q_ent g h r = .inl (q_C g t, n, .inr (.inr (.inr (.inr (fun i => (q_P h r i).map (q_ad g)))))) := by
  rw [q_ent_a (by rw [hs.2.1]; omega), q_row_p hs ht, hs.2.1]
theorem q_Iw {r : Nat} {f : Nat → Int32} : q_I (q_wI h r f) r = f := if_pos rfl
theorem q_Jw {r : Nat} {f : Nat → Int64} : q_J (q_wJ h r f) r = f := if_pos rfl
theorem q_Pw {r : Nat} {f : Nat → Option Nat} : q_P (q_wP h r f) r = f := if_pos rfl
theorem xe_iald {r n : Nat} {i : Int32} (hd : decode y.2.1 pc = .ok (.iaload, 1)) (hs : q_Sh h r 100 n) (hi : vp_in i n) (K : q_Ex l g d y (pc + 1) L (.int (q_I h r i.toNatClampNeg) :: S) h Q) : q_Ex l g d y pc L (.int i :: .ref r :: S) h Q := by
  obtain ⟨rv, h', q, n1, k1, G⟩ := K
  refine ⟨rv, h', q, n1, k1, fun p e R s m args below meth c H locs ls cells slots M hL hW hS hc hkk => ?_⟩
  have M0 := M
  obtain ⟨hx, hb, hret, hml, hown, hts, hlocks, hnm, hfr, hlo, hK, hX, hG, hB⟩ := M
  have he := q_ws_at (g := g) hs.1
  rw [q_ent_i hs (by decide) (by decide)] at he
  show W p l e R s m args below meth c H locs cells slots _ (F0 m pc ls (.int i :: .ref (q_ad g r) :: S.map (q_cv g)))
  rw [q_ad_sh hW hs]
  exact va_iald hx hb hK hW.2.2 r 0 he rfl hi hd (G p e R s m args below meth c H locs ls cells slots M0 hL hW hS hc hkk)
theorem xe_bald {r n : Nat} {i : Int32} (hd : decode y.2.1 pc = .ok (.baload, 1)) (hs : q_Sh h r 101 n) (hi : vp_in i n) (K : q_Ex l g d y (pc + 1) L (.int (q_I h r i.toNatClampNeg) :: S) h Q) : q_Ex l g d y pc L (.int i :: .ref r :: S) h Q := by
  obtain ⟨rv, h', q, n1, k1, G⟩ := K
  refine ⟨rv, h', q, n1, k1, fun p e R s m args below meth c H locs ls cells slots M hL hW hS hc hkk => ?_⟩
  have M0 := M
  obtain ⟨hx, hb, hret, hml, hown, hts, hlocks, hnm, hfr, hlo, hK, hX, hG, hB⟩ := M
  have he := q_ws_at (g := g) hs.1
  rw [q_ent_i hs (by decide) (by decide)] at he
  show W p l e R s m args below meth c H locs cells slots _ (F0 m pc ls (.int i :: .ref (q_ad g r) :: S.map (q_cv g)))
  rw [q_ad_sh hW hs]
  exact va_bald hx hb hK hW.2.2 r 1 he rfl hi hd (G p e R s m args below meth c H locs ls cells slots M0 hL hW hS hc hkk)
theorem xe_zald {r n : Nat} {i : Int32} (hd : decode y.2.1 pc = .ok (.baload, 1)) (hs : q_Sh h r 102 n) (hi : vp_in i n) (K : q_Ex l g d y (pc + 1) L (.int (q_I h r i.toNatClampNeg) :: S) h Q) : q_Ex l g d y pc L (.int i :: .ref r :: S) h Q := by
  obtain ⟨rv, h', q, n1, k1, G⟩ := K
  refine ⟨rv, h', q, n1, k1, fun p e R s m args below meth c H locs ls cells slots M hL hW hS hc hkk => ?_⟩
  have M0 := M
  obtain ⟨hx, hb, hret, hml, hown, hts, hlocks, hnm, hfr, hlo, hK, hX, hG, hB⟩ := M
  have he := q_ws_at (g := g) hs.1
  rw [q_ent_i hs (by decide) (by decide)] at he
  show W p l e R s m args below meth c H locs cells slots _ (F0 m pc ls (.int i :: .ref (q_ad g r) :: S.map (q_cv g)))
  rw [q_ad_sh hW hs]
  exact va_zald hx hb hK hW.2.2 r 2 he rfl hi hd (G p e R s m args below meth c H locs ls cells slots M0 hL hW hS hc hkk)
theorem xe_lald {r n : Nat} {i : Int32} (hd : decode y.2.1 pc = .ok (.laload, 1)) (hs : q_Sh h r 103 n) (hi : vp_in i n) (K : q_Ex l g d y (pc + 1) L (.long (q_J h r i.toNatClampNeg) :: S) h Q) : q_Ex l g d y pc L (.int i :: .ref r :: S) h Q := by
  obtain ⟨rv, h', q, n1, k1, G⟩ := K
  refine ⟨rv, h', q, n1, k1, fun p e R s m args below meth c H locs ls cells slots M hL hW hS hc hkk => ?_⟩
  have M0 := M
  obtain ⟨hx, hb, hret, hml, hown, hts, hlocks, hnm, hfr, hlo, hK, hX, hG, hB⟩ := M
  have he := q_ws_at (g := g) hs.1
  rw [q_ent_j hs] at he
  show W p l e R s m args below meth c H locs cells slots _ (F0 m pc ls (.int i :: .ref (q_ad g r) :: S.map (q_cv g)))
  rw [q_ad_sh hW hs]
  exact va_lald hx hb hK hW.2.2 r 3 he rfl hi hd (G p e R s m args below meth c H locs ls cells slots M0 hL hW hS hc hkk)
theorem xe_iast {r n : Nat} {i : Int32} {x : Int32} (hd : decode y.2.1 pc = .ok (.iastore, 1)) (hs : q_Sh h r 100 n) (hi : vp_in i n) (K : q_Ex l g d y (pc + 1) L S (q_wI h r (upd (q_I h r) i.toNatClampNeg x)) Q) : q_Ex l g d y pc L (.int x :: .int i :: .ref r :: S) h Q := by
  obtain ⟨rv, h', q, n1, k1, G⟩ := K
  refine ⟨rv, h', q, n1, k1, fun p e R s m args below meth c H locs ls cells slots M hL hW hS hc hkk => ?_⟩
  have M0 := M
  obtain ⟨hx, hb, hret, hml, hown, hts, hlocks, hnm, hfr, hlo, hK, hX, hG, hB⟩ := M
  have he := q_ws_at (g := g) hs.1
  rw [q_ent_i hs (by decide) (by decide)] at he
  show W p l e R s m args below meth c H locs cells slots _ (F0 m pc ls (.int x :: .int i :: .ref (q_ad g r) :: S.map (q_cv g)))
  rw [q_ad_sh hW hs]
  refine W.iast hx hb (hW.2.2 r _ he) ((hK.2 0 _ rfl).1 n (fun j => .int (q_I h r j))) (fun q => by cases q) (by show ¬ (i < 0 ∨ (arrV _ _ _).slots.size ≤ _); rw [arrV_size]; exact hi) rfl rfl hd fun H1 e1 z oq => ?_
  have hP : va_P (q_D g) vwCl ((q_ws g h).set r (q_B g + r, .inl (q_C g 100, n, .inl (upd (q_I h r) i.toNatClampNeg x)))) H1 := by
    refine hW.2.2.set (q_ws_D g h) he ?_ oq
    show H1[q_B g + r]? = some (vp_cell _ _)
    rw [e1, vp_cell_i, vp_cell_i, arrV_store]
    congr 2
    funext q
    by_cases hq : q = i.toNatClampNeg
    · subst hq
      simp [updV, upd, vp_nar]
      try rfl
    · simp [updV, upd, hq]
  exact G p e R s m args below meth c H1 _ ls cells slots M0 hL (q_WH_set (s := s) (locs1 := locs) hW z rfl hs.1 ((q_ent_i (h := q_wI h r (upd (q_I h r) i.toNatClampNeg x)) (show q_Sh (q_wI h r (upd (q_I h r) i.toNatClampNeg x)) r 100 n from hs) (by decide) (by decide)).trans (by rw [q_Iw])) (fun k hk => q_wI_ne hk) hP) (hS.put z oq (Nat.le_add_right _ _)) hc hkk
theorem xe_bast {r n : Nat} {i : Int32} {x : Int32} (hd : decode y.2.1 pc = .ok (.bastore, 1)) (hs : q_Sh h r 101 n) (hi : vp_in i n) (K : q_Ex l g d y (pc + 1) L S (q_wI h r (upd (q_I h r) i.toNatClampNeg (vp_nar .byte x))) Q) : q_Ex l g d y pc L (.int x :: .int i :: .ref r :: S) h Q := by
  obtain ⟨rv, h', q, n1, k1, G⟩ := K
  refine ⟨rv, h', q, n1, k1, fun p e R s m args below meth c H locs ls cells slots M hL hW hS hc hkk => ?_⟩
  have M0 := M
  obtain ⟨hx, hb, hret, hml, hown, hts, hlocks, hnm, hfr, hlo, hK, hX, hG, hB⟩ := M
  have he := q_ws_at (g := g) hs.1
  rw [q_ent_i hs (by decide) (by decide)] at he
  show W p l e R s m args below meth c H locs cells slots _ (F0 m pc ls (.int x :: .int i :: .ref (q_ad g r) :: S.map (q_cv g)))
  rw [q_ad_sh hW hs]
  refine W.bast hx hb (hW.2.2 r _ he) ((hK.2 1 _ rfl).1 n (fun j => .int (q_I h r j))) (fun q => by cases q) (by show ¬ (i < 0 ∨ (arrV _ _ _).slots.size ≤ _); rw [arrV_size]; exact hi) rfl rfl hd fun H1 e1 z oq => ?_
  have hP : va_P (q_D g) vwCl ((q_ws g h).set r (q_B g + r, .inl (q_C g 101, n, .inl (upd (q_I h r) i.toNatClampNeg (vp_nar .byte x))))) H1 := by
    refine hW.2.2.set (q_ws_D g h) he ?_ oq
    show H1[q_B g + r]? = some (vp_cell _ _)
    rw [e1, vp_cell_i, vp_cell_i, arrV_store]
    congr 2
    funext q
    by_cases hq : q = i.toNatClampNeg
    · subst hq
      simp [updV, upd, vp_nar]
      try rfl
    · simp [updV, upd, hq]
  exact G p e R s m args below meth c H1 _ ls cells slots M0 hL (q_WH_set (s := s) (locs1 := locs) hW z rfl hs.1 ((q_ent_i (h := q_wI h r (upd (q_I h r) i.toNatClampNeg (vp_nar .byte x))) (show q_Sh (q_wI h r (upd (q_I h r) i.toNatClampNeg (vp_nar .byte x))) r 101 n from hs) (by decide) (by decide)).trans (by rw [q_Iw])) (fun k hk => q_wI_ne hk) hP) (hS.put z oq (Nat.le_add_right _ _)) hc hkk
theorem xe_zast {r n : Nat} {i : Int32} {x : Int32} (hd : decode y.2.1 pc = .ok (.bastore, 1)) (hs : q_Sh h r 102 n) (hi : vp_in i n) (K : q_Ex l g d y (pc + 1) L S (q_wI h r (upd (q_I h r) i.toNatClampNeg (vp_nar .boolean x))) Q) : q_Ex l g d y pc L (.int x :: .int i :: .ref r :: S) h Q := by
  obtain ⟨rv, h', q, n1, k1, G⟩ := K
  refine ⟨rv, h', q, n1, k1, fun p e R s m args below meth c H locs ls cells slots M hL hW hS hc hkk => ?_⟩
  have M0 := M
  obtain ⟨hx, hb, hret, hml, hown, hts, hlocks, hnm, hfr, hlo, hK, hX, hG, hB⟩ := M
  have he := q_ws_at (g := g) hs.1
  rw [q_ent_i hs (by decide) (by decide)] at he
  show W p l e R s m args below meth c H locs cells slots _ (F0 m pc ls (.int x :: .int i :: .ref (q_ad g r) :: S.map (q_cv g)))
  rw [q_ad_sh hW hs]
  refine W.zast hx hb (hW.2.2 r _ he) ((hK.2 2 _ rfl).1 n (fun j => .int (q_I h r j))) (fun q => by cases q) (by show ¬ (i < 0 ∨ (arrV _ _ _).slots.size ≤ _); rw [arrV_size]; exact hi) rfl rfl hd fun H1 e1 z oq => ?_
  have hP : va_P (q_D g) vwCl ((q_ws g h).set r (q_B g + r, .inl (q_C g 102, n, .inl (upd (q_I h r) i.toNatClampNeg (vp_nar .boolean x))))) H1 := by
    refine hW.2.2.set (q_ws_D g h) he ?_ oq
    show H1[q_B g + r]? = some (vp_cell _ _)
    rw [e1, vp_cell_i, vp_cell_i, arrV_store]
    congr 2
    funext q
    by_cases hq : q = i.toNatClampNeg
    · subst hq
      simp [updV, upd, vp_nar]
      try rfl
    · simp [updV, upd, hq]
  exact G p e R s m args below meth c H1 _ ls cells slots M0 hL (q_WH_set (s := s) (locs1 := locs) hW z rfl hs.1 ((q_ent_i (h := q_wI h r (upd (q_I h r) i.toNatClampNeg (vp_nar .boolean x))) (show q_Sh (q_wI h r (upd (q_I h r) i.toNatClampNeg (vp_nar .boolean x))) r 102 n from hs) (by decide) (by decide)).trans (by rw [q_Iw])) (fun k hk => q_wI_ne hk) hP) (hS.put z oq (Nat.le_add_right _ _)) hc hkk
theorem xe_last {r n : Nat} {i : Int32} {x : Int64} (hd : decode y.2.1 pc = .ok (.lastore, 1)) (hs : q_Sh h r 103 n) (hi : vp_in i n) (K : q_Ex l g d y (pc + 1) L S (q_wJ h r (vp_updL (q_J h r) i.toNatClampNeg x)) Q) : q_Ex l g d y pc L (.long x :: .int i :: .ref r :: S) h Q := by
  obtain ⟨rv, h', q, n1, k1, G⟩ := K
  refine ⟨rv, h', q, n1, k1, fun p e R s m args below meth c H locs ls cells slots M hL hW hS hc hkk => ?_⟩
  have M0 := M
  obtain ⟨hx, hb, hret, hml, hown, hts, hlocks, hnm, hfr, hlo, hK, hX, hG, hB⟩ := M
  have he := q_ws_at (g := g) hs.1
  rw [q_ent_j hs] at he
  show W p l e R s m args below meth c H locs cells slots _ (F0 m pc ls (.long x :: .int i :: .ref (q_ad g r) :: S.map (q_cv g)))
  rw [q_ad_sh hW hs]
  refine W.last hx hb (hW.2.2 r _ he) ((hK.2 3 _ rfl).1 n (fun j => .long (q_J h r j))) (fun q => by cases q) (by show ¬ (i < 0 ∨ (arrV _ _ _).slots.size ≤ _); rw [arrV_size]; exact hi) rfl rfl hd fun H1 e1 z oq => ?_
  have hP : va_P (q_D g) vwCl ((q_ws g h).set r (q_B g + r, .inl (q_C g 103, n, .inr (.inl (vp_updL (q_J h r) i.toNatClampNeg x))))) H1 := by
    refine hW.2.2.set (q_ws_D g h) he ?_ oq
    show H1[q_B g + r]? = some (vp_cell _ _)
    rw [e1, vp_cell_l, vp_cell_l, arrV_store]
    congr 2
    funext q
    by_cases hq : q = i.toNatClampNeg
    · subst hq
      simp [updV, vp_updL]
      try rfl
    · simp [updV, vp_updL, hq]
  exact G p e R s m args below meth c H1 _ ls cells slots M0 hL (q_WH_set (s := s) (locs1 := locs) hW z rfl hs.1 ((q_ent_j (h := q_wJ h r (vp_updL (q_J h r) i.toNatClampNeg x)) (show q_Sh (q_wJ h r (vp_updL (q_J h r) i.toNatClampNeg x)) r 103 n from hs)).trans (by rw [q_Jw])) (fun k hk => q_wJ_ne hk) hP) (hS.put z oq (Nat.le_add_right _ _)) hc hkk
theorem xe_alen {r t n : Nat} {v : Int32} (hd : decode y.2.1 pc = .ok (.arraylength, 1)) (hs : q_Sh h r t n) (h1 : ¬ t < 100) (h2 : ∃ (t0 : Nat) (ty : FieldType), (q_tys g)[t0]? = some (q_C g t, ty)) (hv : Int32.ofNat n = v) (K : q_Ex l g d y (pc + 1) L (.int v :: S) h Q) : q_Ex l g d y pc L (.ref r :: S) h Q := by
  obtain ⟨rv, h', q, n1, k1, G⟩ := K
  refine ⟨rv, h', q, n1, k1, fun p e R s m args below meth c H locs ls cells slots M hL hW hS hc hkk => ?_⟩
  have M0 := M
  obtain ⟨hx, hb, hret, hml, hown, hts, hlocks, hnm, hfr, hlo, hK, hX, hG, hB⟩ := M
  have he := q_ws_at (g := g) hs.1
  rw [q_ent_a (by rw [hs.2.1]; exact h1), hs.2.1] at he
  obtain ⟨t0, ty, h2⟩ := h2
  show W p l e R s m args below meth c H locs cells slots _ (F0 m pc ls (.ref (q_ad g r) :: S.map (q_cv g)))
  rw [q_ad_sh hW hs]
  exact va_alen hx hb hK hW.2.2 r t0 he h2 (by show Int32.ofNat (q_L h r) = v; rw [hs.2.2]; exact hv) hd (G p e R s m args below meth c H locs ls cells slots M0 hL hW hS hc hkk)
theorem xe_aald {r n t0 a : Nat} {C : String} {i : Int32} {t : Nat} (hd : decode y.2.1 pc = .ok (.aaload, 1)) (hs : q_Sh h r t n) (ht : 103 < t) (h0 : (q_tys g)[t0]? = some (q_C g t, .object C)) (hi : vp_in i n) {v : Value} (hp : (match q_P h r i.toNatClampNeg with | none => Value.null | some a => .ref a) = v) (K : q_Ex l g d y (pc + 1) L (v :: S) h Q) : q_Ex l g d y pc L (.int i :: .ref r :: S) h Q := by
  obtain ⟨rv, h', q, n1, k1, G⟩ := K
  refine ⟨rv, h', q, n1, k1, fun p e R s m args below meth c H locs ls cells slots M hL hW hS hc hkk => ?_⟩
  have M0 := M
  obtain ⟨hx, hb, hret, hml, hown, hts, hlocks, hnm, hfr, hlo, hK, hX, hG, hB⟩ := M
  have he := q_ws_at (g := g) hs.1
  rw [q_ent_p hs ht] at he
  show W p l e R s m args below meth c H locs cells slots _ (F0 m pc ls (.int i :: .ref (q_ad g r) :: S.map (q_cv g)))
  rw [q_ad_sh hW hs]
  refine va_aldq hx hb hK hW.2.2 r t0 he h0 hi hd ?_
  have ev : va_rf ((q_P h r i.toNatClampNeg).map (q_ad g)) = q_cv g v := by
    rw [← hp]
    cases q_P h r i.toNatClampNeg <;> rfl
  rw [ev]
  exact G p e R s m args below meth c H locs ls cells slots M0 hL hW hS hc hkk
theorem xe_aaldI {r n a : Nat} {i : Int32} (hd : decode y.2.1 pc = .ok (.aaload, 1)) (hs : q_Sh h r 106 n) (hi : vp_in i n) (hp : q_P h r i.toNatClampNeg = some a) (K : q_Ex l g d y (pc + 1) L (.ref a :: S) h Q) : q_Ex l g d y pc L (.int i :: .ref r :: S) h Q := by
  obtain ⟨rv, h', q, n1, k1, G⟩ := K
  refine ⟨rv, h', q, n1, k1, fun p e R s m args below meth c H locs ls cells slots M hL hW hS hc hkk => ?_⟩
  have M0 := M
  obtain ⟨hx, hb, hret, hml, hown, hts, hlocks, hnm, hfr, hlo, hK, hX, hG, hB⟩ := M
  have he := q_ws_at (g := g) hs.1
  rw [q_ent_p hs (by decide)] at he
  show W p l e R s m args below meth c H locs cells slots _ (F0 m pc ls (.int i :: .ref (q_ad g r) :: S.map (q_cv g)))
  rw [q_ad_sh hW hs]
  have hlt : i.toNatClampNeg < n := Nat.not_le.mp fun q => hi (Or.inr q)
  refine W.aald (v := .ref (q_ad g a)) (ty := .array .int) hx hb (hW.2.2 r _ he) ((hK.2 6 _ rfl).1 n (fun j => va_rf ((q_P h r j).map (q_ad g)))) rfl (fun q => by cases q) (by show ¬ (i < 0 ∨ (arrV _ _ _).slots.size ≤ _); rw [arrV_size]; exact hi) (by show (arrV _ _ _).slots[_]? = _; rw [arrV_read _ _ hlt]; show some (va_rf ((q_P h r i.toNatClampNeg).map (q_ad g))) = _; rw [hp]; rfl) rfl rfl hd ?_
  exact G p e R s m args below meth c H locs ls cells slots M0 hL hW hS hc hkk
theorem q_put_ent {ci r k n : Nat} {h2 : q_H} {v : Value} (h2s : q_Sh h2 r ci n) (hci : ci < 100) (hk : k < n) (hv : q_fld g h2 r k = v) (ho : ∀ j, j ≠ k → q_fld g h2 r j = q_fld g h r j) : q_ent g h2 r = .inr (ci, ((List.range n).map (q_fld g h r)).set k v) := by
  rw [q_ent_o (by rw [h2s.2.1]; exact hci), h2s.2.1, h2s.2.2]
  congr 2
  apply List.ext_getElem?
  intro j
  by_cases hj : j = k
  · subst hj
    rw [List.getElem?_set_self (by simpa using hk), List.getElem?_map, List.getElem?_range hk, Option.map_some, hv]
  · rw [List.getElem?_set_ne (Ne.symm hj), List.getElem?_map, List.getElem?_map]
    by_cases hjn : j < n
    · rw [List.getElem?_range hjn, Option.map_some, Option.map_some, ho j hj]
    · rw [List.getElem?_eq_none (by simpa using hjn)]
      rfl
/-- putfield, whatever the field is, into the heap h2 that differs there alone -/
theorem q_putF {idx ci k n r : Nat} {fin : Bool} {v : Value} {h2 : q_H} (hd : decode y.2.1 pc = .ok (.putfield idx, 3)) (hF : q_FL y.1.cls idx ci k fin) (hs : q_Sh h r ci n) (hk : k < n) (h2s : q_Sh h2 r ci n) (hN : q_N h2 = q_N h) (hKK : q_K h2 = q_K h)
    (hfi : fin = false ∨ (y.1.name = "<init>" ∧ y.1.cls = (vwCl.getD ci ("", TX0, 0)).1)) (hn : ∀ (g : q_GP), narrow (q_ty ci k) (q_cv g v) = q_cv g v) (hft : ∀ (g : q_GP), fits (q_ty ci k) (q_cv g v) = true)
    (hv : ∀ (g : q_GP), q_fld g h2 r k = q_cv g v) (ho : ∀ (g : q_GP) j, j ≠ k → q_fld g h2 r j = q_fld g h r j) (he2 : ∀ (g : q_GP) j, j ≠ r → q_ent g h2 j = q_ent g h j)
    (K : q_Ex l g d y (pc + 3) L S h2 Q) : q_Ex l g d y pc L (v :: .ref r :: S) h Q := by
  obtain ⟨rv, h', q, n1, k1, G⟩ := K
  refine ⟨rv, h', q, by rw [← hN]; exact n1, by rw [← hKK]; exact k1, fun p e R s m args below meth c H locs ls cells slots M hL hW hS hc hkk => ?_⟩
  have M0 := M
  obtain ⟨hx, hb, hret, hml, hown, hts, hlocks, hnm, hfr, hlo, hK, hX, hG, hB⟩ := M
  obtain ⟨C, T, N, ⟨c1, c2, c3, c4, c5⟩, hkN, hlk, hfin, hT⟩ := hF
  have he : (q_ws g h)[r]? = some (q_B g + r, .inr (ci, (List.range n).map (q_fld g h r))) := by
    rw [q_ws_at hs.1, q_ent_o (by rw [hs.2.1]; exact c5), hs.2.1, hs.2.2]
  show W p l e R s m args below meth c H locs cells slots _ (F0 m pc ls (q_cv g v :: .ref (q_ad g r) :: S.map (q_cv g)))
  rw [q_ad_sh hW hs]
  have hap := va_apart (own := y.1.cls) hts c2 (q_ty ci) c3 c4 hK c1
  obtain ⟨r', h1, cell, q1, q2, q3, q4⟩ := hW.2.2 r _ he
  have hr : r' = (C, T, N) := Option.some.inj (h1.symm.trans c1)
  subst hr
  obtain ⟨hS', hfc, kC, hkC, hkind⟩ := hK.1 ci _ c1
  obtain ⟨cf, kf, fi, f, hi, hsl⟩ := hS' k hkN
  have hlay := hts _ (c2 _ (u_in_lay hkN))
  unfold u_lay at hlay
  have hst := (u_facts hfc hkC (u_lays hts c2 hkN) hi).1
  have hl : k < ((List.range n).map (q_fld g h r)).length := by simpa using hk
  have fin1 : ∀ (H1 : Heap), H1[q_B g + r]? = some (cell.setSlot ((q_D g).2 ci k) (q_cv g v)) → H1.size = H.size → (∀ q, q ≠ q_B g + r → H1[q]? = H[q]?) → q_WH g h2 H1 := by
    intro H1 e1 e2 e3
    have hP : va_P (q_D g) vwCl ((q_ws g h).set r (q_B g + r, .inr (ci, ((List.range n).map (q_fld g h r)).set k (q_cv g v)))) H1 := hW.2.2.set (q_ws_D g h) he ⟨_, c1, t_OB.to (V := updV (vp_V ((List.range n).map (q_fld g h r))) k (q_cv g v)) ⟨_, e1, q2, q3, t_set q4 hap hkN (q_cv g v)⟩ (fun j _ => vp_updV_set hl (q_cv g v) j)⟩ e3
    exact q_WH_set (s := s) (locs1 := locs) hW e2 hN hs.1 (q_put_ent h2s c5 hk (hv g) (ho g)) (he2 g) hP
  rcases hfi with hfi | ⟨hi1, hi2⟩
  · rw [if_neg (by rw [hfin, hfi]; decide)] at hlay
    have h6 := u_store hfc hkC hkind hlay hi (c3 k hkN) (hn g) (hft g)
    refine W.putK hx hb (f := f) ⟨hown, hts _ hlk, ⟨_, _, _, hi⟩, hst⟩ (by rw [q2]; exact h6) q1 q3 (by rw [hsl]; exact k2_hasslot (q4 k hkN)) rfl rfl hd fun H1 e1 e2 e3 => ?_
    rw [hsl] at e1 ⊢
    have G' := G p e R s m args below meth c H1 (locs ++ [⟨q_B g + r, (q_D g).2 ci k⟩]) ls cells slots M0 hL (fin1 H1 e1 e2 e3) (hS.put e2 e3 (Nat.le_add_right _ _)) (by rw [← hN] at hc; exact hc) (by rw [← hKK] at hkk; exact hkk)
    rw [hN, hKK] at G'
    exact G'
  · by_cases hff : fin = true
    · rw [if_pos (by rw [hfin, hff])] at hlay
      have hcf : m.cls = cf := by
        obtain ⟨_, _, c', _, _, _, -, -, hf', -, -, -, hown2, -⟩ := Cond.laysFinal_spec hlay
        have e1 : c' = cf := by have := hi.symm.trans hf'; simp at this; exact this.1.symm
        have hCo : (T k).1 = y.1.cls := by
          rw [hT, hi2, List.getD_eq_getElem?_getD, c1]
          rfl
        rw [hCo] at hown2
        rw [← e1]; exact Option.some.inj (hown.symm.trans hown2)
      have h6 := u_fits hfc hkC hkind (Or.inr hlay) hi (c3 k hkN) (hn g) (hft g)
      refine W.putFinK hx hb hown (hts _ hlk) hi hst hcf (hnm.trans hi1) (by rw [q2]; exact h6) q1 q3 (by rw [hsl]; exact k2_hasslot (q4 k hkN)) rfl rfl hd fun H1 e1 e2 e3 => ?_
      rw [hsl] at e1 ⊢
      have G' := G p e R s m args below meth c H1 (locs ++ [⟨q_B g + r, (q_D g).2 ci k⟩]) ls cells slots M0 hL (fin1 H1 e1 e2 e3) (hS.put e2 e3 (Nat.le_add_right _ _)) (by rw [← hN] at hc; exact hc) (by rw [← hKK] at hkk; exact hkk)
      rw [hN, hKK] at G'
      exact G'
    · rw [if_neg (by rw [hfin]; exact hff)] at hlay
      have h6 := u_store hfc hkC hkind hlay hi (c3 k hkN) (hn g) (hft g)
      refine W.putK hx hb (f := f) ⟨hown, hts _ hlk, ⟨_, _, _, hi⟩, hst⟩ (by rw [q2]; exact h6) q1 q3 (by rw [hsl]; exact k2_hasslot (q4 k hkN)) rfl rfl hd fun H1 e1 e2 e3 => ?_
      rw [hsl] at e1 ⊢
      have G' := G p e R s m args below meth c H1 (locs ++ [⟨q_B g + r, (q_D g).2 ci k⟩]) ls cells slots M0 hL (fin1 H1 e1 e2 e3) (hS.put e2 e3 (Nat.le_add_right _ _)) (by rw [← hN] at hc; exact hc) (by rw [← hKK] at hkk; exact hkk)
      rw [hN, hKK] at G'
      exact G'
theorem xe_putI {idx ci k n r : Nat} {fin : Bool} {x : Int32} (hd : decode y.2.1 pc = .ok (.putfield idx, 3)) (hF : q_FL y.1.cls idx ci k fin) (hs : q_Sh h r ci n) (hk : k < n) (hr : q_isR (q_ty ci k) = false) (hfi : fin = false ∨ (y.1.name = "<init>" ∧ y.1.cls = (vwCl.getD ci ("", TX0, 0)).1)) (hn : narrow (q_ty ci k) (.int x) = .int x) (hft : fits (q_ty ci k) (.int x) = true)
    (K : q_Ex l g d y (pc + 3) L S (q_wI h r (upd (q_I h r) k x)) Q) : q_Ex l g d y pc L (.int x :: .ref r :: S) h Q := by
  refine q_putF hd hF hs hk (h2 := q_wI h r (upd (q_I h r) k x)) hs rfl rfl hfi (fun _ => hn) (fun _ => hft) (fun g => ?_) (fun g j hj => ?_) (fun g j hj => q_wI_ne hj) K
  · unfold q_fld
    rw [show q_T (q_wI h r (upd (q_I h r) k x)) r = ci from hs.2.1, hr, q_Iw, upd, if_pos rfl]
    rfl
  · unfold q_fld
    rw [q_Iw, upd, if_neg hj]
    rfl
theorem xe_putP {idx ci k n r a : Nat} {fin : Bool} (hd : decode y.2.1 pc = .ok (.putfield idx, 3)) (hF : q_FL y.1.cls idx ci k fin) (hs : q_Sh h r ci n) (hk : k < n) (hr : q_isR (q_ty ci k) = true) (hfi : fin = false ∨ (y.1.name = "<init>" ∧ y.1.cls = (vwCl.getD ci ("", TX0, 0)).1)) (hn : ∀ b : Nat, narrow (q_ty ci k) (.ref b) = .ref b) (hft : ∀ b : Nat, fits (q_ty ci k) (.ref b) = true)
    (K : q_Ex l g d y (pc + 3) L S (q_wP h r (va_up (q_P h r) k (some a))) Q) : q_Ex l g d y pc L (.ref a :: .ref r :: S) h Q := by
  refine q_putF hd hF hs hk (h2 := q_wP h r (va_up (q_P h r) k (some a))) hs rfl rfl hfi (fun _ => hn _) (fun _ => hft _) (fun g => ?_) (fun g j hj => ?_) (fun g j hj => q_wP_ne hj) K
  · unfold q_fld
    rw [show q_T (q_wP h r (va_up (q_P h r) k (some a))) r = ci from hs.2.1, hr, q_Pw, va_up, if_pos rfl, if_pos rfl]
    rfl
  · unfold q_fld
    rw [q_Pw, va_up, if_neg hj]
    rfl
end QA
