/-! the reference: what laws tell of men and deeds -/
abbrev q_LW : Type := Nat → Option (List (List (Nat × Int32) × List (Nat × Int32) × List (Nat × Int32)) × List (Nat × Int32))
def rm_law (h : q_H) (k : Nat) (o : Option (List (List (Nat × Int32) × List (Nat × Int32) × List (Nat × Int32)) × List (Nat × Int32))) : Prop := match o with
  | none => q_I h 142 k = nI 0 ∧ q_I h 143 k = nI 0
  | some (r, e) => ∃ b, q_I h 142 k = nI b ∧ q_I h 143 k = nI (b + r.length + 1) ∧ b + r.length + 1 ≤ 260 ∧ q_br h b r e
def rm_L (h : q_H) (lv : Nat) (LW : q_LW) : Prop := ∀ k, k < 20 → rm_law h (20 * lv + k) (LW k)
def q_sam (h h' : q_H) : Prop := q_I h' 142 = q_I h 142 ∧ q_I h' 143 = q_I h 143 ∧ q_I h' 144 = q_I h 144 ∧ q_I h' 145 = q_I h 145 ∧ q_I h' 146 = q_I h 146 ∧ q_I h' 147 = q_I h 147 ∧ q_I h' 148 = q_I h 148 ∧ q_I h' 149 = q_I h 149 ∧ q_I h' 150 = q_I h 150
theorem q_br_of {h h' : q_H} (hs : q_sam h h') : ∀ (r : List (List (Nat × Int32) × List (Nat × Int32) × List (Nat × Int32))) (b : Nat) (e : List (Nat × Int32)), q_br h b r e → q_br h' b r e := by
  obtain ⟨e1, e2, e3, e4, e5, e6, e7, e8, e9⟩ := hs
  intro r
  induction r with
  | nil =>
    intro b e hb
    unfold q_br at hb ⊢
    rw [e3, e6, e7, e8, e9]
    exact hb
  | cons x r ih =>
    intro b e hb
    obtain ⟨x, y, z⟩ := x
    unfold q_br at hb ⊢
    rw [e3, e4, e5, e6, e7, e8, e9]
    exact ⟨hb.1, ih _ _ hb.2⟩
theorem rm_L_of {h h' : q_H} {lv : Nat} {LW : q_LW} (hs : q_sam h h') (hL : rm_L h lv LW) : rm_L h' lv LW := by
  intro k hk
  have h1 := hL k hk
  unfold rm_law at h1 ⊢
  cases ho : LW k with
  | none =>
    rw [ho] at h1
    rw [hs.1, hs.2.1]
    exact h1
  | some x =>
    rw [ho] at h1
    obtain ⟨b, h2, h3, h4, h5⟩ := h1
    exact ⟨b, by rw [hs.1]; exact h2, by rw [hs.2.1]; exact h3, h4, q_br_of hs _ _ _ h5⟩
/-- what a law tells -/
def q_tel (V : Nat → Int32) (o : Option (List (List (Nat × Int32) × List (Nat × Int32) × List (Nat × Int32)) × List (Nat × Int32))) (a : Int32) : Int32 := match o with
  | none => a
  | some (r, e) => (q_law V r e).getD (nI 0)
theorem q_ev_co {V V' : Nat → Int32} (hV : ∀ i, i < 6 → V i = V' i) {m : Nat} : ∀ (xs : List (Nat × Int32)) (n : Nat) (st : List Int32), q_wf m xs n → q_ev V xs st = q_ev V' xs st
  | [], _, _, _ => rfl
  | (0, v) :: r, n, st, h => q_ev_co hV r (n + 1) (v :: st) h.2
  | (1, v) :: r, n, st, h => by
    obtain ⟨-, ⟨i, hi, rfl⟩, h2⟩ := h
    show q_ev V r (V (nI i).toNatClampNeg :: st) = q_ev V' r (V' (nI i).toNatClampNeg :: st)
    rw [nI_clamp (by omega), hV i hi]
    exact q_ev_co hV r (n + 1) _ h2
  | (k + 2, v) :: r, n, b :: a :: st, h => by
    have e : ∀ W : Nat → Int32, q_ev W ((k + 2, v) :: r) (b :: a :: st) = if k + 2 = 5 ∧ b = 0 then none else q_ev W r (q_ar (k + 2) a b :: st) := fun _ => rfl
    rw [e, e, q_ev_co hV r (n - 1) _ h.2.2]
  | (k + 2, v) :: r, n, [b], h => rfl
  | (k + 2, v) :: r, n, [], h => rfl
theorem q_val_co {V V' : Nat → Int32} (hV : ∀ i, i < 6 → V i = V' i) {m n : Nat} {xs : List (Nat × Int32)} (h : q_wf m xs n) : q_val V xs = q_val V' xs := by
  unfold q_val
  rw [q_ev_co hV xs n [] h]
theorem q_law_co {h : q_H} {V V' : Nat → Int32} (hV : ∀ i, i < 6 → V i = V' i) (e : List (Nat × Int32)) : ∀ (r : List (List (Nat × Int32) × List (Nat × Int32) × List (Nat × Int32))) (b : Nat), q_br h b r e → q_law V r e = q_law V' r e
  | [], b, hb => by
    obtain ⟨-, t, -, -, -, -, w⟩ := hb
    exact q_val_co hV w
  | (x, y, z) :: r, b, hb => by
    obtain ⟨⟨-, t, -, -, -, -, -, -, -, -, w1, w2, w3⟩, hb2⟩ := hb
    unfold q_law
    rw [q_val_co hV w1, q_val_co hV w2, q_val_co hV w3, q_law_co hV e r (b + 1) hb2]
theorem q_tel_co {h : q_H} {k : Nat} {o : Option (List (List (Nat × Int32) × List (Nat × Int32) × List (Nat × Int32)) × List (Nat × Int32))} (ho : rm_law h k o) {V V' : Nat → Int32} (hV : ∀ i, i < 6 → V i = V' i) (a : Int32) : q_tel V o a = q_tel V' o a := by
  cases o with
  | none => rfl
  | some x =>
    obtain ⟨r, e⟩ := x
    obtain ⟨b, -, -, -, hb⟩ := ho
    show (q_law V r e).getD (nI 0) = (q_law V' r e).getD (nI 0)
    rw [q_law_co hV e r b hb]
theorem q_v6_co (f g : Nat → Int32) (a b c d e k : Int32) : ∀ i, i < 6 → q_v6 f a b c d e k i = q_v6 g a b c d e k i := by
  intro i hi
  rcases (show i = 0 ∨ i = 1 ∨ i = 2 ∨ i = 3 ∨ i = 4 ∨ i = 5 by omega) with rfl | rfl | rfl | rfl | rfl | rfl <;> rfl
/-- the scratch of the laws: what they see, the pile, whether one broke -/
def q_s3 (h : q_H) (V p : Nat → Int32) (b : Int32) : q_H := q_scr (q_wI h 152 V) p b
theorem q_s3_scr (h : q_H) (V p p' : Nat → Int32) (b b' : Int32) : q_scr (q_s3 h V p b) p' b' = q_s3 h V p' b' := q_scr_scr _ _ _ _ _
theorem q_s3_V (h : q_H) (V V' p : Nat → Int32) (b : Int32) : q_wI (q_s3 h V p b) 152 V' = q_s3 h V' p b := by
  unfold q_s3 q_scr
  rw [q_wcI _ (by decide : (124 : Nat) ≠ 152), q_wcI _ (by decide : (153 : Nat) ≠ 152), q_wwI]
  rfl
theorem q_s3_s3 (h : q_H) (V V' p p' : Nat → Int32) (b b' : Int32) : q_s3 (q_s3 h V p b) V' p' b' = q_s3 h V' p' b' := by
  have e : q_s3 (q_s3 h V p b) V' p' b' = q_scr (q_wI (q_s3 h V p b) 152 V') p' b' := rfl
  rw [e, q_s3_V, q_s3_scr]
theorem q_s3_0 (h : q_H) : q_s3 h (q_I h 152) (q_I h 153) (q_I h 124 46) = h := by
  unfold q_s3
  rw [q_wsI]
  exact q_scr_0 h
theorem q_s3_R (h : q_H) (V p f : Nat → Int32) (b : Int32) {r : Nat} (h1 : r ≠ 152) (h2 : r ≠ 153) (h3 : r ≠ 124) : q_wI (q_s3 h V p b) r f = q_s3 (q_wI h r f) V p b := by
  unfold q_s3 q_scr
  rw [q_wcI _ (Ne.symm h3), q_wcI _ (Ne.symm h2), q_wcI _ (Ne.symm h1)]
  congr 1
  have e4 : (124 : Nat) ≠ r := Ne.symm h3
  simp [q_IwI, e4]
theorem c_X10_tells (l : Launch) (g : q_GP) (h : q_H) (hs : q_Stat h) {lv nm nd nc mo : Nat} (hp : rm_P h lv nm nd nc mo) {LW : q_LW} (hL : rm_L h lv LW) (k : Nat) (hk : k < 20) (a : Int32) : q_Ct l g 1 mX10_tells [.ref 124, .int (nI k), .int a] h (q_tq h (q_tel (q_I h 152) (LW k) a)) := by
  obtain ⟨p1, p2, p3, p4, p5, p6, p7, p8, p9, p10⟩ := id hp
  have hk2 : 20 * lv + k < 40 := by omega
  have hlw := hL k hk
  refine q_CtV mvX10_tells (Nat.le_of_ble_eq_true rfl) ?_
  cases ho : LW k with
  | none =>
    rw [ho] at hlw
    obtain ⟨g1, g2⟩ := hlw
    refine xe_bipush dX10_tells_0 kb_20 ?_
    refine xe_aload_n dX10_tells_2 rfl ?_
    refine xe_getIv dX10_tells_3 flX10_228 (st124 hs) (by decide) rfl (v := nI lv) (p1) ?_
    refine xn_imul dX10_tells_6 ?_
    refine xe_iload_n dX10_tells_7 rfl ?_
    refine xn_iadd dX10_tells_8 ?_
    refine xe_istore_n (i := 3) dX10_tells_9 rfl (by decide) rfl ?_
    refine xe_aload_n dX10_tells_10 rfl ?_
    refine xe_getP dX10_tells_11 flX10_70 (st124 hs) (by decide) rfl (sp124_31 hs) ?_
    refine xe_iload_n dX10_tells_14 rfl ?_
    refine xn_ialdv dX10_tells_15 (st142 hs) (by omega) (by decide) (v := nI 0) (g1) ?_
    refine xe_aload_n dX10_tells_16 rfl ?_
    refine xe_getP dX10_tells_17 flX10_73 (st124 hs) (by decide) rfl (sp124_32 hs) ?_
    refine xe_iload_n dX10_tells_20 rfl ?_
    refine xn_ialdv dX10_tells_21 (st143 hs) (by omega) (by decide) (v := nI 0) (g2) ?_
    refine xn_icmp_ne (tgt := 27) dX10_tells_22 rfl (by omega) (by omega) (fun c1 => ?_) (fun c1 => ?_)
    · omega
    · refine xe_iload_n dX10_tells_25 rfl ?_
      refine xe_ireturn dX10_tells_26 rfl (by first | rfl | decide +kernel) ?_
      exact ⟨_, _, rfl, (q_scr_0 h).symm⟩
  | some x =>
    rw [ho] at hlw
    obtain ⟨r, e⟩ := x
    obtain ⟨b, g1, g2, g3, g4⟩ := hlw
    refine xe_bipush dX10_tells_0 kb_20 ?_
    refine xe_aload_n dX10_tells_2 rfl ?_
    refine xe_getIv dX10_tells_3 flX10_228 (st124 hs) (by decide) rfl (v := nI lv) (p1) ?_
    refine xn_imul dX10_tells_6 ?_
    refine xe_iload_n dX10_tells_7 rfl ?_
    refine xn_iadd dX10_tells_8 ?_
    refine xe_istore_n (i := 3) dX10_tells_9 rfl (by decide) rfl ?_
    refine xe_aload_n dX10_tells_10 rfl ?_
    refine xe_getP dX10_tells_11 flX10_70 (st124 hs) (by decide) rfl (sp124_31 hs) ?_
    refine xe_iload_n dX10_tells_14 rfl ?_
    refine xn_ialdv dX10_tells_15 (st142 hs) (by omega) (by decide) (v := nI b) (g1) ?_
    refine xe_aload_n dX10_tells_16 rfl ?_
    refine xe_getP dX10_tells_17 flX10_73 (st124 hs) (by decide) rfl (sp124_32 hs) ?_
    refine xe_iload_n dX10_tells_20 rfl ?_
    refine xn_ialdv dX10_tells_21 (st143 hs) (by omega) (by decide) (v := nI (b + r.length + 1)) (g2) ?_
    refine xn_icmp_ne (tgt := 27) dX10_tells_22 rfl (by omega) (by omega) (fun c1 => ?_) (fun c1 => ?_)
    · refine xe_aload_n dX10_tells_27 rfl ?_
      refine xe_iconst dX10_tells_28 kc_0 ?_
      refine xe_putI dX10_tells_29 flX10_308 (st124 hs) (by decide) rfl (Or.inl rfl) rfl rfl ?_
      refine xe_aload_n dX10_tells_32 rfl ?_
      refine xe_getP dX10_tells_33 flX10_70 (st124 hs) (by decide) rfl (sp124_31 hs) ?_
      refine xe_iload_n dX10_tells_36 rfl ?_
      refine xn_ialdv dX10_tells_37 (st142 hs) (by omega) (by decide) (v := nI b) (g1) ?_
      refine xe_istore dX10_tells_38 (by decide) rfl ?_
      refine xe_heap (h2 := q_scr h (q_I h 153) (nI 0)) (by unfold q_scr; rw [q_wsI]) ?_
      refine xe_locals (L' := [(0, .ref 124), (3, .int (nI (20 * lv + k))), (4, .int (nI b))]) (And.intro rfl (And.intro rfl (And.intro rfl trivial))) ?_
      exact q_tells_loop l g h hs (20 * lv + k) (b + r.length + 1) hk2 g2 g3 e r b (q_I h 153) g4 rfl
    · omega
def q_vs (a b c d e k : Int32) : Nat → Int32 := q_v6 (fun _ => 0) a b c d e k
/-- what the law sees of man m, by the rows R, in week w -/
def q_see (R C : Nat → Int32) (lv nc w m : Nat) (a b : Int32) : Nat → Int32 := q_vs a b (nI w) (q_wind C (12 * lv) nc w) (q_s8 R 64) (nI m)
def q_fin (R C : Nat → Int32) (LW : q_LW) (lv nc w m d : Nat) : Int32 := q_held (q_tel (q_see R C lv nc w m (q_s8 R (8 * m)) (R (136 + 8 * m + d))) (LW d) (nI 10))
def q_wrm (R C : Nat → Int32) (LW : q_LW) (lv nc w m : Nat) : Int32 := q_tel (q_see R C lv nc w m (q_s8 R (8 * m)) (q_s8 R (136 + 8 * m))) (LW 17) (q_s8 R (8 * m) - q_wind C (12 * lv) nc w)
/-- the answer is v, and all but the laws' scratch stays -/
def q_s3q (h : q_H) (v : Int32) : Option Value → q_H → Prop := fun r h1 => ∃ V p b, r = some (.int v) ∧ h1 = q_s3 h V p b
theorem q_see_tel {h : q_H} {k lv nc w m : Nat} {o : Option (List (List (Nat × Int32) × List (Nat × Int32) × List (Nat × Int32)) × List (Nat × Int32))} (ho : rm_law h k o) (f R C : Nat → Int32) (a b c : Int32) : q_tel (q_v6 f a b (nI w) (q_wind C (12 * lv) nc w) (q_s8 R 64) (nI m)) o c = q_tel (q_see R C lv nc w m a b) o c := q_tel_co ho (q_v6_co _ _ _ _ _ _ _ _) c
section QT
variable {l : Launch} {g : q_GP} {d : Nat} {y : q_MI} {pc : Nat} {L : List (Nat × Value)} {S : List Value} {h : q_H} {Q : Option Value → q_H → Prop}
/-- a call whose answer is v and that leaves all but scratch -/
theorem xe_callVIq {d' idx n b ci nb : Nat} {y' : q_MI} {as rest : List Value} {v : Int32} {P : q_H → Prop} (hd : decode y.2.1 pc = .ok (.invokevirtual idx, 3)) (hl : Cond.methodLink y.1.cls idx y'.1 ∈ q_tab) (hm : q_MV y' n) (hn : as.length = n) (hs : q_Sh h b ci nb) (hci : ci < 100) (hcc : (vwCl[ci]?).map (fun q => q.1) = some y'.1.cls) (hdd : d' + 1 ≤ d) (hmx : y'.2.2.1 ≤ 45) (hst : (rest.map fun v => v.category).sum ≤ 8)
    (C : q_Ct l g d' y' (.ref b :: as) h (fun r h1 => r = some (.int v) ∧ P h1)) (hSt : S = as.reverse ++ .ref b :: rest) (K : ∀ h1, P h1 → q_Ex l g d y (pc + 3) L (.int v :: rest) h1 Q) : q_Ex l g d y pc L S h Q :=
  xe_callV hd hl hm hn hs hci hcc hdd hmx hst C hSt (fun r h2 q => by
    obtain ⟨rfl, q⟩ := q
    exact K h2 q)
theorem xe_callVVq {d' idx n b ci nb : Nat} {y' : q_MI} {as rest : List Value} {P : q_H → Prop} (hd : decode y.2.1 pc = .ok (.invokevirtual idx, 3)) (hl : Cond.methodLink y.1.cls idx y'.1 ∈ q_tab) (hm : q_MV y' n) (hn : as.length = n) (hs : q_Sh h b ci nb) (hci : ci < 100) (hcc : (vwCl[ci]?).map (fun q => q.1) = some y'.1.cls) (hdd : d' + 1 ≤ d) (hmx : y'.2.2.1 ≤ 45) (hst : (rest.map fun v => v.category).sum ≤ 8)
    (C : q_Ct l g d' y' (.ref b :: as) h (fun r h1 => r = none ∧ P h1)) (hSt : S = as.reverse ++ .ref b :: rest) (K : ∀ h1, P h1 → q_Ex l g d y (pc + 3) L rest h1 Q) : q_Ex l g d y pc L S h Q :=
  xe_callV hd hl hm hn hs hci hcc hdd hmx hst C hSt (fun r h2 q => by
    obtain ⟨rfl, q⟩ := q
    exact K h2 q)
end QT
theorem c_X10_tellsq (l : Launch) (g : q_GP) (h : q_H) (hs : q_Stat h) {lv nm nd nc mo : Nat} (hp : rm_P h lv nm nd nc mo) {LW : q_LW} (hL : rm_L h lv LW) (k : Nat) (hk : k < 20) (a : Int32) : q_Ct l g 1 mX10_tells [.ref 124, .int (nI k), .int a] h (fun r h1 => r = some (.int (q_tel (q_I h 152) (LW k) a)) ∧ ∃ p b, h1 = q_scr h p b) := q_Ct_post (fun r h1 q => by
  obtain ⟨p, b, rfl, rfl⟩ := q
  exact ⟨rfl, p, b, rfl⟩) (c_X10_tells l g h hs hp hL k hk a)
theorem c_X10_fineOf (l : Launch) (g : q_GP) (h : q_H) (hs : q_Stat h) {lv nm nd nc mo : Nat} (hp : rm_P h lv nm nd nc mo) {LW : q_LW} (hL : rm_L h lv LW) {w : Nat} (hw : q_I h 155 200 = nI w) (hw2 : w < 2 ^ 20) (m d : Nat) (hm : m < 8) (hd : d < 8) : q_Ct l g 2 mX10_fineOf [.ref 124, .int (nI m), .int (nI d)] h (fun r h1 => r = some (.int (q_fin (q_I h 155) (q_I h 140) LW lv nc w m d)) ∧ ∃ V p b, h1 = q_s3 h V p b) := by
  obtain ⟨p1, p2, p3, p4, p5, p6, p7, p8, p9, p10⟩ := id hp
  refine q_CtV mvX10_fineOf (Nat.le_of_ble_eq_true rfl) ?_
  refine xe_aload_n dX10_fineOf_0 rfl ?_
  refine xe_iload_n dX10_fineOf_1 rfl ?_
  refine xe_aload_n dX10_fineOf_2 rfl ?_
  refine xe_iload_n dX10_fineOf_3 rfl ?_
  refine xe_callVI (d' := 0) (y' := mX10_haveOf) dX10_fineOf_4 mlX10_319 mvX10_haveOf rfl (st124 hs) (by decide) rfl (by decide) (by decide) (Nat.le_of_ble_eq_true rfl) (c_X10_haveOf l g _ (by exact hs) _ (by omega)) rfl ?_
  refine xe_aload_n dX10_fineOf_7 rfl ?_
  refine xe_getP dX10_fineOf_8 flX10_110 (st124 hs) (by decide) rfl (sp124_48 hs) ?_
  refine xe_sipush dX10_fineOf_11 ks_136 ?_
  refine xe_bipush dX10_fineOf_14 kb_8 ?_
  refine xe_iload_n dX10_fineOf_16 rfl ?_
  refine xn_imul dX10_fineOf_17 ?_
  refine xn_iadd dX10_fineOf_18 ?_
  refine xe_iload_n dX10_fineOf_19 rfl ?_
  refine xn_iadd dX10_fineOf_20 ?_
  refine xn_ialdf dX10_fineOf_21 (st155 hs) (by omega) (by decide) (f := q_I h 155) rfl ?_
  refine xe_callVV (d' := 1) (y' := mX10_setsOf) dX10_fineOf_22 mlX10_325 mvX10_setsOf rfl (st124 hs) (by decide) rfl (by decide) (by decide) (Nat.le_of_ble_eq_true rfl) (c_X10_setsOf l g _ (by exact hs) (by exact hp) (by exact hw) (by omega) _ _ _) rfl ?_
  refine xe_aload_n dX10_fineOf_25 rfl ?_
  refine xe_iload_n dX10_fineOf_26 rfl ?_
  refine xe_bipush dX10_fineOf_27 kb_10 ?_
  refine xe_callVIq (d' := 1) (y' := mX10_tells) dX10_fineOf_29 mlX10_328 mvX10_tells rfl (st124 hs) (by decide) rfl (by decide) (by decide) (Nat.le_of_ble_eq_true rfl) (c_X10_tellsq l g _ (by exact hs) (by exact hp) (by exact rm_L_of (h := h) ⟨rfl, rfl, rfl, rfl, rfl, rfl, rfl, rfl, rfl⟩ hL) _ (by omega) _) rfl (fun h1 hq => ?_)
  obtain ⟨p1, b1, rfl⟩ := hq
  refine xe_callSI (d' := 0) (y' := mX10_held) dX10_fineOf_32 mlX10_331 msX10_held rfl (by decide) (by decide) (Nat.le_of_ble_eq_true rfl) (c_X10_held l g _ _) rfl ?_
  refine xe_ireturn dX10_fineOf_35 rfl (by first | rfl | decide +kernel) ?_
  exact ⟨by unfold q_fin; rw [← q_see_tel (hL d (by omega)) (q_I h 152)]; rfl, _, _, _, rfl⟩
theorem c_X10_isWarm (l : Launch) (g : q_GP) (h : q_H) (hs : q_Stat h) {lv nm nd nc mo : Nat} (hp : rm_P h lv nm nd nc mo) {LW : q_LW} (hL : rm_L h lv LW) {w : Nat} (hw : q_I h 155 200 = nI w) (hw2 : w < 2 ^ 20) (m : Nat) (hm : m < 8) : q_Ct l g 2 mX10_isWarm [.ref 124, .int (nI m)] h (fun r h1 => r = some (.int (if 0 < q_wrm (q_I h 155) (q_I h 140) LW lv nc w m then nI 1 else nI 0)) ∧ ∃ V p b, h1 = q_s3 h V p b) := by
  obtain ⟨p1, p2, p3, p4, p5, p6, p7, p8, p9, p10⟩ := id hp
  refine q_CtV mvX10_isWarm (Nat.le_of_ble_eq_true rfl) ?_
  refine xe_aload_n dX10_isWarm_0 rfl ?_
  refine xe_iload_n dX10_isWarm_1 rfl ?_
  refine xe_callVI (d' := 0) (y' := mX10_haveOf) dX10_isWarm_2 mlX10_319 mvX10_haveOf rfl (st124 hs) (by decide) rfl (by decide) (by decide) (Nat.le_of_ble_eq_true rfl) (c_X10_haveOf l g _ (by exact hs) _ (by omega)) rfl ?_
  refine xe_istore_n (i := 2) dX10_isWarm_5 rfl (by decide) rfl ?_
  refine xe_aload_n dX10_isWarm_6 rfl ?_
  refine xe_iload_n dX10_isWarm_7 rfl ?_
  refine xe_iload_n dX10_isWarm_8 rfl ?_
  refine xe_aload_n dX10_isWarm_9 rfl ?_
  refine xe_iload_n dX10_isWarm_10 rfl ?_
  refine xe_callVI (d' := 0) (y' := mX10_timesOf) dX10_isWarm_11 mlX10_334 mvX10_timesOf rfl (st124 hs) (by decide) rfl (by decide) (by decide) (Nat.le_of_ble_eq_true rfl) (c_X10_timesOf l g _ (by exact hs) _ (by omega)) rfl ?_
  refine xe_callVV (d' := 1) (y' := mX10_setsOf) dX10_isWarm_14 mlX10_325 mvX10_setsOf rfl (st124 hs) (by decide) rfl (by decide) (by decide) (Nat.le_of_ble_eq_true rfl) (c_X10_setsOf l g _ (by exact hs) (by exact hp) (by exact hw) (by omega) _ _ _) rfl ?_
  refine xe_aload_n dX10_isWarm_17 rfl ?_
  refine xe_bipush dX10_isWarm_18 kb_17 ?_
  refine xe_iload_n dX10_isWarm_20 rfl ?_
  refine xe_aload_n dX10_isWarm_21 rfl ?_
  refine xe_aload_n dX10_isWarm_22 rfl ?_
  refine xe_getP dX10_isWarm_23 flX10_110 (st124 hs) (by decide) rfl (sp124_48 hs) ?_
  refine xe_sipush dX10_isWarm_26 ks_200 ?_
  refine xn_ialdv dX10_isWarm_29 (st155 hs) (by omega) (by decide) (v := nI w) (hw) ?_
  refine xe_callVI (d' := 0) (y' := mX10_windOn) dX10_isWarm_30 mlX10_316 mvX10_windOn rfl (st124 hs) (by decide) rfl (by decide) (by decide) (Nat.le_of_ble_eq_true rfl) (c_X10_windOn l g _ (by exact hs) (by exact hp) _ (by omega)) rfl ?_
  refine xe_isub dX10_isWarm_33 ?_
  refine xe_callVIq (d' := 1) (y' := mX10_tells) dX10_isWarm_34 mlX10_328 mvX10_tells rfl (st124 hs) (by decide) rfl (by decide) (by decide) (Nat.le_of_ble_eq_true rfl) (c_X10_tellsq l g _ (by exact hs) (by exact hp) (by exact rm_L_of (h := h) ⟨rfl, rfl, rfl, rfl, rfl, rfl, rfl, rfl, rfl⟩ hL) _ (by omega) _) rfl (fun h1 hq => ?_)
  obtain ⟨p1, b1, rfl⟩ := hq
  refine xe_if_le (tgt := 44) dX10_isWarm_37 rfl (fun c1 => ?_) (fun c1 => ?_)
  · have e1 : ¬ 0 < q_wrm (q_I h 155) (q_I h 140) LW lv nc w m := by
      unfold q_wrm
      rw [← q_see_tel (hL 17 (by omega)) (q_I h 152)]
      exact Int32.not_lt.mpr c1
    refine xe_iconst dX10_isWarm_44 kc_0 ?_
    refine xe_ireturn dX10_isWarm_45 rfl (by first | rfl | decide +kernel) ?_
    exact ⟨by first | rw [if_neg e1] | rw [if_pos e1], _, _, _, rfl⟩
  · have e1 : 0 < q_wrm (q_I h 155) (q_I h 140) LW lv nc w m := by
      unfold q_wrm
      rw [← q_see_tel (hL 17 (by omega)) (q_I h 152)]
      exact Int32.not_le.mp c1
    refine xe_iconst dX10_isWarm_40 kc_1 ?_
    refine xe_goto (tgt := 45) dX10_isWarm_41 rfl ?_
    refine xe_ireturn dX10_isWarm_45 rfl (by first | rfl | decide +kernel) ?_
    exact ⟨by first | rw [if_neg e1] | rw [if_pos e1], _, _, _, rfl⟩
