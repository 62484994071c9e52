/-! the class: laws of a text -/
/-- h0 has become h: token t, n steps, those below n0 are as they were -/
def q_gs (K : q_TK) (m p n0 : Nat) (h0 : q_H) (t n : Nat) (h : q_H) : Prop := t ≤ m ∧ h.2 = h0.2 ∧ (∀ r, r ≠ 7 → r ≠ p → r ≠ p + 1 → r ≠ p + 2 → q_I h r = q_I h0 r) ∧ (∀ j, j ≠ 4 → j ≠ 5 → q_I h 7 j = q_I h0 7 j) ∧ q_I h 7 4 = nI t ∧ q_I h 7 5 = q_kap (tk_T K t) ∧ (∀ j, j ≠ 2 → q_I h p j = q_I h0 p j) ∧ q_I h p 2 = nI n ∧ n0 ≤ n ∧ (∀ i, i < n0 → q_I h (p + 1) i = q_I h0 (p + 1) i ∧ q_I h (p + 2) i = q_I h0 (p + 2) i)
theorem gs_gd {K : q_TK} {m p n0 t : Nat} {h0 h : q_H} {c : List (Nat × Int32)} (a : q_gd K m p n0 h0 (c, t) h) : q_gs K m p n0 h0 t (n0 + c.length) h := by
  obtain ⟨a0, a1, a2, a3, a4, a5, a6, a7, a8, a9⟩ := a
  exact ⟨a0, a1, a2, a3, a4, a5, a6, a7, Nat.le_add_right _ _, a8⟩
theorem gs_t {K : q_TK} {m p n0 t t1 n n1 : Nat} {h0 h h1 : q_H} (a : q_gs K m p n0 h0 t n h) (b : q_gs K m p n h t1 n1 h1) : q_gs K m p n0 h0 t1 n1 h1 := by
  obtain ⟨a0, a1, a2, a3, a4, a5, a6, a7, az, a8⟩ := a
  obtain ⟨b0, b1, b2, b3, b4, b5, b6, b7, bz, b8⟩ := b
  exact ⟨b0, b1.trans a1, fun r h1 h2 h3 h4 => (b2 r h1 h2 h3 h4).trans (a2 r h1 h2 h3 h4), fun j h1 h2 => (b3 j h1 h2).trans (a3 j h1 h2), b4, b5, fun j h1 => (b6 j h1).trans (a6 j h1), b7, by omega, fun i hi => ⟨((b8 i (by omega)).1).trans (a8 i hi).1, ((b8 i (by omega)).2).trans (a8 i hi).2⟩⟩
theorem gs_R {K : q_TK} {m p n0 t t1 n : Nat} {h0 h : q_H} (hp : p = 10 ∨ p = 22) (hR : ck_R h0 K m p t) (a : q_gs K m p n0 h0 t1 n h) : ck_R h K m p t1 := by
  obtain ⟨a0, a1, a2, a3, a4, a5, a6, a7, az, a8⟩ := a
  have eP : q_P h = q_P h0 := congrArg (fun z => z.2.1) a1
  have eJ : q_J h = q_J h0 := congrArg (fun z => z.1) a1
  exact ck_R_t hR (by rw [eP]) (a2 3 (by omega) (by omega) (by omega) (by omega)) (a2 4 (by omega) (by omega) (by omega) (by omega)) (by rw [eJ]) a0 a4 a5
theorem gs_n {K : q_TK} {m p n0 t n : Nat} {h0 h : q_H} (a : q_gs K m p n0 h0 t n h) : q_I h p 2 = nI n := a.2.2.2.2.2.2.2.1
theorem gs_s {K : q_TK} {m p n0 t n : Nat} {h0 h : q_H} (hs : q_Stat h0) (a : q_gs K m p n0 h0 t n h) : q_Stat h := q_Stat_2 a.2.1 hs
theorem gs_em {K : q_TK} {m p n0 t n : Nat} {h0 h : q_H} (a : q_gs K m p n0 h0 t n h) (hn : n ≤ 416) : q_em p h0 h := ⟨a.2.1, a.2.2.1, n, gs_n a, hn⟩
theorem gs_sg {K : q_TK} {m p n0 t n a : Nat} {h0 h : q_H} {c : List (Nat × Int32)} (b : q_gs K m p n0 h0 t n h) (ha : a + c.length ≤ n0) (hc : q_sgC (q_I h0 (p + 1)) (q_I h0 (p + 2)) a c) : q_sgC (q_I h (p + 1)) (q_I h (p + 2)) a c :=
  q_sgC_co (fun i h1 h2 => b.2.2.2.2.2.2.2.2.2 i (by omega)) hc
theorem q_sgC_of_app {S W : Nat → Int32} : ∀ {c c' : List (Nat × Int32)} {a : Nat}, q_sgC S W a (c ++ c') → q_sgC S W a c ∧ q_sgC S W (a + c.length) c'
  | [], _, _, h => ⟨trivial, h⟩
  | x :: c, c', a, h => by
    have ih := q_sgC_of_app (c := c) h.2.2
    refine ⟨⟨h.1, h.2.1, ih.1⟩, ?_⟩
    have := ih.2
    rwa [show a + 1 + c.length = a + (c.length + 1) by omega] at this
/-- a step that is none of a code -/
def q_ge (K : q_TK) (m p n : Nat) (k v : Int32) (h : q_H) (t : Nat) (h1 : q_H) : Prop := q_gs K m p n h t (n + 1) h1 ∧ q_I h1 (p + 1) n = k ∧ q_I h1 (p + 2) n = v
theorem bad_t {K : q_TK} {p : Nat} {h0 h h1 : q_H} {e : Nat × Nat} (a : q_em p h0 h) (b : q_bad K p h e h1) : q_bad K p h0 e h1 := ⟨em_t a b.1, b.2⟩
theorem bad_w {K : q_TK} {p : Nat} {h0 h : q_H} {e : Nat × Nat} {f : Nat → Int32} (hp : p = 10 ∨ p = 22) (a : q_bad K p h0 e h) : q_bad K p h0 e (q_wI h (p + 2) f) := by
  obtain ⟨⟨a1, a2, n, a3, a4⟩, a5, a6⟩ := a
  exact ⟨⟨a1, fun r h1 h2 h3 h4 => (q_Ine h4).trans (a2 r h1 h2 h3 h4), n, (congrFun (q_Ine (by omega)) 2).trans a3, a4⟩, (congrFun (q_Ine (by omega)) 7).trans a5, (congrFun (q_Ine (by omega)) 8).trans a6⟩
def q_lwA (K : q_TK) (m p n0 : Nat) (h0 : q_H) (o : (Nat × Nat) ⊕ (q_lawT × Nat)) (r : Option Value) (h : q_H) : Prop := match o with
  | .inl e => r = some (.int (nI 0)) ∧ q_bad K p h0 e h
  | .inr x => r = some (.int (nI 1)) ∧ ∃ n, q_gs K m p n0 h0 x.2 n h ∧ n ≤ 10 + x.2 ∧ q_cd (q_I h (p + 1)) (q_I h (p + 2)) n n0 x.1.1 x.1.2
def tx_pre (rows : List q_ROW) (o : (Nat × Nat) ⊕ (q_lawT × Nat)) : (Nat × Nat) ⊕ (q_lawT × Nat) := match o with
  | .inl e => .inl e
  | .inr x => .inr ((rows ++ x.1.1, x.1.2), x.2)
theorem tx_pre_b {rows : List q_ROW} {o : Option (Nat × Nat)} {x : (Nat × Nat) ⊕ (q_lawT × Nat)} : tx_pre rows (tx_b o x) = tx_b o (tx_pre rows x) := by cases o <;> rfl
theorem tx_pre_r {α : Type} {rows : List q_ROW} {o : (Nat × Nat) ⊕ α} {f : α → (Nat × Nat) ⊕ (q_lawT × Nat)} : tx_pre rows (tx_r o f) = tx_r o (fun x => tx_pre rows (f x)) := by cases o <;> rfl
theorem tx_ifs_acc {K : q_TK} : ∀ (k : Nat) (rows : List q_ROW) (t : Nat), tx_ifs K k rows t = tx_pre rows (tx_ifs K k [] t)
  | 0, rows, t => by
    rw [tx_ifs, tx_ifs]
    split
    · rfl
    · rw [tx_pre_r]
      congr 1
      funext x
      rw [tx_pre_b]
      show _ = tx_b _ (.inr ((rows ++ [], x.1), x.2 + 1))
      rw [List.append_nil]
  | k + 1, rows, t => by
    rw [tx_ifs, tx_ifs]
    split
    · rw [tx_pre_b, tx_pre_r]
      congr 2
      funext x
      rw [tx_pre_b, tx_pre_r]
      congr 2
      funext y
      rw [tx_pre_b, tx_pre_r]
      congr 2
      funext z
      rw [tx_pre_b]
      congr 1
      rw [tx_ifs_acc k (rows ++ [(x.1, y.1, z.1)]), tx_ifs_acc k ([] ++ [(x.1, y.1, z.1)])]
      cases tx_ifs K k [] (z.2 + 1) with
      | inl e => rfl
      | inr w =>
        show Sum.inr ((rows ++ [(x.1, y.1, z.1)] ++ w.1.1, w.1.2), w.2) = Sum.inr ((rows ++ ([] ++ [(x.1, y.1, z.1)] ++ w.1.1), w.1.2), w.2)
        rw [List.append_assoc, List.nil_append]
    · rw [tx_pre_r]
      congr 1
      funext x
      rw [tx_pre_b]
      show _ = tx_b _ (.inr ((rows ++ [], x.1), x.2 + 1))
      rw [List.append_nil]
theorem q_cd_co2 {S W S' W' : Nat → Int32} {n n' : Nat} (hn : n ≤ n') (hS : ∀ i, i < n → S' i = S i ∧ W' i = W i) (e : List (Nat × Int32)) : ∀ (r : List q_ROW) (a : Nat), q_cd S W n a r e → q_cd S' W' n' a r e
  | [], a, h => by
    obtain ⟨c1, c2, c3, c4⟩ := h
    exact ⟨q_sgC_co (fun i h1 h2 => hS i (by omega)) c1, c2, (hS _ (by omega)).1.trans c3, by omega⟩
  | (x, y, z) :: r, a, h => by
    obtain ⟨c1, c2, c3, c4, c5, c6, c7, c8, c9, c10, c11⟩ := h
    refine ⟨q_sgC_co (fun i h1 h2 => hS i (by omega)) c1, c2, q_sgC_co (fun i h1 h2 => hS i (by omega)) c3, c4, (hS _ (by omega)).1.trans c5, (hS _ (by omega)).2.trans c6, q_sgC_co (fun i h1 h2 => hS i (by omega)) c7, c8, (hS _ (by omega)).1.trans c9, by omega, q_cd_co2 hn hS e r _ c11⟩
/-- an if, and what follows -/
theorem lw_if {K : q_TK} {m p n t : Nat} {h hE h1 : q_H} {x y z : List (Nat × Int32)} {o : (Nat × Nat) ⊕ (q_lawT × Nat)} {r : Option Value} (hp : p = 10 ∨ p = 22) (hg : q_gs K m p n h t (n + x.length + y.length + 1 + z.length + 1) hE) (h4 : n + x.length + y.length + 1 + z.length + 1 ≤ 416)
    (cx : q_sgC (q_I hE (p + 1)) (q_I hE (p + 2)) n x) (wx : q_wf 30 x 0) (cy : q_sgC (q_I hE (p + 1)) (q_I hE (p + 2)) (n + x.length) y) (wy : q_wf 30 y 0) (cu : q_I hE (p + 1) (n + x.length + y.length) = nI 3) (cw : q_I hE (p + 2) (n + x.length + y.length) = nI (n + x.length + y.length + 1 + z.length + 1)) (cz : q_sgC (q_I hE (p + 1)) (q_I hE (p + 2)) (n + x.length + y.length + 1) z) (wz : q_wf 30 z 0) (ce : q_I hE (p + 1) (n + x.length + y.length + 1 + z.length) = nI 2)
    (q : q_lwA K m p (n + x.length + y.length + 1 + z.length + 1) hE o r h1) : q_lwA K m p n h (tx_pre [(x, y, z)] o) r h1 := by
  cases o with
  | inl e => exact ⟨q.1, bad_t (gs_em hg h4) q.2⟩
  | inr w =>
    obtain ⟨q1, n', q2, q3, q4⟩ := q
    have kp : ∀ i, i < n + x.length + y.length + 1 + z.length + 1 → q_I h1 (p + 1) i = q_I hE (p + 1) i ∧ q_I h1 (p + 2) i = q_I hE (p + 2) i := q2.2.2.2.2.2.2.2.2.2
    have hz := q2.2.2.2.2.2.2.2.2.1
    refine ⟨q1, n', gs_t hg q2, q3, ?_⟩
    show q_cd _ _ n' n ((x, y, z) :: w.1.1) w.1.2
    exact ⟨q_sgC_co (fun i h1 h2 => kp i (by omega)) cx, wx, q_sgC_co (fun i h1 h2 => kp i (by omega)) cy, wy, (kp _ (by omega)).1.trans cu, (kp _ (by omega)).2.trans cw, q_sgC_co (fun i h1 h2 => kp i (by omega)) cz, wz, (kp _ (by omega)).1.trans ce, by omega, q4⟩
theorem gs_w10 {K : q_TK} {m n0 t n j : Nat} {v : Int32} {h0 h : q_H} (a : q_gs K m 10 n0 h0 t n h) (hj : n0 ≤ j) : q_gs K m 10 n0 h0 t n (q_wI h 12 (upd (q_I h 12) j v)) := by
  obtain ⟨a0, a1, a2, a3, a4, a5, a6, a7, az, a8⟩ := a
  refine ⟨a0, a1, fun r h1 h2 h3 h4 => (q_Ine h4).trans (a2 r h1 h2 h3 h4), a3, a4, a5, a6, a7, az, fun i hi => ⟨(a8 i hi).1, ?_⟩⟩
  show upd (q_I h 12) j v i = _
  rw [pk_un (by omega)]
  exact (a8 i hi).2
theorem gs_w22 {K : q_TK} {m n0 t n j : Nat} {v : Int32} {h0 h : q_H} (a : q_gs K m 22 n0 h0 t n h) (hj : n0 ≤ j) : q_gs K m 22 n0 h0 t n (q_wI h 24 (upd (q_I h 24) j v)) := by
  obtain ⟨a0, a1, a2, a3, a4, a5, a6, a7, az, a8⟩ := a
  refine ⟨a0, a1, fun r h1 h2 h3 h4 => (q_Ine h4).trans (a2 r h1 h2 h3 h4), a3, a4, a5, a6, a7, az, fun i hi => ⟨(a8 i hi).1, ?_⟩⟩
  show upd (q_I h 24) j v i = _
  rw [pk_un (by omega)]
  exact (a8 i hi).2
theorem lw_st {K : q_TK} {m p n t1 : Nat} {h h1 h2 : q_H} {o : (Nat × Nat) ⊕ (q_lawT × Nat)} {r : Option Value} (hp : p = 10 ∨ p = 22) (hg : q_gd K m p n h ([], t1) h1) (h4 : n ≤ 416) (q : q_lwA K m p (n + ([] : List (Nat × Int32)).length) h1 o r h2) : q_lwA K m p n h o r h2 := by
  have q : q_lwA K m p n h1 o r h2 := q
  have hg2 : q_gs K m p n h t1 n h1 := gs_gd hg
  cases o with
  | inl e => exact ⟨q.1, bad_t (gs_em hg2 h4) q.2⟩
  | inr w =>
    obtain ⟨q1, n', q2, q3, q4⟩ := q
    exact ⟨q1, n', gs_t hg2 q2, q3, q4⟩
theorem g_emx10 (l : Launch) (g : q_GP) (h : q_H) (hs : q_Stat h) {K : q_TK} {m t n : Nat} (hR : ck_R h K m 10 t) (hn : q_I h 10 2 = nI n) (hn2 : n < 416) (k v : Int32) : q_Ct l g 0 mX3_emit [.ref 10, .int k, .int v] h (fun r h1 => r = some (.int (nI n)) ∧ q_ge K m 10 n k v h t h1) := by
  refine q_Ct_post (fun r h1 q => ?_) (c_X3_emit10 l g h hs hn hn2 k v)
  obtain ⟨rfl, rfl⟩ := q
  refine ⟨rfl, ⟨hR.2.2.2.1, rfl, fun r _ h1 h2 h3 => (q_Ine h3).trans ((q_Ine h2).trans (q_Ine h1)), fun j _ _ => rfl, hR.2.2.2.2.1, hR.2.2.2.2.2, fun j hj => ?_, rfl, Nat.le_succ _, fun i hi => ⟨?_, ?_⟩⟩, ?_, ?_⟩
  · show upd (q_I h 10) 2 _ j = _
    exact pk_un hj
  · show upd (q_I h (10 + 1)) n _ i = _
    exact pk_un (by omega)
  · show upd (q_I h (10 + 2)) n _ i = _
    exact pk_un (by omega)
  · show upd (q_I h (10 + 1)) n _ n = _
    exact pk_us
  · show upd (q_I h (10 + 2)) n _ n = _
    exact pk_us
theorem g_emx22 (l : Launch) (g : q_GP) (h : q_H) (hs : q_Stat h) {K : q_TK} {m t n : Nat} (hR : ck_R h K m 22 t) (hn : q_I h 22 2 = nI n) (hn2 : n < 416) (k v : Int32) : q_Ct l g 0 mX3_emit [.ref 22, .int k, .int v] h (fun r h1 => r = some (.int (nI n)) ∧ q_ge K m 22 n k v h t h1) := by
  refine q_Ct_post (fun r h1 q => ?_) (c_X3_emit22 l g h hs hn hn2 k v)
  obtain ⟨rfl, rfl⟩ := q
  refine ⟨rfl, ⟨hR.2.2.2.1, rfl, fun r _ h1 h2 h3 => (q_Ine h3).trans ((q_Ine h2).trans (q_Ine h1)), fun j _ _ => rfl, hR.2.2.2.2.1, hR.2.2.2.2.2, fun j hj => ?_, rfl, Nat.le_succ _, fun i hi => ⟨?_, ?_⟩⟩, ?_, ?_⟩
  · show upd (q_I h 22) 2 _ j = _
    exact pk_un hj
  · show upd (q_I h (22 + 1)) n _ i = _
    exact pk_un (by omega)
  · show upd (q_I h (22 + 2)) n _ i = _
    exact pk_un (by omega)
  · show upd (q_I h (22 + 1)) n _ n = _
    exact pk_us
  · show upd (q_I h (22 + 2)) n _ n = _
    exact pk_us
theorem lo185_10 (l : Launch) (g : q_GP) (h : q_H) (hs : q_Stat h) {d wc : Nat} {wx : Int32} (hd : 1 ≤ d) {i : Nat} {K : q_TK} {h0 : q_H} {e : Nat × Nat} (hb : q_bad K 10 h0 e h) (hI3 : q_P h 7 3 = some 10) {Q : Option Value → q_H → Prop} (hq : ∀ h1, q_bad K 10 h0 e h1 → Q (some (.int (nI 0))) h1) : q_Ex l g d mX5_takeLaw 185 [(0, .ref 7), (1, .ref wc), (2, .int wx), (3, .int (nI 0)), (4, .int (nI i))] [] h Q := by
  obtain ⟨nb, hnb, hnb2⟩ := hb.1.2.2
  have hI2 : q_P h 7 3 = q_P h 7 3 := rfl
  refine xe_iload_n dX5_takeLaw_185 rfl ?_
  refine xn_if_eq (tgt := 201) dX5_takeLaw_186 rfl (by omega) (fun c1 => ?_) (fun c1 => ?_)
  · refine xe_iconst dX5_takeLaw_201 kc_0 ?_
    refine xe_istore_n (i := 3) dX5_takeLaw_202 rfl (by decide) rfl ?_
    refine xe_aload_n dX5_takeLaw_203 rfl ?_
    refine xe_getP dX5_takeLaw_204 flX5_26 (st7 hs) (by decide) rfl hI3 ?_
    refine xe_iconst dX5_takeLaw_207 kc_2 ?_
    refine xe_iconst dX5_takeLaw_208 kc_0 ?_
    refine xe_callVIn (d' := 0) (y' := mX3_emit) dX5_takeLaw_209 mlX5_150 mvX3_emit rfl (st10 hs) (by decide) rfl (by omega) (by decide) (Nat.le_of_ble_eq_true rfl) (b_emit10 l g _ hs hnb hnb2 _ _) rfl (fun g2v g2 g2q => ?_)
    have hs : q_Stat g2 := q_Stat_2 g2q.2.1.1 hs
    have hb := bad_em hb g2q.2
    refine xe_pop dX5_takeLaw_212 rfl ?_
    refine xe_iload_n dX5_takeLaw_213 rfl ?_
    refine xn_if_eq (tgt := 230) dX5_takeLaw_214 rfl (by omega) (fun c3 => ?_) (fun c3 => ?_)
    · refine xe_iconst dX5_takeLaw_230 kc_0 ?_
      refine xe_ireturn dX5_takeLaw_231 rfl (by first | rfl | decide +kernel) ?_
      exact hq _ hb
    · omega
  · omega
theorem lo30_10 (l : Launch) (g : q_GP) (h : q_H) (hs : q_Stat h) {d wc : Nat} {wx : Int32} (hd : 1 ≤ d) {i : Nat} (hi : i ≤ 5) {K : q_TK} {h0 : q_H} {e : Nat × Nat} (hb : q_bad K 10 h0 e h) (hI3 : q_P h 7 3 = some 10) {Q : Option Value → q_H → Prop} (hq : ∀ h1, q_bad K 10 h0 e h1 → Q (some (.int (nI 0))) h1) : q_Ex l g d mX5_takeLaw 30 [(0, .ref 7), (1, .ref wc), (2, .int wx), (3, .int (nI 0)), (4, .int (nI i))] [] h Q := by
  refine xe_iload dX5_takeLaw_30 rfl ?_
  refine xe_iconst dX5_takeLaw_32 kc_4 ?_
  refine xn_icmp_gt (tgt := 185) dX5_takeLaw_33 rfl (by omega) (by omega) (fun c1 => ?_) (fun c1 => ?_)
  · refine xe_locals (L' := [(0, .ref 7), (1, .ref wc), (2, .int wx), (3, .int (nI 0)), (4, .int (nI i))]) (And.intro rfl (And.intro rfl (And.intro rfl (And.intro rfl (And.intro rfl trivial))))) ?_
    exact lo185_10 l g _ hs hd hb hI3 hq
  · refine xe_iload_n dX5_takeLaw_36 rfl ?_
    refine xn_if_eq (tgt := 185) dX5_takeLaw_37 rfl (by omega) (fun c2 => ?_) (fun c2 => ?_)
    · refine xe_locals (L' := [(0, .ref 7), (1, .ref wc), (2, .int wx), (3, .int (nI 0)), (4, .int (nI i))]) (And.intro rfl (And.intro rfl (And.intro rfl (And.intro rfl (And.intro rfl trivial))))) ?_
      exact lo185_10 l g _ hs hd hb hI3 hq
    · omega
theorem law_ifs10 (l : Launch) (g : q_GP) {K : q_TK} {m wc : Nat} {wx : Int32} : ∀ (k i : Nat) (h : q_H) (t n : Nat), q_Stat h → ck_R h K m 10 t → q_I h 10 2 = nI n → n ≤ 10 + t → i + k = 4 → q_Ex l g 22 mX5_takeLaw 30 [(0, .ref 7), (1, .ref wc), (2, .int wx), (3, .int (nI 1)), (4, .int (nI i))] [] h (q_lwA K m 10 n h (tx_ifs K k [] t)) := by
  intro k
  induction k with
  | zero =>
    intro i h t n hs hR hn hnt hik
    have hg := gd_r hR hn
    have hn := gd_n hg
    have h4 := hR.2.2.2.2.1
    have hI2 := hR.1
    have hI3 := hR.2.1
    have h5 := hR.2.2.2.2.2
    have h4m := hR.2.2.1.1
    have htm := hR.2.2.2.1
    have hok := (hR.2.2.1.2.2 t htm).1
    rw [tx_ifs]
    by_cases h28 : tk_T K t = 28
    · rw [if_pos h28]
      have hk5 : q_I h 7 5 = nI 264 := h5.trans (by rw [h28]; rfl)
      refine xe_iload dX5_takeLaw_30 rfl ?_
      refine xe_iconst dX5_takeLaw_32 kc_4 ?_
      refine xn_icmp_gt (tgt := 185) dX5_takeLaw_33 rfl (by omega) (by omega) (fun c1 => ?_) (fun c1 => ?_)
      · omega
      · refine xe_iload_n dX5_takeLaw_36 rfl ?_
        refine xn_if_eq (tgt := 185) dX5_takeLaw_37 rfl (by omega) (fun c2 => ?_) (fun c2 => ?_)
        · omega
        · refine xe_aload_n dX5_takeLaw_40 rfl ?_
          refine xe_getIv dX5_takeLaw_41 flX5_41 (st7 hs) (by decide) rfl (v := nI 264) (hk5) ?_
          refine xe_sipush dX5_takeLaw_44 ks_264 ?_
          refine xn_icmp_ne (tgt := 185) dX5_takeLaw_47 rfl (by omega) (by omega) (fun c3 => ?_) (fun c3 => ?_)
          · omega
          · refine xe_iload dX5_takeLaw_50 rfl ?_
            refine xe_iconst dX5_takeLaw_52 kc_4 ?_
            refine xn_icmp_ne (tgt := 62) dX5_takeLaw_53 rfl (by omega) (by omega) (fun c4 => ?_) (fun c4 => ?_)
            · omega
            · refine xe_aload_n dX5_takeLaw_56 rfl ?_
              refine xe_iconst dX5_takeLaw_57 kc_2 ?_
              refine xe_callVIq (d' := 0) (y' := mX5_fail) dX5_takeLaw_58 mlX5_119 mvX5_fail rfl (st7 hs) (by decide) rfl (by omega) (by decide) (Nat.le_of_ble_eq_true rfl) (b_fail10 l g _ hs hR hn (by first | omega | (simp only [List.length_append, List.length_nil, List.length_cons]; omega)) 2) rfl (fun g5 g5q => ?_)
              have hb := gd_bad hg (by first | omega | (simp only [List.length_append, List.length_nil, List.length_cons]; omega)) g5q
              refine xe_ireturn dX5_takeLaw_61 rfl (by first | rfl | decide +kernel) ?_
              exact ⟨rfl, hb⟩
    · skip
      rw [if_neg h28]
      cases hu : tx_sum K 6 t with
      | inl er =>
        refine xe_iload dX5_takeLaw_30 rfl ?_
        refine xe_iconst dX5_takeLaw_32 kc_4 ?_
        refine xn_icmp_gt (tgt := 185) dX5_takeLaw_33 rfl (by omega) (by omega) (fun c1 => ?_) (fun c1 => ?_)
        · omega
        · refine xe_iload_n dX5_takeLaw_36 rfl ?_
          refine xn_if_eq (tgt := 185) dX5_takeLaw_37 rfl (by omega) (fun c2 => ?_) (fun c2 => ?_)
          · omega
          · refine xe_aload_n dX5_takeLaw_40 rfl ?_
            refine xe_getIv dX5_takeLaw_41 flX5_41 (st7 hs) (by decide) rfl (v := (q_kap (tk_T K t))) (h5) ?_
            refine xe_sipush dX5_takeLaw_44 ks_264 ?_
            refine xe_icmp_ne (tgt := 185) dX5_takeLaw_47 rfl (fun c3 => ?_) (fun c3 => ?_)
            · refine xe_iload_n dX5_takeLaw_185 rfl ?_
              refine xn_if_eq (tgt := 201) dX5_takeLaw_186 rfl (by omega) (fun c4 => ?_) (fun c4 => ?_)
              · omega
              · refine xe_aload_n dX5_takeLaw_189 rfl ?_
                refine xe_iconst dX5_takeLaw_190 kc_0 ?_
                refine xe_callVIq (d' := 21) (y' := mX5_takeSum) dX5_takeLaw_191 mlX5_147 mvX5_takeSum rfl (st7 hs) (by decide) rfl (by omega) (by decide) (Nat.le_of_ble_eq_true rfl) ((show q_Ct l g 21 _ _ _ (fun r h1 => r = some (.int (nI 0)) ∧ q_bad K 10 _ er h1) from by have hC := xc_sum10 l g (K := K) (m := m) _ hs _ _ hR hn (by first | omega | (simp only [List.length_append, List.length_nil, List.length_cons]; omega)); rw [hu] at hC; exact hC)) rfl (fun g5 g5q => ?_)
                have hs := bad_s hs g5q
                have hb := gd_bad hg (by first | omega | (simp only [List.length_append, List.length_nil, List.length_cons]; omega)) g5q
                obtain ⟨nb, hnb, hnb2⟩ := g5q.1.2.2
                have hI2 := em_P g5q.1 hI2
                have hI3 := em_P g5q.1 hI3
                refine xn_if_eq (tgt := 201) dX5_takeLaw_194 rfl (by omega) (fun c6 => ?_) (fun c6 => ?_)
                · refine xe_iconst dX5_takeLaw_201 kc_0 ?_
                  refine xe_istore_n (i := 3) dX5_takeLaw_202 rfl (by decide) rfl ?_
                  refine xe_aload_n dX5_takeLaw_203 rfl ?_
                  refine xe_getP dX5_takeLaw_204 flX5_26 (st7 hs) (by decide) rfl hI3 ?_
                  refine xe_iconst dX5_takeLaw_207 kc_2 ?_
                  refine xe_iconst dX5_takeLaw_208 kc_0 ?_
                  refine xe_callVIn (d' := 0) (y' := mX3_emit) dX5_takeLaw_209 mlX5_150 mvX3_emit rfl (st10 hs) (by decide) rfl (by omega) (by decide) (Nat.le_of_ble_eq_true rfl) (b_emit10 l g _ hs hnb hnb2 _ _) rfl (fun g7v g7 g7q => ?_)
                  have hs : q_Stat g7 := q_Stat_2 g7q.2.1.1 hs
                  have hb := bad_em hb g7q.2
                  have hI2 := em_P g7q.2.1 hI2
                  have hI3 := em_P g7q.2.1 hI3
                  refine xe_pop dX5_takeLaw_212 rfl ?_
                  refine xe_iload_n dX5_takeLaw_213 rfl ?_
                  refine xn_if_eq (tgt := 230) dX5_takeLaw_214 rfl (by omega) (fun c8 => ?_) (fun c8 => ?_)
                  · refine xe_iconst dX5_takeLaw_230 kc_0 ?_
                    refine xe_ireturn dX5_takeLaw_231 rfl (by first | rfl | decide +kernel) ?_
                    exact ⟨rfl, hb⟩
                  · omega
                · omega
            · exact absurd (q_kap_inj (b := 28) hok (by decide) (by decide) c3) h28
      | inr x =>
        obtain ⟨g1, g2, g3, g4, g5⟩ := tx_sum_ok K 6 _ _ hu
        have wfx := tx_sum_wf hu
        show q_Ex l g 22 mX5_takeLaw 30 _ _ h (q_lwA K m 10 n h (tx_b (tx_ck (tk_T K) 4 x.2) (.inr (([], x.1), x.2 + 1))))
        cases hc : tx_ck (tk_T K) 4 x.2 with
        | some er =>
          refine xe_iload dX5_takeLaw_30 rfl ?_
          refine xe_iconst dX5_takeLaw_32 kc_4 ?_
          refine xn_icmp_gt (tgt := 185) dX5_takeLaw_33 rfl (by omega) (by omega) (fun c1 => ?_) (fun c1 => ?_)
          · omega
          · refine xe_iload_n dX5_takeLaw_36 rfl ?_
            refine xn_if_eq (tgt := 185) dX5_takeLaw_37 rfl (by omega) (fun c2 => ?_) (fun c2 => ?_)
            · omega
            · refine xe_aload_n dX5_takeLaw_40 rfl ?_
              refine xe_getIv dX5_takeLaw_41 flX5_41 (st7 hs) (by decide) rfl (v := (q_kap (tk_T K t))) (h5) ?_
              refine xe_sipush dX5_takeLaw_44 ks_264 ?_
              refine xe_icmp_ne (tgt := 185) dX5_takeLaw_47 rfl (fun c3 => ?_) (fun c3 => ?_)
              · refine xe_iload_n dX5_takeLaw_185 rfl ?_
                refine xn_if_eq (tgt := 201) dX5_takeLaw_186 rfl (by omega) (fun c4 => ?_) (fun c4 => ?_)
                · omega
                · refine xe_aload_n dX5_takeLaw_189 rfl ?_
                  refine xe_iconst dX5_takeLaw_190 kc_0 ?_
                  refine xe_callVIq (d' := 21) (y' := mX5_takeSum) dX5_takeLaw_191 mlX5_147 mvX5_takeSum rfl (st7 hs) (by decide) rfl (by omega) (by decide) (Nat.le_of_ble_eq_true rfl) ((show q_Ct l g 21 _ _ _ (fun r h1 => r = some (.int (nI 1)) ∧ q_gd K m 10 _ _ x h1) from by have hC := xc_sum10 l g (K := K) (m := m) _ hs _ _ hR hn (by first | omega | (simp only [List.length_append, List.length_nil, List.length_cons]; omega)); rw [hu] at hC; exact hC)) rfl (fun g5 g5q => ?_)
                  have hR := gd_R (by decide : 10 = 10 ∨ 10 = 22) hR g5q
                  have hs := gd_s hs g5q
                  have hg := gd_app hg g5q
                  have hn := gd_n hg
                  have h4 := hR.2.2.2.2.1
                  have hI2 := hR.1
                  have hI3 := hR.2.1
                  refine xn_if_eq (tgt := 201) dX5_takeLaw_194 rfl (by omega) (fun c6 => ?_) (fun c6 => ?_)
                  · omega
                  · refine xe_iconst dX5_takeLaw_197 kc_1 ?_
                    refine xe_goto (tgt := 202) dX5_takeLaw_198 rfl ?_
                    refine xe_istore_n (i := 3) dX5_takeLaw_202 rfl (by decide) rfl ?_
                    refine xe_aload_n dX5_takeLaw_203 rfl ?_
                    refine xe_getP dX5_takeLaw_204 flX5_26 (st7 hs) (by decide) rfl hI3 ?_
                    refine xe_iconst dX5_takeLaw_207 kc_2 ?_
                    refine xe_iconst dX5_takeLaw_208 kc_0 ?_
                    refine xe_callVIq (d' := 0) (y' := mX3_emit) dX5_takeLaw_209 mlX5_150 mvX3_emit rfl (st10 hs) (by decide) rfl (by omega) (by decide) (Nat.le_of_ble_eq_true rfl) (g_emx10 l g _ hs hR hn (by first | omega | (simp only [List.length_append, List.length_nil, List.length_cons]; omega)) (nI 2) _) rfl (fun g7 g7q => ?_)
                    have hE := g7q
                    have hgAhE := hg
                    have hR := gs_R (by decide : 10 = 10 ∨ 10 = 22) hR g7q.1
                    have hs := gs_s hs g7q.1
                    have hn := gs_n g7q.1
                    have hg := gd_r hR hn
                    have hn := gd_n hg
                    have h4 := hR.2.2.2.2.1
                    have hI2 := hR.1
                    have hI3 := hR.2.1
                    refine xe_pop dX5_takeLaw_212 rfl ?_
                    refine xe_iload_n dX5_takeLaw_213 rfl ?_
                    refine xn_if_eq (tgt := 230) dX5_takeLaw_214 rfl (by omega) (fun c8 => ?_) (fun c8 => ?_)
                    · omega
                    · refine xe_aload_n dX5_takeLaw_217 rfl ?_
                      refine xe_bipush dX5_takeLaw_218 kb_59 ?_
                      refine xe_callVIq (d' := 0) (y' := mX5_take) dX5_takeLaw_220 mlX5_63 mvX5_take rfl (st7 hs) (by decide) rfl (by omega) (by decide) (Nat.le_of_ble_eq_true rfl) (b_take10 l g _ hs hR hn (by first | omega | (simp only [List.length_append, List.length_nil, List.length_cons]; omega)) 4 59 rfl (by decide) (by decide) hc) rfl (fun g9 g9q => ?_)
                      have hs := bad_s hs g9q
                      have hb := gd_bad hg (by first | omega | (simp only [List.length_append, List.length_nil, List.length_cons]; omega)) g9q
                      obtain ⟨nb, hnb, hnb2⟩ := g9q.1.2.2
                      have hI2 := em_P g9q.1 hI2
                      have hI3 := em_P g9q.1 hI3
                      refine xn_if_eq (tgt := 230) dX5_takeLaw_223 rfl (by omega) (fun c10 => ?_) (fun c10 => ?_)
                      · refine xe_iconst dX5_takeLaw_230 kc_0 ?_
                        refine xe_ireturn dX5_takeLaw_231 rfl (by first | rfl | decide +kernel) ?_
                        exact ⟨rfl, bad_t (gs_em (gs_t (gs_gd hgAhE) hE.1) (by first | omega | (simp only [List.length_append, List.length_nil, List.length_cons]; omega))) hb⟩
                      · omega
              · exact absurd (q_kap_inj (b := 28) hok (by decide) (by decide) c3) h28
        | none =>
          refine xe_iload dX5_takeLaw_30 rfl ?_
          refine xe_iconst dX5_takeLaw_32 kc_4 ?_
          refine xn_icmp_gt (tgt := 185) dX5_takeLaw_33 rfl (by omega) (by omega) (fun c1 => ?_) (fun c1 => ?_)
          · omega
          · refine xe_iload_n dX5_takeLaw_36 rfl ?_
            refine xn_if_eq (tgt := 185) dX5_takeLaw_37 rfl (by omega) (fun c2 => ?_) (fun c2 => ?_)
            · omega
            · refine xe_aload_n dX5_takeLaw_40 rfl ?_
              refine xe_getIv dX5_takeLaw_41 flX5_41 (st7 hs) (by decide) rfl (v := (q_kap (tk_T K t))) (h5) ?_
              refine xe_sipush dX5_takeLaw_44 ks_264 ?_
              refine xe_icmp_ne (tgt := 185) dX5_takeLaw_47 rfl (fun c3 => ?_) (fun c3 => ?_)
              · refine xe_iload_n dX5_takeLaw_185 rfl ?_
                refine xn_if_eq (tgt := 201) dX5_takeLaw_186 rfl (by omega) (fun c4 => ?_) (fun c4 => ?_)
                · omega
                · refine xe_aload_n dX5_takeLaw_189 rfl ?_
                  refine xe_iconst dX5_takeLaw_190 kc_0 ?_
                  refine xe_callVIq (d' := 21) (y' := mX5_takeSum) dX5_takeLaw_191 mlX5_147 mvX5_takeSum rfl (st7 hs) (by decide) rfl (by omega) (by decide) (Nat.le_of_ble_eq_true rfl) ((show q_Ct l g 21 _ _ _ (fun r h1 => r = some (.int (nI 1)) ∧ q_gd K m 10 _ _ x h1) from by have hC := xc_sum10 l g (K := K) (m := m) _ hs _ _ hR hn (by first | omega | (simp only [List.length_append, List.length_nil, List.length_cons]; omega)); rw [hu] at hC; exact hC)) rfl (fun g5 g5q => ?_)
                  have hR := gd_R (by decide : 10 = 10 ∨ 10 = 22) hR g5q
                  have hs := gd_s hs g5q
                  have hg := gd_app hg g5q
                  have hn := gd_n hg
                  have h4 := hR.2.2.2.2.1
                  have hI2 := hR.1
                  have hI3 := hR.2.1
                  refine xn_if_eq (tgt := 201) dX5_takeLaw_194 rfl (by omega) (fun c6 => ?_) (fun c6 => ?_)
                  · omega
                  · refine xe_iconst dX5_takeLaw_197 kc_1 ?_
                    refine xe_goto (tgt := 202) dX5_takeLaw_198 rfl ?_
                    refine xe_istore_n (i := 3) dX5_takeLaw_202 rfl (by decide) rfl ?_
                    refine xe_aload_n dX5_takeLaw_203 rfl ?_
                    refine xe_getP dX5_takeLaw_204 flX5_26 (st7 hs) (by decide) rfl hI3 ?_
                    refine xe_iconst dX5_takeLaw_207 kc_2 ?_
                    refine xe_iconst dX5_takeLaw_208 kc_0 ?_
                    refine xe_callVIq (d' := 0) (y' := mX3_emit) dX5_takeLaw_209 mlX5_150 mvX3_emit rfl (st10 hs) (by decide) rfl (by omega) (by decide) (Nat.le_of_ble_eq_true rfl) (g_emx10 l g _ hs hR hn (by first | omega | (simp only [List.length_append, List.length_nil, List.length_cons]; omega)) (nI 2) _) rfl (fun g7 g7q => ?_)
                    have hE := g7q
                    have hgAhE := hg
                    have hR := gs_R (by decide : 10 = 10 ∨ 10 = 22) hR g7q.1
                    have hs := gs_s hs g7q.1
                    have hn := gs_n g7q.1
                    have hg := gd_r hR hn
                    have hn := gd_n hg
                    have h4 := hR.2.2.2.2.1
                    have hI2 := hR.1
                    have hI3 := hR.2.1
                    refine xe_pop dX5_takeLaw_212 rfl ?_
                    refine xe_iload_n dX5_takeLaw_213 rfl ?_
                    refine xn_if_eq (tgt := 230) dX5_takeLaw_214 rfl (by omega) (fun c8 => ?_) (fun c8 => ?_)
                    · omega
                    · refine xe_aload_n dX5_takeLaw_217 rfl ?_
                      refine xe_bipush dX5_takeLaw_218 kb_59 ?_
                      refine xe_callVIq (d' := 0) (y' := mX5_take) dX5_takeLaw_220 mlX5_63 mvX5_take rfl (st7 hs) (by decide) rfl (by omega) (by decide) (Nat.le_of_ble_eq_true rfl) (g_take10 l g _ hs hR hn 4 59 rfl (by decide) (by decide) (by decide) hc) rfl (fun g9 g9q => ?_)
                      have hR := gd_R (by decide : 10 = 10 ∨ 10 = 22) hR g9q
                      have hs := gd_s hs g9q
                      have hg := gd_tk hg g9q
                      have hn := gd_n hg
                      have h4 := hR.2.2.2.2.1
                      have hI2 := hR.1
                      have hI3 := hR.2.1
                      refine xn_if_eq (tgt := 230) dX5_takeLaw_223 rfl (by omega) (fun c10 => ?_) (fun c10 => ?_)
                      · omega
                      · refine xe_iconst dX5_takeLaw_226 kc_1 ?_
                        refine xe_goto (tgt := 231) dX5_takeLaw_227 rfl ?_
                        refine xe_ireturn dX5_takeLaw_231 rfl (by first | rfl | decide +kernel) ?_
                        have hZ := gs_gd hg
                        have hX := hgAhE.2.2.2.2.2.2.2.2.2
                        rw [List.nil_append] at hX
                        have e0 : n + ([] ++ x.1).length = n + x.1.length := by rw [List.nil_append]
                        have hS := hE.2.1
                        rw [e0] at hS
                        have hZ2 := hZ.2.2.2.2.2.2.2.2.2
                        refine ⟨rfl, n + x.1.length + 1, ?_, (by first | omega | (simp only [List.length_append, List.length_nil, List.length_cons]; omega)), ?_⟩
                        · have := gs_t (gs_t (gs_gd hgAhE) hE.1) hZ
                          simpa using this
                        · have kp1 := hE.1.2.2.2.2.2.2.2.2.2
                          rw [e0] at kp1 hZ2
                          show q_cd _ _ (n + x.1.length + 1) n [] x.1
                          exact ⟨q_sgC_co (fun i h1 h2 => ⟨((hZ2 i (by omega)).1).trans (kp1 i (by omega)).1, ((hZ2 i (by omega)).2).trans (kp1 i (by omega)).2⟩) hX, wfx, (hZ2 _ (by omega)).1.trans hS, by omega⟩
              · exact absurd (q_kap_inj (b := 28) hok (by decide) (by decide) c3) h28
  | succ k ih =>
    intro i h t n hs hR hn hnt hik
    have hg := gd_r hR hn
    have hn := gd_n hg
    have h4 := hR.2.2.2.2.1
    have hI2 := hR.1
    have hI3 := hR.2.1
    have h5 := hR.2.2.2.2.2
    have h4m := hR.2.2.1.1
    have htm := hR.2.2.2.1
    have hok := (hR.2.2.1.2.2 t htm).1
    rw [tx_ifs]
    by_cases h28 : tk_T K t = 28
    · rw [if_pos h28]
      have hk5 : q_I h 7 5 = nI 264 := h5.trans (by rw [h28]; rfl)
      cases kc1 : tx_ck (tk_T K) 28 t with
      | some er =>
        refine xe_iload dX5_takeLaw_30 rfl ?_
        refine xe_iconst dX5_takeLaw_32 kc_4 ?_
        refine xn_icmp_gt (tgt := 185) dX5_takeLaw_33 rfl (by omega) (by omega) (fun c1 => ?_) (fun c1 => ?_)
        · omega
        · refine xe_iload_n dX5_takeLaw_36 rfl ?_
          refine xn_if_eq (tgt := 185) dX5_takeLaw_37 rfl (by omega) (fun c2 => ?_) (fun c2 => ?_)
          · omega
          · refine xe_aload_n dX5_takeLaw_40 rfl ?_
            refine xe_getIv dX5_takeLaw_41 flX5_41 (st7 hs) (by decide) rfl (v := nI 264) (hk5) ?_
            refine xe_sipush dX5_takeLaw_44 ks_264 ?_
            refine xn_icmp_ne (tgt := 185) dX5_takeLaw_47 rfl (by omega) (by omega) (fun c3 => ?_) (fun c3 => ?_)
            · omega
            · refine xe_iload dX5_takeLaw_50 rfl ?_
              refine xe_iconst dX5_takeLaw_52 kc_4 ?_
              refine xn_icmp_ne (tgt := 62) dX5_takeLaw_53 rfl (by omega) (by omega) (fun c4 => ?_) (fun c4 => ?_)
              · refine xe_aload_n dX5_takeLaw_62 rfl ?_
                refine xe_sipush dX5_takeLaw_63 ks_264 ?_
                refine xe_callVIq (d' := 0) (y' := mX5_take) dX5_takeLaw_66 mlX5_63 mvX5_take rfl (st7 hs) (by decide) rfl (by omega) (by decide) (Nat.le_of_ble_eq_true rfl) (b_take10 l g _ hs hR hn (by first | omega | (simp only [List.length_append, List.length_nil, List.length_cons]; omega)) 28 264 rfl (by decide) (by decide) kc1) rfl (fun g5 g5q => ?_)
                have hs := bad_s hs g5q
                have hb := gd_bad hg (by first | omega | (simp only [List.length_append, List.length_nil, List.length_cons]; omega)) g5q
                obtain ⟨nb, hnb, hnb2⟩ := g5q.1.2.2
                have hI2 := em_P g5q.1 hI2
                have hI3 := em_P g5q.1 hI3
                refine xn_if_eq (tgt := 111) dX5_takeLaw_69 rfl (by omega) (fun c6 => ?_) (fun c6 => ?_)
                · refine xe_iconst dX5_takeLaw_111 kc_0 ?_
                  refine xe_istore_n (i := 3) dX5_takeLaw_112 rfl (by decide) rfl ?_
                  refine xe_aload_n dX5_takeLaw_113 rfl ?_
                  refine xe_getP dX5_takeLaw_114 flX5_26 (st7 hs) (by decide) rfl hI3 ?_
                  refine xe_iconst dX5_takeLaw_117 kc_3 ?_
                  refine xe_iconst dX5_takeLaw_118 kc_0 ?_
                  refine xe_callVIn (d' := 0) (y' := mX3_emit) dX5_takeLaw_119 mlX5_150 mvX3_emit rfl (st10 hs) (by decide) rfl (by omega) (by decide) (Nat.le_of_ble_eq_true rfl) (b_emit10 l g _ hs hnb hnb2 _ _) rfl (fun g7v g7 g7q => ?_)
                  obtain ⟨⟨g7j, rfl, g7jl⟩, g7r⟩ := g7q
                  have hs : q_Stat g7 := q_Stat_2 g7r.1.1 hs
                  have hb := bad_em hb g7r
                  obtain ⟨nb, hnb, hnb2⟩ := g7r.1.2.2
                  have hI2 := em_P g7r.1 hI2
                  have hI3 := em_P g7r.1 hI3
                  refine xe_istore dX5_takeLaw_122 (by decide) rfl ?_
                  refine xe_iload_n dX5_takeLaw_124 rfl ?_
                  refine xn_if_eq (tgt := 150) dX5_takeLaw_125 rfl (by omega) (fun c8 => ?_) (fun c8 => ?_)
                  · refine xe_iconst dX5_takeLaw_150 kc_0 ?_
                    refine xe_istore_n (i := 3) dX5_takeLaw_151 rfl (by decide) rfl ?_
                    refine xe_aload_n dX5_takeLaw_152 rfl ?_
                    refine xe_getP dX5_takeLaw_153 flX5_26 (st7 hs) (by decide) rfl hI3 ?_
                    refine xe_iconst dX5_takeLaw_156 kc_2 ?_
                    refine xe_iconst dX5_takeLaw_157 kc_0 ?_
                    refine xe_callVIn (d' := 0) (y' := mX3_emit) dX5_takeLaw_158 mlX5_150 mvX3_emit rfl (st10 hs) (by decide) rfl (by omega) (by decide) (Nat.le_of_ble_eq_true rfl) (b_emit10 l g _ hs hnb hnb2 _ _) rfl (fun g9v g9 g9q => ?_)
                    obtain ⟨⟨g9j, rfl, g9jl⟩, g9r⟩ := g9q
                    have hs : q_Stat g9 := q_Stat_2 g9r.1.1 hs
                    have hb := bad_em hb g9r
                    obtain ⟨nb, hnb, hnb2⟩ := g9r.1.2.2
                    have hI2 := em_P g9r.1 hI2
                    have hI3 := em_P g9r.1 hI3
                    refine xe_pop dX5_takeLaw_161 rfl ?_
                    refine xe_aload_n dX5_takeLaw_162 rfl ?_
                    refine xe_getP dX5_takeLaw_163 flX5_26 (st7 hs) (by decide) rfl hI3 ?_
                    refine xe_getP dX5_takeLaw_166 flX5_154 (st10 hs) (by decide) rfl (sp10_1 hs) ?_
                    refine xe_iload dX5_takeLaw_169 rfl ?_
                    refine xe_aload_n dX5_takeLaw_171 rfl ?_
                    refine xe_getP dX5_takeLaw_172 flX5_26 (st7 hs) (by decide) rfl hI3 ?_
                    refine xe_getIv dX5_takeLaw_175 flX5_144 (st10 hs) (by decide) rfl (v := nI nb) (hnb) ?_
                    refine xn_iast dX5_takeLaw_178 (st12 hs) (by first | omega | (simp only [List.length_append, List.length_nil, List.length_cons]; omega)) (by decide) ?_
                    refine xn_iinc dX5_takeLaw_179 rfl kc_1 ?_
                    refine xe_goto (tgt := 30) dX5_takeLaw_182 rfl ?_
                    refine xe_locals (L' := [(0, .ref 7), (1, .ref wc), (2, .int wx), (3, .int (nI 0)), (4, .int (nI (i + 1)))]) (And.intro rfl (And.intro rfl (And.intro rfl (And.intro rfl (And.intro rfl trivial))))) ?_
                    exact lo30_10 l g _ (by exact hs) (by decide) (by omega) (bad_w (by decide : 10 = 10 ∨ 10 = 22) hb) (by exact hI3) (fun _ q => ⟨rfl, q⟩)
                  · omega
                · omega
              · omega
      | none =>
        show q_Ex l g 22 mX5_takeLaw 30 _ _ h (q_lwA K m 10 n h (tx_r (tx_sum K 6 (t + 1)) _))
        cases u1 : tx_sum K 6 (t + 1) with
        | inl er =>
          refine xe_iload dX5_takeLaw_30 rfl ?_
          refine xe_iconst dX5_takeLaw_32 kc_4 ?_
          refine xn_icmp_gt (tgt := 185) dX5_takeLaw_33 rfl (by omega) (by omega) (fun c1 => ?_) (fun c1 => ?_)
          · omega
          · refine xe_iload_n dX5_takeLaw_36 rfl ?_
            refine xn_if_eq (tgt := 185) dX5_takeLaw_37 rfl (by omega) (fun c2 => ?_) (fun c2 => ?_)
            · omega
            · refine xe_aload_n dX5_takeLaw_40 rfl ?_
              refine xe_getIv dX5_takeLaw_41 flX5_41 (st7 hs) (by decide) rfl (v := nI 264) (hk5) ?_
              refine xe_sipush dX5_takeLaw_44 ks_264 ?_
              refine xn_icmp_ne (tgt := 185) dX5_takeLaw_47 rfl (by omega) (by omega) (fun c3 => ?_) (fun c3 => ?_)
              · omega
              · refine xe_iload dX5_takeLaw_50 rfl ?_
                refine xe_iconst dX5_takeLaw_52 kc_4 ?_
                refine xn_icmp_ne (tgt := 62) dX5_takeLaw_53 rfl (by omega) (by omega) (fun c4 => ?_) (fun c4 => ?_)
                · refine xe_aload_n dX5_takeLaw_62 rfl ?_
                  refine xe_sipush dX5_takeLaw_63 ks_264 ?_
                  refine xe_callVIq (d' := 0) (y' := mX5_take) dX5_takeLaw_66 mlX5_63 mvX5_take rfl (st7 hs) (by decide) rfl (by omega) (by decide) (Nat.le_of_ble_eq_true rfl) (g_take10 l g _ hs hR hn 28 264 rfl (by decide) (by decide) (by decide) kc1) rfl (fun g5 g5q => ?_)
                  have hR := gd_R (by decide : 10 = 10 ∨ 10 = 22) hR g5q
                  have hs := gd_s hs g5q
                  have hg := gd_tk hg g5q
                  have hn := gd_n hg
                  have h4 := hR.2.2.2.2.1
                  have hI2 := hR.1
                  have hI3 := hR.2.1
                  refine xn_if_eq (tgt := 111) dX5_takeLaw_69 rfl (by omega) (fun c6 => ?_) (fun c6 => ?_)
                  · omega
                  · refine xe_aload_n dX5_takeLaw_72 rfl ?_
                    refine xe_iconst dX5_takeLaw_73 kc_0 ?_
                    refine xe_callVIq (d' := 21) (y' := mX5_takeSum) dX5_takeLaw_74 mlX5_147 mvX5_takeSum rfl (st7 hs) (by decide) rfl (by omega) (by decide) (Nat.le_of_ble_eq_true rfl) ((show q_Ct l g 21 _ _ _ (fun r h1 => r = some (.int (nI 0)) ∧ q_bad K 10 _ er h1) from by have hC := xc_sum10 l g (K := K) (m := m) _ hs _ _ hR hn (by first | omega | (simp only [List.length_append, List.length_nil, List.length_cons]; omega)); rw [u1] at hC; exact hC)) rfl (fun g7 g7q => ?_)
                    have hs := bad_s hs g7q
                    have hb := gd_bad hg (by first | omega | (simp only [List.length_append, List.length_nil, List.length_cons]; omega)) g7q
                    obtain ⟨nb, hnb, hnb2⟩ := g7q.1.2.2
                    have hI2 := em_P g7q.1 hI2
                    have hI3 := em_P g7q.1 hI3
                    refine xn_if_eq (tgt := 111) dX5_takeLaw_77 rfl (by omega) (fun c8 => ?_) (fun c8 => ?_)
                    · refine xe_iconst dX5_takeLaw_111 kc_0 ?_
                      refine xe_istore_n (i := 3) dX5_takeLaw_112 rfl (by decide) rfl ?_
                      refine xe_aload_n dX5_takeLaw_113 rfl ?_
                      refine xe_getP dX5_takeLaw_114 flX5_26 (st7 hs) (by decide) rfl hI3 ?_
                      refine xe_iconst dX5_takeLaw_117 kc_3 ?_
                      refine xe_iconst dX5_takeLaw_118 kc_0 ?_
                      refine xe_callVIn (d' := 0) (y' := mX3_emit) dX5_takeLaw_119 mlX5_150 mvX3_emit rfl (st10 hs) (by decide) rfl (by omega) (by decide) (Nat.le_of_ble_eq_true rfl) (b_emit10 l g _ hs hnb hnb2 _ _) rfl (fun g9v g9 g9q => ?_)
                      obtain ⟨⟨g9j, rfl, g9jl⟩, g9r⟩ := g9q
                      have hs : q_Stat g9 := q_Stat_2 g9r.1.1 hs
                      have hb := bad_em hb g9r
                      obtain ⟨nb, hnb, hnb2⟩ := g9r.1.2.2
                      have hI2 := em_P g9r.1 hI2
                      have hI3 := em_P g9r.1 hI3
                      refine xe_istore dX5_takeLaw_122 (by decide) rfl ?_
                      refine xe_iload_n dX5_takeLaw_124 rfl ?_
                      refine xn_if_eq (tgt := 150) dX5_takeLaw_125 rfl (by omega) (fun c10 => ?_) (fun c10 => ?_)
                      · refine xe_iconst dX5_takeLaw_150 kc_0 ?_
                        refine xe_istore_n (i := 3) dX5_takeLaw_151 rfl (by decide) rfl ?_
                        refine xe_aload_n dX5_takeLaw_152 rfl ?_
                        refine xe_getP dX5_takeLaw_153 flX5_26 (st7 hs) (by decide) rfl hI3 ?_
                        refine xe_iconst dX5_takeLaw_156 kc_2 ?_
                        refine xe_iconst dX5_takeLaw_157 kc_0 ?_
                        refine xe_callVIn (d' := 0) (y' := mX3_emit) dX5_takeLaw_158 mlX5_150 mvX3_emit rfl (st10 hs) (by decide) rfl (by omega) (by decide) (Nat.le_of_ble_eq_true rfl) (b_emit10 l g _ hs hnb hnb2 _ _) rfl (fun g11v g11 g11q => ?_)
                        obtain ⟨⟨g11j, rfl, g11jl⟩, g11r⟩ := g11q
                        have hs : q_Stat g11 := q_Stat_2 g11r.1.1 hs
                        have hb := bad_em hb g11r
                        obtain ⟨nb, hnb, hnb2⟩ := g11r.1.2.2
                        have hI2 := em_P g11r.1 hI2
                        have hI3 := em_P g11r.1 hI3
                        refine xe_pop dX5_takeLaw_161 rfl ?_
                        refine xe_aload_n dX5_takeLaw_162 rfl ?_
                        refine xe_getP dX5_takeLaw_163 flX5_26 (st7 hs) (by decide) rfl hI3 ?_
                        refine xe_getP dX5_takeLaw_166 flX5_154 (st10 hs) (by decide) rfl (sp10_1 hs) ?_
                        refine xe_iload dX5_takeLaw_169 rfl ?_
                        refine xe_aload_n dX5_takeLaw_171 rfl ?_
                        refine xe_getP dX5_takeLaw_172 flX5_26 (st7 hs) (by decide) rfl hI3 ?_
                        refine xe_getIv dX5_takeLaw_175 flX5_144 (st10 hs) (by decide) rfl (v := nI nb) (hnb) ?_
                        refine xn_iast dX5_takeLaw_178 (st12 hs) (by first | omega | (simp only [List.length_append, List.length_nil, List.length_cons]; omega)) (by decide) ?_
                        refine xn_iinc dX5_takeLaw_179 rfl kc_1 ?_
                        refine xe_goto (tgt := 30) dX5_takeLaw_182 rfl ?_
                        refine xe_locals (L' := [(0, .ref 7), (1, .ref wc), (2, .int wx), (3, .int (nI 0)), (4, .int (nI (i + 1)))]) (And.intro rfl (And.intro rfl (And.intro rfl (And.intro rfl (And.intro rfl trivial))))) ?_
                        exact lo30_10 l g _ (by exact hs) (by decide) (by omega) (bad_w (by decide : 10 = 10 ∨ 10 = 22) hb) (by exact hI3) (fun _ q => ⟨rfl, q⟩)
                      · omega
                    · omega
                · omega
        | inr x =>
          obtain ⟨x1, x2, x3, x4, x5⟩ := tx_sum_ok K 6 _ _ u1
          have wfx := tx_sum_wf u1
          show q_Ex l g 22 mX5_takeLaw 30 _ _ h (q_lwA K m 10 n h (tx_b (tx_ck (tk_T K) 13 x.2) _))
          cases kc2 : tx_ck (tk_T K) 13 x.2 with
          | some er =>
            refine xe_iload dX5_takeLaw_30 rfl ?_
            refine xe_iconst dX5_takeLaw_32 kc_4 ?_
            refine xn_icmp_gt (tgt := 185) dX5_takeLaw_33 rfl (by omega) (by omega) (fun c1 => ?_) (fun c1 => ?_)
            · omega
            · refine xe_iload_n dX5_takeLaw_36 rfl ?_
              refine xn_if_eq (tgt := 185) dX5_takeLaw_37 rfl (by omega) (fun c2 => ?_) (fun c2 => ?_)
              · omega
              · refine xe_aload_n dX5_takeLaw_40 rfl ?_
                refine xe_getIv dX5_takeLaw_41 flX5_41 (st7 hs) (by decide) rfl (v := nI 264) (hk5) ?_
                refine xe_sipush dX5_takeLaw_44 ks_264 ?_
                refine xn_icmp_ne (tgt := 185) dX5_takeLaw_47 rfl (by omega) (by omega) (fun c3 => ?_) (fun c3 => ?_)
                · omega
                · refine xe_iload dX5_takeLaw_50 rfl ?_
                  refine xe_iconst dX5_takeLaw_52 kc_4 ?_
                  refine xn_icmp_ne (tgt := 62) dX5_takeLaw_53 rfl (by omega) (by omega) (fun c4 => ?_) (fun c4 => ?_)
                  · refine xe_aload_n dX5_takeLaw_62 rfl ?_
                    refine xe_sipush dX5_takeLaw_63 ks_264 ?_
                    refine xe_callVIq (d' := 0) (y' := mX5_take) dX5_takeLaw_66 mlX5_63 mvX5_take rfl (st7 hs) (by decide) rfl (by omega) (by decide) (Nat.le_of_ble_eq_true rfl) (g_take10 l g _ hs hR hn 28 264 rfl (by decide) (by decide) (by decide) kc1) rfl (fun g5 g5q => ?_)
                    have hR := gd_R (by decide : 10 = 10 ∨ 10 = 22) hR g5q
                    have hs := gd_s hs g5q
                    have hg := gd_tk hg g5q
                    have hn := gd_n hg
                    have h4 := hR.2.2.2.2.1
                    have hI2 := hR.1
                    have hI3 := hR.2.1
                    refine xn_if_eq (tgt := 111) dX5_takeLaw_69 rfl (by omega) (fun c6 => ?_) (fun c6 => ?_)
                    · omega
                    · refine xe_aload_n dX5_takeLaw_72 rfl ?_
                      refine xe_iconst dX5_takeLaw_73 kc_0 ?_
                      refine xe_callVIq (d' := 21) (y' := mX5_takeSum) dX5_takeLaw_74 mlX5_147 mvX5_takeSum rfl (st7 hs) (by decide) rfl (by omega) (by decide) (Nat.le_of_ble_eq_true rfl) ((show q_Ct l g 21 _ _ _ (fun r h1 => r = some (.int (nI 1)) ∧ q_gd K m 10 _ _ x h1) from by have hC := xc_sum10 l g (K := K) (m := m) _ hs _ _ hR hn (by first | omega | (simp only [List.length_append, List.length_nil, List.length_cons]; omega)); rw [u1] at hC; exact hC)) rfl (fun g7 g7q => ?_)
                      have hR := gd_R (by decide : 10 = 10 ∨ 10 = 22) hR g7q
                      have hs := gd_s hs g7q
                      have hg := gd_app hg g7q
                      have hn := gd_n hg
                      have h4 := hR.2.2.2.2.1
                      have hI2 := hR.1
                      have hI3 := hR.2.1
                      refine xn_if_eq (tgt := 111) dX5_takeLaw_77 rfl (by omega) (fun c8 => ?_) (fun c8 => ?_)
                      · omega
                      · refine xe_aload_n dX5_takeLaw_80 rfl ?_
                        refine xe_bipush dX5_takeLaw_81 kb_60 ?_
                        refine xe_callVIq (d' := 0) (y' := mX5_take) dX5_takeLaw_83 mlX5_63 mvX5_take rfl (st7 hs) (by decide) rfl (by omega) (by decide) (Nat.le_of_ble_eq_true rfl) (b_take10 l g _ hs hR hn (by first | omega | (simp only [List.length_append, List.length_nil, List.length_cons]; omega)) 13 60 rfl (by decide) (by decide) kc2) rfl (fun g9 g9q => ?_)
                        have hs := bad_s hs g9q
                        have hb := gd_bad hg (by first | omega | (simp only [List.length_append, List.length_nil, List.length_cons]; omega)) g9q
                        obtain ⟨nb, hnb, hnb2⟩ := g9q.1.2.2
                        have hI2 := em_P g9q.1 hI2
                        have hI3 := em_P g9q.1 hI3
                        refine xn_if_eq (tgt := 111) dX5_takeLaw_86 rfl (by omega) (fun c10 => ?_) (fun c10 => ?_)
                        · refine xe_iconst dX5_takeLaw_111 kc_0 ?_
                          refine xe_istore_n (i := 3) dX5_takeLaw_112 rfl (by decide) rfl ?_
                          refine xe_aload_n dX5_takeLaw_113 rfl ?_
                          refine xe_getP dX5_takeLaw_114 flX5_26 (st7 hs) (by decide) rfl hI3 ?_
                          refine xe_iconst dX5_takeLaw_117 kc_3 ?_
                          refine xe_iconst dX5_takeLaw_118 kc_0 ?_
                          refine xe_callVIn (d' := 0) (y' := mX3_emit) dX5_takeLaw_119 mlX5_150 mvX3_emit rfl (st10 hs) (by decide) rfl (by omega) (by decide) (Nat.le_of_ble_eq_true rfl) (b_emit10 l g _ hs hnb hnb2 _ _) rfl (fun g11v g11 g11q => ?_)
                          obtain ⟨⟨g11j, rfl, g11jl⟩, g11r⟩ := g11q
                          have hs : q_Stat g11 := q_Stat_2 g11r.1.1 hs
                          have hb := bad_em hb g11r
                          obtain ⟨nb, hnb, hnb2⟩ := g11r.1.2.2
                          have hI2 := em_P g11r.1 hI2
                          have hI3 := em_P g11r.1 hI3
                          refine xe_istore dX5_takeLaw_122 (by decide) rfl ?_
                          refine xe_iload_n dX5_takeLaw_124 rfl ?_
                          refine xn_if_eq (tgt := 150) dX5_takeLaw_125 rfl (by omega) (fun c12 => ?_) (fun c12 => ?_)
                          · refine xe_iconst dX5_takeLaw_150 kc_0 ?_
                            refine xe_istore_n (i := 3) dX5_takeLaw_151 rfl (by decide) rfl ?_
                            refine xe_aload_n dX5_takeLaw_152 rfl ?_
                            refine xe_getP dX5_takeLaw_153 flX5_26 (st7 hs) (by decide) rfl hI3 ?_
                            refine xe_iconst dX5_takeLaw_156 kc_2 ?_
                            refine xe_iconst dX5_takeLaw_157 kc_0 ?_
                            refine xe_callVIn (d' := 0) (y' := mX3_emit) dX5_takeLaw_158 mlX5_150 mvX3_emit rfl (st10 hs) (by decide) rfl (by omega) (by decide) (Nat.le_of_ble_eq_true rfl) (b_emit10 l g _ hs hnb hnb2 _ _) rfl (fun g13v g13 g13q => ?_)
                            obtain ⟨⟨g13j, rfl, g13jl⟩, g13r⟩ := g13q
                            have hs : q_Stat g13 := q_Stat_2 g13r.1.1 hs
                            have hb := bad_em hb g13r
                            obtain ⟨nb, hnb, hnb2⟩ := g13r.1.2.2
                            have hI2 := em_P g13r.1 hI2
                            have hI3 := em_P g13r.1 hI3
                            refine xe_pop dX5_takeLaw_161 rfl ?_
                            refine xe_aload_n dX5_takeLaw_162 rfl ?_
                            refine xe_getP dX5_takeLaw_163 flX5_26 (st7 hs) (by decide) rfl hI3 ?_
                            refine xe_getP dX5_takeLaw_166 flX5_154 (st10 hs) (by decide) rfl (sp10_1 hs) ?_
                            refine xe_iload dX5_takeLaw_169 rfl ?_
                            refine xe_aload_n dX5_takeLaw_171 rfl ?_
                            refine xe_getP dX5_takeLaw_172 flX5_26 (st7 hs) (by decide) rfl hI3 ?_
                            refine xe_getIv dX5_takeLaw_175 flX5_144 (st10 hs) (by decide) rfl (v := nI nb) (hnb) ?_
                            refine xn_iast dX5_takeLaw_178 (st12 hs) (by first | omega | (simp only [List.length_append, List.length_nil, List.length_cons]; omega)) (by decide) ?_
                            refine xn_iinc dX5_takeLaw_179 rfl kc_1 ?_
                            refine xe_goto (tgt := 30) dX5_takeLaw_182 rfl ?_
                            refine xe_locals (L' := [(0, .ref 7), (1, .ref wc), (2, .int wx), (3, .int (nI 0)), (4, .int (nI (i + 1)))]) (And.intro rfl (And.intro rfl (And.intro rfl (And.intro rfl (And.intro rfl trivial))))) ?_
                            exact lo30_10 l g _ (by exact hs) (by decide) (by omega) (bad_w (by decide : 10 = 10 ∨ 10 = 22) hb) (by exact hI3) (fun _ q => ⟨rfl, q⟩)
                          · omega
                        · omega
                  · omega
          | none =>
            show q_Ex l g 22 mX5_takeLaw 30 _ _ h (q_lwA K m 10 n h (tx_r (tx_sum K 6 (x.2 + 1)) _))
            cases u2 : tx_sum K 6 (x.2 + 1) with
            | inl er =>
              refine xe_iload dX5_takeLaw_30 rfl ?_
              refine xe_iconst dX5_takeLaw_32 kc_4 ?_
              refine xn_icmp_gt (tgt := 185) dX5_takeLaw_33 rfl (by omega) (by omega) (fun c1 => ?_) (fun c1 => ?_)
              · omega
              · refine xe_iload_n dX5_takeLaw_36 rfl ?_
                refine xn_if_eq (tgt := 185) dX5_takeLaw_37 rfl (by omega) (fun c2 => ?_) (fun c2 => ?_)
                · omega
                · refine xe_aload_n dX5_takeLaw_40 rfl ?_
                  refine xe_getIv dX5_takeLaw_41 flX5_41 (st7 hs) (by decide) rfl (v := nI 264) (hk5) ?_
                  refine xe_sipush dX5_takeLaw_44 ks_264 ?_
                  refine xn_icmp_ne (tgt := 185) dX5_takeLaw_47 rfl (by omega) (by omega) (fun c3 => ?_) (fun c3 => ?_)
                  · omega
                  · refine xe_iload dX5_takeLaw_50 rfl ?_
                    refine xe_iconst dX5_takeLaw_52 kc_4 ?_
                    refine xn_icmp_ne (tgt := 62) dX5_takeLaw_53 rfl (by omega) (by omega) (fun c4 => ?_) (fun c4 => ?_)
                    · refine xe_aload_n dX5_takeLaw_62 rfl ?_
                      refine xe_sipush dX5_takeLaw_63 ks_264 ?_
                      refine xe_callVIq (d' := 0) (y' := mX5_take) dX5_takeLaw_66 mlX5_63 mvX5_take rfl (st7 hs) (by decide) rfl (by omega) (by decide) (Nat.le_of_ble_eq_true rfl) (g_take10 l g _ hs hR hn 28 264 rfl (by decide) (by decide) (by decide) kc1) rfl (fun g5 g5q => ?_)
                      have hR := gd_R (by decide : 10 = 10 ∨ 10 = 22) hR g5q
                      have hs := gd_s hs g5q
                      have hg := gd_tk hg g5q
                      have hn := gd_n hg
                      have h4 := hR.2.2.2.2.1
                      have hI2 := hR.1
                      have hI3 := hR.2.1
                      refine xn_if_eq (tgt := 111) dX5_takeLaw_69 rfl (by omega) (fun c6 => ?_) (fun c6 => ?_)
                      · omega
                      · refine xe_aload_n dX5_takeLaw_72 rfl ?_
                        refine xe_iconst dX5_takeLaw_73 kc_0 ?_
                        refine xe_callVIq (d' := 21) (y' := mX5_takeSum) dX5_takeLaw_74 mlX5_147 mvX5_takeSum rfl (st7 hs) (by decide) rfl (by omega) (by decide) (Nat.le_of_ble_eq_true rfl) ((show q_Ct l g 21 _ _ _ (fun r h1 => r = some (.int (nI 1)) ∧ q_gd K m 10 _ _ x h1) from by have hC := xc_sum10 l g (K := K) (m := m) _ hs _ _ hR hn (by first | omega | (simp only [List.length_append, List.length_nil, List.length_cons]; omega)); rw [u1] at hC; exact hC)) rfl (fun g7 g7q => ?_)
                        have hR := gd_R (by decide : 10 = 10 ∨ 10 = 22) hR g7q
                        have hs := gd_s hs g7q
                        have hg := gd_app hg g7q
                        have hn := gd_n hg
                        have h4 := hR.2.2.2.2.1
                        have hI2 := hR.1
                        have hI3 := hR.2.1
                        refine xn_if_eq (tgt := 111) dX5_takeLaw_77 rfl (by omega) (fun c8 => ?_) (fun c8 => ?_)
                        · omega
                        · refine xe_aload_n dX5_takeLaw_80 rfl ?_
                          refine xe_bipush dX5_takeLaw_81 kb_60 ?_
                          refine xe_callVIq (d' := 0) (y' := mX5_take) dX5_takeLaw_83 mlX5_63 mvX5_take rfl (st7 hs) (by decide) rfl (by omega) (by decide) (Nat.le_of_ble_eq_true rfl) (g_take10 l g _ hs hR hn 13 60 rfl (by decide) (by decide) (by decide) kc2) rfl (fun g9 g9q => ?_)
                          have hR := gd_R (by decide : 10 = 10 ∨ 10 = 22) hR g9q
                          have hs := gd_s hs g9q
                          have hg := gd_tk hg g9q
                          have hn := gd_n hg
                          have h4 := hR.2.2.2.2.1
                          have hI2 := hR.1
                          have hI3 := hR.2.1
                          refine xn_if_eq (tgt := 111) dX5_takeLaw_86 rfl (by omega) (fun c10 => ?_) (fun c10 => ?_)
                          · omega
                          · refine xe_aload_n dX5_takeLaw_89 rfl ?_
                            refine xe_iconst dX5_takeLaw_90 kc_0 ?_
                            refine xe_callVIq (d' := 21) (y' := mX5_takeSum) dX5_takeLaw_91 mlX5_147 mvX5_takeSum rfl (st7 hs) (by decide) rfl (by omega) (by decide) (Nat.le_of_ble_eq_true rfl) ((show q_Ct l g 21 _ _ _ (fun r h1 => r = some (.int (nI 0)) ∧ q_bad K 10 _ er h1) from by have hC := xc_sum10 l g (K := K) (m := m) _ hs _ _ hR hn (by first | omega | (simp only [List.length_append, List.length_nil, List.length_cons]; omega)); rw [u2] at hC; exact hC)) rfl (fun g11 g11q => ?_)
                            have hs := bad_s hs g11q
                            have hb := gd_bad hg (by first | omega | (simp only [List.length_append, List.length_nil, List.length_cons]; omega)) g11q
                            obtain ⟨nb, hnb, hnb2⟩ := g11q.1.2.2
                            have hI2 := em_P g11q.1 hI2
                            have hI3 := em_P g11q.1 hI3
                            refine xn_if_eq (tgt := 111) dX5_takeLaw_94 rfl (by omega) (fun c12 => ?_) (fun c12 => ?_)
                            · refine xe_iconst dX5_takeLaw_111 kc_0 ?_
                              refine xe_istore_n (i := 3) dX5_takeLaw_112 rfl (by decide) rfl ?_
                              refine xe_aload_n dX5_takeLaw_113 rfl ?_
                              refine xe_getP dX5_takeLaw_114 flX5_26 (st7 hs) (by decide) rfl hI3 ?_
                              refine xe_iconst dX5_takeLaw_117 kc_3 ?_
                              refine xe_iconst dX5_takeLaw_118 kc_0 ?_
                              refine xe_callVIn (d' := 0) (y' := mX3_emit) dX5_takeLaw_119 mlX5_150 mvX3_emit rfl (st10 hs) (by decide) rfl (by omega) (by decide) (Nat.le_of_ble_eq_true rfl) (b_emit10 l g _ hs hnb hnb2 _ _) rfl (fun g13v g13 g13q => ?_)
                              obtain ⟨⟨g13j, rfl, g13jl⟩, g13r⟩ := g13q
                              have hs : q_Stat g13 := q_Stat_2 g13r.1.1 hs
                              have hb := bad_em hb g13r
                              obtain ⟨nb, hnb, hnb2⟩ := g13r.1.2.2
                              have hI2 := em_P g13r.1 hI2
                              have hI3 := em_P g13r.1 hI3
                              refine xe_istore dX5_takeLaw_122 (by decide) rfl ?_
                              refine xe_iload_n dX5_takeLaw_124 rfl ?_
                              refine xn_if_eq (tgt := 150) dX5_takeLaw_125 rfl (by omega) (fun c14 => ?_) (fun c14 => ?_)
                              · refine xe_iconst dX5_takeLaw_150 kc_0 ?_
                                refine xe_istore_n (i := 3) dX5_takeLaw_151 rfl (by decide) rfl ?_
                                refine xe_aload_n dX5_takeLaw_152 rfl ?_
                                refine xe_getP dX5_takeLaw_153 flX5_26 (st7 hs) (by decide) rfl hI3 ?_
                                refine xe_iconst dX5_takeLaw_156 kc_2 ?_
                                refine xe_iconst dX5_takeLaw_157 kc_0 ?_
                                refine xe_callVIn (d' := 0) (y' := mX3_emit) dX5_takeLaw_158 mlX5_150 mvX3_emit rfl (st10 hs) (by decide) rfl (by omega) (by decide) (Nat.le_of_ble_eq_true rfl) (b_emit10 l g _ hs hnb hnb2 _ _) rfl (fun g15v g15 g15q => ?_)
                                obtain ⟨⟨g15j, rfl, g15jl⟩, g15r⟩ := g15q
                                have hs : q_Stat g15 := q_Stat_2 g15r.1.1 hs
                                have hb := bad_em hb g15r
                                obtain ⟨nb, hnb, hnb2⟩ := g15r.1.2.2
                                have hI2 := em_P g15r.1 hI2
                                have hI3 := em_P g15r.1 hI3
                                refine xe_pop dX5_takeLaw_161 rfl ?_
                                refine xe_aload_n dX5_takeLaw_162 rfl ?_
                                refine xe_getP dX5_takeLaw_163 flX5_26 (st7 hs) (by decide) rfl hI3 ?_
                                refine xe_getP dX5_takeLaw_166 flX5_154 (st10 hs) (by decide) rfl (sp10_1 hs) ?_
                                refine xe_iload dX5_takeLaw_169 rfl ?_
                                refine xe_aload_n dX5_takeLaw_171 rfl ?_
                                refine xe_getP dX5_takeLaw_172 flX5_26 (st7 hs) (by decide) rfl hI3 ?_
                                refine xe_getIv dX5_takeLaw_175 flX5_144 (st10 hs) (by decide) rfl (v := nI nb) (hnb) ?_
                                refine xn_iast dX5_takeLaw_178 (st12 hs) (by first | omega | (simp only [List.length_append, List.length_nil, List.length_cons]; omega)) (by decide) ?_
                                refine xn_iinc dX5_takeLaw_179 rfl kc_1 ?_
                                refine xe_goto (tgt := 30) dX5_takeLaw_182 rfl ?_
                                refine xe_locals (L' := [(0, .ref 7), (1, .ref wc), (2, .int wx), (3, .int (nI 0)), (4, .int (nI (i + 1)))]) (And.intro rfl (And.intro rfl (And.intro rfl (And.intro rfl (And.intro rfl trivial))))) ?_
                                exact lo30_10 l g _ (by exact hs) (by decide) (by omega) (bad_w (by decide : 10 = 10 ∨ 10 = 22) hb) (by exact hI3) (fun _ q => ⟨rfl, q⟩)
                              · omega
                            · omega
                    · omega
            | inr y =>
              obtain ⟨y1, y2, y3, y4, y5⟩ := tx_sum_ok K 6 _ _ u2
              have wfy := tx_sum_wf u2
              show q_Ex l g 22 mX5_takeLaw 30 _ _ h (q_lwA K m 10 n h (tx_b (tx_ck (tk_T K) 29 y.2) _))
              cases kc3 : tx_ck (tk_T K) 29 y.2 with
              | some er =>
                refine xe_iload dX5_takeLaw_30 rfl ?_
                refine xe_iconst dX5_takeLaw_32 kc_4 ?_
                refine xn_icmp_gt (tgt := 185) dX5_takeLaw_33 rfl (by omega) (by omega) (fun c1 => ?_) (fun c1 => ?_)
                · omega
                · refine xe_iload_n dX5_takeLaw_36 rfl ?_
                  refine xn_if_eq (tgt := 185) dX5_takeLaw_37 rfl (by omega) (fun c2 => ?_) (fun c2 => ?_)
                  · omega
                  · refine xe_aload_n dX5_takeLaw_40 rfl ?_
                    refine xe_getIv dX5_takeLaw_41 flX5_41 (st7 hs) (by decide) rfl (v := nI 264) (hk5) ?_
                    refine xe_sipush dX5_takeLaw_44 ks_264 ?_
                    refine xn_icmp_ne (tgt := 185) dX5_takeLaw_47 rfl (by omega) (by omega) (fun c3 => ?_) (fun c3 => ?_)
                    · omega
                    · refine xe_iload dX5_takeLaw_50 rfl ?_
                      refine xe_iconst dX5_takeLaw_52 kc_4 ?_
                      refine xn_icmp_ne (tgt := 62) dX5_takeLaw_53 rfl (by omega) (by omega) (fun c4 => ?_) (fun c4 => ?_)
                      · refine xe_aload_n dX5_takeLaw_62 rfl ?_
                        refine xe_sipush dX5_takeLaw_63 ks_264 ?_
                        refine xe_callVIq (d' := 0) (y' := mX5_take) dX5_takeLaw_66 mlX5_63 mvX5_take rfl (st7 hs) (by decide) rfl (by omega) (by decide) (Nat.le_of_ble_eq_true rfl) (g_take10 l g _ hs hR hn 28 264 rfl (by decide) (by decide) (by decide) kc1) rfl (fun g5 g5q => ?_)
                        have hR := gd_R (by decide : 10 = 10 ∨ 10 = 22) hR g5q
                        have hs := gd_s hs g5q
                        have hg := gd_tk hg g5q
                        have hn := gd_n hg
                        have h4 := hR.2.2.2.2.1
                        have hI2 := hR.1
                        have hI3 := hR.2.1
                        refine xn_if_eq (tgt := 111) dX5_takeLaw_69 rfl (by omega) (fun c6 => ?_) (fun c6 => ?_)
                        · omega
                        · refine xe_aload_n dX5_takeLaw_72 rfl ?_
                          refine xe_iconst dX5_takeLaw_73 kc_0 ?_
                          refine xe_callVIq (d' := 21) (y' := mX5_takeSum) dX5_takeLaw_74 mlX5_147 mvX5_takeSum rfl (st7 hs) (by decide) rfl (by omega) (by decide) (Nat.le_of_ble_eq_true rfl) ((show q_Ct l g 21 _ _ _ (fun r h1 => r = some (.int (nI 1)) ∧ q_gd K m 10 _ _ x h1) from by have hC := xc_sum10 l g (K := K) (m := m) _ hs _ _ hR hn (by first | omega | (simp only [List.length_append, List.length_nil, List.length_cons]; omega)); rw [u1] at hC; exact hC)) rfl (fun g7 g7q => ?_)
                          have hR := gd_R (by decide : 10 = 10 ∨ 10 = 22) hR g7q
                          have hs := gd_s hs g7q
                          have hg := gd_app hg g7q
                          have hn := gd_n hg
                          have h4 := hR.2.2.2.2.1
                          have hI2 := hR.1
                          have hI3 := hR.2.1
                          refine xn_if_eq (tgt := 111) dX5_takeLaw_77 rfl (by omega) (fun c8 => ?_) (fun c8 => ?_)
                          · omega
                          · refine xe_aload_n dX5_takeLaw_80 rfl ?_
                            refine xe_bipush dX5_takeLaw_81 kb_60 ?_
                            refine xe_callVIq (d' := 0) (y' := mX5_take) dX5_takeLaw_83 mlX5_63 mvX5_take rfl (st7 hs) (by decide) rfl (by omega) (by decide) (Nat.le_of_ble_eq_true rfl) (g_take10 l g _ hs hR hn 13 60 rfl (by decide) (by decide) (by decide) kc2) rfl (fun g9 g9q => ?_)
                            have hR := gd_R (by decide : 10 = 10 ∨ 10 = 22) hR g9q
                            have hs := gd_s hs g9q
                            have hg := gd_tk hg g9q
                            have hn := gd_n hg
                            have h4 := hR.2.2.2.2.1
                            have hI2 := hR.1
                            have hI3 := hR.2.1
                            refine xn_if_eq (tgt := 111) dX5_takeLaw_86 rfl (by omega) (fun c10 => ?_) (fun c10 => ?_)
                            · omega
                            · refine xe_aload_n dX5_takeLaw_89 rfl ?_
                              refine xe_iconst dX5_takeLaw_90 kc_0 ?_
                              refine xe_callVIq (d' := 21) (y' := mX5_takeSum) dX5_takeLaw_91 mlX5_147 mvX5_takeSum rfl (st7 hs) (by decide) rfl (by omega) (by decide) (Nat.le_of_ble_eq_true rfl) ((show q_Ct l g 21 _ _ _ (fun r h1 => r = some (.int (nI 1)) ∧ q_gd K m 10 _ _ y h1) from by have hC := xc_sum10 l g (K := K) (m := m) _ hs _ _ hR hn (by first | omega | (simp only [List.length_append, List.length_nil, List.length_cons]; omega)); rw [u2] at hC; exact hC)) rfl (fun g11 g11q => ?_)
                              have hR := gd_R (by decide : 10 = 10 ∨ 10 = 22) hR g11q
                              have hs := gd_s hs g11q
                              have hg := gd_app hg g11q
                              have hn := gd_n hg
                              have h4 := hR.2.2.2.2.1
                              have hI2 := hR.1
                              have hI3 := hR.2.1
                              refine xn_if_eq (tgt := 111) dX5_takeLaw_94 rfl (by omega) (fun c12 => ?_) (fun c12 => ?_)
                              · omega
                              · refine xe_aload_n dX5_takeLaw_97 rfl ?_
                                refine xe_sipush dX5_takeLaw_98 ks_265 ?_
                                refine xe_callVIq (d' := 0) (y' := mX5_take) dX5_takeLaw_101 mlX5_63 mvX5_take rfl (st7 hs) (by decide) rfl (by omega) (by decide) (Nat.le_of_ble_eq_true rfl) (b_take10 l g _ hs hR hn (by first | omega | (simp only [List.length_append, List.length_nil, List.length_cons]; omega)) 29 265 rfl (by decide) (by decide) kc3) rfl (fun g13 g13q => ?_)
                                have hs := bad_s hs g13q
                                have hb := gd_bad hg (by first | omega | (simp only [List.length_append, List.length_nil, List.length_cons]; omega)) g13q
                                obtain ⟨nb, hnb, hnb2⟩ := g13q.1.2.2
                                have hI2 := em_P g13q.1 hI2
                                have hI3 := em_P g13q.1 hI3
                                refine xn_if_eq (tgt := 111) dX5_takeLaw_104 rfl (by omega) (fun c14 => ?_) (fun c14 => ?_)
                                · refine xe_iconst dX5_takeLaw_111 kc_0 ?_
                                  refine xe_istore_n (i := 3) dX5_takeLaw_112 rfl (by decide) rfl ?_
                                  refine xe_aload_n dX5_takeLaw_113 rfl ?_
                                  refine xe_getP dX5_takeLaw_114 flX5_26 (st7 hs) (by decide) rfl hI3 ?_
                                  refine xe_iconst dX5_takeLaw_117 kc_3 ?_
                                  refine xe_iconst dX5_takeLaw_118 kc_0 ?_
                                  refine xe_callVIn (d' := 0) (y' := mX3_emit) dX5_takeLaw_119 mlX5_150 mvX3_emit rfl (st10 hs) (by decide) rfl (by omega) (by decide) (Nat.le_of_ble_eq_true rfl) (b_emit10 l g _ hs hnb hnb2 _ _) rfl (fun g15v g15 g15q => ?_)
                                  obtain ⟨⟨g15j, rfl, g15jl⟩, g15r⟩ := g15q
                                  have hs : q_Stat g15 := q_Stat_2 g15r.1.1 hs
                                  have hb := bad_em hb g15r
                                  obtain ⟨nb, hnb, hnb2⟩ := g15r.1.2.2
                                  have hI2 := em_P g15r.1 hI2
                                  have hI3 := em_P g15r.1 hI3
                                  refine xe_istore dX5_takeLaw_122 (by decide) rfl ?_
                                  refine xe_iload_n dX5_takeLaw_124 rfl ?_
                                  refine xn_if_eq (tgt := 150) dX5_takeLaw_125 rfl (by omega) (fun c16 => ?_) (fun c16 => ?_)
                                  · refine xe_iconst dX5_takeLaw_150 kc_0 ?_
                                    refine xe_istore_n (i := 3) dX5_takeLaw_151 rfl (by decide) rfl ?_
                                    refine xe_aload_n dX5_takeLaw_152 rfl ?_
                                    refine xe_getP dX5_takeLaw_153 flX5_26 (st7 hs) (by decide) rfl hI3 ?_
                                    refine xe_iconst dX5_takeLaw_156 kc_2 ?_
                                    refine xe_iconst dX5_takeLaw_157 kc_0 ?_
                                    refine xe_callVIn (d' := 0) (y' := mX3_emit) dX5_takeLaw_158 mlX5_150 mvX3_emit rfl (st10 hs) (by decide) rfl (by omega) (by decide) (Nat.le_of_ble_eq_true rfl) (b_emit10 l g _ hs hnb hnb2 _ _) rfl (fun g17v g17 g17q => ?_)
                                    obtain ⟨⟨g17j, rfl, g17jl⟩, g17r⟩ := g17q
                                    have hs : q_Stat g17 := q_Stat_2 g17r.1.1 hs
                                    have hb := bad_em hb g17r
                                    obtain ⟨nb, hnb, hnb2⟩ := g17r.1.2.2
                                    have hI2 := em_P g17r.1 hI2
                                    have hI3 := em_P g17r.1 hI3
                                    refine xe_pop dX5_takeLaw_161 rfl ?_
                                    refine xe_aload_n dX5_takeLaw_162 rfl ?_
                                    refine xe_getP dX5_takeLaw_163 flX5_26 (st7 hs) (by decide) rfl hI3 ?_
                                    refine xe_getP dX5_takeLaw_166 flX5_154 (st10 hs) (by decide) rfl (sp10_1 hs) ?_
                                    refine xe_iload dX5_takeLaw_169 rfl ?_
                                    refine xe_aload_n dX5_takeLaw_171 rfl ?_
                                    refine xe_getP dX5_takeLaw_172 flX5_26 (st7 hs) (by decide) rfl hI3 ?_
                                    refine xe_getIv dX5_takeLaw_175 flX5_144 (st10 hs) (by decide) rfl (v := nI nb) (hnb) ?_
                                    refine xn_iast dX5_takeLaw_178 (st12 hs) (by first | omega | (simp only [List.length_append, List.length_nil, List.length_cons]; omega)) (by decide) ?_
                                    refine xn_iinc dX5_takeLaw_179 rfl kc_1 ?_
                                    refine xe_goto (tgt := 30) dX5_takeLaw_182 rfl ?_
                                    refine xe_locals (L' := [(0, .ref 7), (1, .ref wc), (2, .int wx), (3, .int (nI 0)), (4, .int (nI (i + 1)))]) (And.intro rfl (And.intro rfl (And.intro rfl (And.intro rfl (And.intro rfl trivial))))) ?_
                                    exact lo30_10 l g _ (by exact hs) (by decide) (by omega) (bad_w (by decide : 10 = 10 ∨ 10 = 22) hb) (by exact hI3) (fun _ q => ⟨rfl, q⟩)
                                  · omega
                                · omega
                      · omega
              | none =>
                show q_Ex l g 22 mX5_takeLaw 30 _ _ h (q_lwA K m 10 n h (tx_r (tx_sum K 6 (y.2 + 1)) _))
                cases u3 : tx_sum K 6 (y.2 + 1) with
                | inl er =>
                  refine xe_iload dX5_takeLaw_30 rfl ?_
                  refine xe_iconst dX5_takeLaw_32 kc_4 ?_
                  refine xn_icmp_gt (tgt := 185) dX5_takeLaw_33 rfl (by omega) (by omega) (fun c1 => ?_) (fun c1 => ?_)
                  · omega
                  · refine xe_iload_n dX5_takeLaw_36 rfl ?_
                    refine xn_if_eq (tgt := 185) dX5_takeLaw_37 rfl (by omega) (fun c2 => ?_) (fun c2 => ?_)
                    · omega
                    · refine xe_aload_n dX5_takeLaw_40 rfl ?_
                      refine xe_getIv dX5_takeLaw_41 flX5_41 (st7 hs) (by decide) rfl (v := nI 264) (hk5) ?_
                      refine xe_sipush dX5_takeLaw_44 ks_264 ?_
                      refine xn_icmp_ne (tgt := 185) dX5_takeLaw_47 rfl (by omega) (by omega) (fun c3 => ?_) (fun c3 => ?_)
                      · omega
                      · refine xe_iload dX5_takeLaw_50 rfl ?_
                        refine xe_iconst dX5_takeLaw_52 kc_4 ?_
                        refine xn_icmp_ne (tgt := 62) dX5_takeLaw_53 rfl (by omega) (by omega) (fun c4 => ?_) (fun c4 => ?_)
                        · refine xe_aload_n dX5_takeLaw_62 rfl ?_
                          refine xe_sipush dX5_takeLaw_63 ks_264 ?_
                          refine xe_callVIq (d' := 0) (y' := mX5_take) dX5_takeLaw_66 mlX5_63 mvX5_take rfl (st7 hs) (by decide) rfl (by omega) (by decide) (Nat.le_of_ble_eq_true rfl) (g_take10 l g _ hs hR hn 28 264 rfl (by decide) (by decide) (by decide) kc1) rfl (fun g5 g5q => ?_)
                          have hR := gd_R (by decide : 10 = 10 ∨ 10 = 22) hR g5q
                          have hs := gd_s hs g5q
                          have hg := gd_tk hg g5q
                          have hn := gd_n hg
                          have h4 := hR.2.2.2.2.1
                          have hI2 := hR.1
                          have hI3 := hR.2.1
                          refine xn_if_eq (tgt := 111) dX5_takeLaw_69 rfl (by omega) (fun c6 => ?_) (fun c6 => ?_)
                          · omega
                          · refine xe_aload_n dX5_takeLaw_72 rfl ?_
                            refine xe_iconst dX5_takeLaw_73 kc_0 ?_
                            refine xe_callVIq (d' := 21) (y' := mX5_takeSum) dX5_takeLaw_74 mlX5_147 mvX5_takeSum rfl (st7 hs) (by decide) rfl (by omega) (by decide) (Nat.le_of_ble_eq_true rfl) ((show q_Ct l g 21 _ _ _ (fun r h1 => r = some (.int (nI 1)) ∧ q_gd K m 10 _ _ x h1) from by have hC := xc_sum10 l g (K := K) (m := m) _ hs _ _ hR hn (by first | omega | (simp only [List.length_append, List.length_nil, List.length_cons]; omega)); rw [u1] at hC; exact hC)) rfl (fun g7 g7q => ?_)
                            have hR := gd_R (by decide : 10 = 10 ∨ 10 = 22) hR g7q
                            have hs := gd_s hs g7q
                            have hg := gd_app hg g7q
                            have hn := gd_n hg
                            have h4 := hR.2.2.2.2.1
                            have hI2 := hR.1
                            have hI3 := hR.2.1
                            refine xn_if_eq (tgt := 111) dX5_takeLaw_77 rfl (by omega) (fun c8 => ?_) (fun c8 => ?_)
                            · omega
                            · refine xe_aload_n dX5_takeLaw_80 rfl ?_
                              refine xe_bipush dX5_takeLaw_81 kb_60 ?_
                              refine xe_callVIq (d' := 0) (y' := mX5_take) dX5_takeLaw_83 mlX5_63 mvX5_take rfl (st7 hs) (by decide) rfl (by omega) (by decide) (Nat.le_of_ble_eq_true rfl) (g_take10 l g _ hs hR hn 13 60 rfl (by decide) (by decide) (by decide) kc2) rfl (fun g9 g9q => ?_)
                              have hR := gd_R (by decide : 10 = 10 ∨ 10 = 22) hR g9q
                              have hs := gd_s hs g9q
                              have hg := gd_tk hg g9q
                              have hn := gd_n hg
                              have h4 := hR.2.2.2.2.1
                              have hI2 := hR.1
                              have hI3 := hR.2.1
                              refine xn_if_eq (tgt := 111) dX5_takeLaw_86 rfl (by omega) (fun c10 => ?_) (fun c10 => ?_)
                              · omega
                              · refine xe_aload_n dX5_takeLaw_89 rfl ?_
                                refine xe_iconst dX5_takeLaw_90 kc_0 ?_
                                refine xe_callVIq (d' := 21) (y' := mX5_takeSum) dX5_takeLaw_91 mlX5_147 mvX5_takeSum rfl (st7 hs) (by decide) rfl (by omega) (by decide) (Nat.le_of_ble_eq_true rfl) ((show q_Ct l g 21 _ _ _ (fun r h1 => r = some (.int (nI 1)) ∧ q_gd K m 10 _ _ y h1) from by have hC := xc_sum10 l g (K := K) (m := m) _ hs _ _ hR hn (by first | omega | (simp only [List.length_append, List.length_nil, List.length_cons]; omega)); rw [u2] at hC; exact hC)) rfl (fun g11 g11q => ?_)
                                have hR := gd_R (by decide : 10 = 10 ∨ 10 = 22) hR g11q
                                have hs := gd_s hs g11q
                                have hg := gd_app hg g11q
                                have hn := gd_n hg
                                have h4 := hR.2.2.2.2.1
                                have hI2 := hR.1
                                have hI3 := hR.2.1
                                refine xn_if_eq (tgt := 111) dX5_takeLaw_94 rfl (by omega) (fun c12 => ?_) (fun c12 => ?_)
                                · omega
                                · refine xe_aload_n dX5_takeLaw_97 rfl ?_
                                  refine xe_sipush dX5_takeLaw_98 ks_265 ?_
                                  refine xe_callVIq (d' := 0) (y' := mX5_take) dX5_takeLaw_101 mlX5_63 mvX5_take rfl (st7 hs) (by decide) rfl (by omega) (by decide) (Nat.le_of_ble_eq_true rfl) (g_take10 l g _ hs hR hn 29 265 rfl (by decide) (by decide) (by decide) kc3) rfl (fun g13 g13q => ?_)
                                  have hR := gd_R (by decide : 10 = 10 ∨ 10 = 22) hR g13q
                                  have hs := gd_s hs g13q
                                  have hg := gd_tk hg g13q
                                  have hn := gd_n hg
                                  have h4 := hR.2.2.2.2.1
                                  have hI2 := hR.1
                                  have hI3 := hR.2.1
                                  refine xn_if_eq (tgt := 111) dX5_takeLaw_104 rfl (by omega) (fun c14 => ?_) (fun c14 => ?_)
                                  · omega
                                  · refine xe_iconst dX5_takeLaw_107 kc_1 ?_
                                    refine xe_goto (tgt := 112) dX5_takeLaw_108 rfl ?_
                                    refine xe_istore_n (i := 3) dX5_takeLaw_112 rfl (by decide) rfl ?_
                                    refine xe_aload_n dX5_takeLaw_113 rfl ?_
                                    refine xe_getP dX5_takeLaw_114 flX5_26 (st7 hs) (by decide) rfl hI3 ?_
                                    refine xe_iconst dX5_takeLaw_117 kc_3 ?_
                                    refine xe_iconst dX5_takeLaw_118 kc_0 ?_
                                    refine xe_callVIq (d' := 0) (y' := mX3_emit) dX5_takeLaw_119 mlX5_150 mvX3_emit rfl (st10 hs) (by decide) rfl (by omega) (by decide) (Nat.le_of_ble_eq_true rfl) (g_emx10 l g _ hs hR hn (by first | omega | (simp only [List.length_append, List.length_nil, List.length_cons]; omega)) (nI 3) _) rfl (fun g15 g15q => ?_)
                                    have hU := g15q
                                    have hgAhU := hg
                                    have hR := gs_R (by decide : 10 = 10 ∨ 10 = 22) hR g15q.1
                                    have hs := gs_s hs g15q.1
                                    have hn := gs_n g15q.1
                                    have hg := gd_r hR hn
                                    have hn := gd_n hg
                                    have h4 := hR.2.2.2.2.1
                                    have hI2 := hR.1
                                    have hI3 := hR.2.1
                                    refine xe_istore dX5_takeLaw_122 (by decide) rfl ?_
                                    refine xe_iload_n dX5_takeLaw_124 rfl ?_
                                    refine xn_if_eq (tgt := 150) dX5_takeLaw_125 rfl (by omega) (fun c16 => ?_) (fun c16 => ?_)
                                    · omega
                                    · refine xe_aload_n dX5_takeLaw_128 rfl ?_
                                      refine xe_iconst dX5_takeLaw_129 kc_0 ?_
                                      refine xe_callVIq (d' := 21) (y' := mX5_takeSum) dX5_takeLaw_130 mlX5_147 mvX5_takeSum rfl (st7 hs) (by decide) rfl (by omega) (by decide) (Nat.le_of_ble_eq_true rfl) ((show q_Ct l g 21 _ _ _ (fun r h1 => r = some (.int (nI 0)) ∧ q_bad K 10 _ er h1) from by have hC := xc_sum10 l g (K := K) (m := m) _ hs _ _ hR hn (by first | omega | (simp only [List.length_append, List.length_nil, List.length_cons]; omega)); rw [u3] at hC; exact hC)) rfl (fun g17 g17q => ?_)
                                      have hs := bad_s hs g17q
                                      have hb := gd_bad hg (by first | omega | (simp only [List.length_append, List.length_nil, List.length_cons]; omega)) g17q
                                      obtain ⟨nb, hnb, hnb2⟩ := g17q.1.2.2
                                      have hI2 := em_P g17q.1 hI2
                                      have hI3 := em_P g17q.1 hI3
                                      refine xn_if_eq (tgt := 150) dX5_takeLaw_133 rfl (by omega) (fun c18 => ?_) (fun c18 => ?_)
                                      · refine xe_iconst dX5_takeLaw_150 kc_0 ?_
                                        refine xe_istore_n (i := 3) dX5_takeLaw_151 rfl (by decide) rfl ?_
                                        refine xe_aload_n dX5_takeLaw_152 rfl ?_
                                        refine xe_getP dX5_takeLaw_153 flX5_26 (st7 hs) (by decide) rfl hI3 ?_
                                        refine xe_iconst dX5_takeLaw_156 kc_2 ?_
                                        refine xe_iconst dX5_takeLaw_157 kc_0 ?_
                                        refine xe_callVIn (d' := 0) (y' := mX3_emit) dX5_takeLaw_158 mlX5_150 mvX3_emit rfl (st10 hs) (by decide) rfl (by omega) (by decide) (Nat.le_of_ble_eq_true rfl) (b_emit10 l g _ hs hnb hnb2 _ _) rfl (fun g19v g19 g19q => ?_)
                                        obtain ⟨⟨g19j, rfl, g19jl⟩, g19r⟩ := g19q
                                        have hs : q_Stat g19 := q_Stat_2 g19r.1.1 hs
                                        have hb := bad_em hb g19r
                                        obtain ⟨nb, hnb, hnb2⟩ := g19r.1.2.2
                                        have hI2 := em_P g19r.1 hI2
                                        have hI3 := em_P g19r.1 hI3
                                        refine xe_pop dX5_takeLaw_161 rfl ?_
                                        refine xe_aload_n dX5_takeLaw_162 rfl ?_
                                        refine xe_getP dX5_takeLaw_163 flX5_26 (st7 hs) (by decide) rfl hI3 ?_
                                        refine xe_getP dX5_takeLaw_166 flX5_154 (st10 hs) (by decide) rfl (sp10_1 hs) ?_
                                        refine xe_iload dX5_takeLaw_169 rfl ?_
                                        refine xe_aload_n dX5_takeLaw_171 rfl ?_
                                        refine xe_getP dX5_takeLaw_172 flX5_26 (st7 hs) (by decide) rfl hI3 ?_
                                        refine xe_getIv dX5_takeLaw_175 flX5_144 (st10 hs) (by decide) rfl (v := nI nb) (hnb) ?_
                                        refine xn_iast dX5_takeLaw_178 (st12 hs) (by first | omega | (simp only [List.length_append, List.length_nil, List.length_cons]; omega)) (by decide) ?_
                                        refine xn_iinc dX5_takeLaw_179 rfl kc_1 ?_
                                        refine xe_goto (tgt := 30) dX5_takeLaw_182 rfl ?_
                                        refine xe_locals (L' := [(0, .ref 7), (1, .ref wc), (2, .int wx), (3, .int (nI 0)), (4, .int (nI (i + 1)))]) (And.intro rfl (And.intro rfl (And.intro rfl (And.intro rfl (And.intro rfl trivial))))) ?_
                                        exact lo30_10 l g _ (by exact hs) (by decide) (by omega) (bad_w (by decide : 10 = 10 ∨ 10 = 22) (bad_t (gs_em (gs_t (gs_gd hgAhU) hU.1) (by first | omega | (simp only [List.length_append, List.length_nil, List.length_cons]; omega))) hb)) (by exact hI3) (fun _ q => ⟨rfl, q⟩)
                                      · omega
                        · omega
                | inr z =>
                  obtain ⟨z1, z2, z3, z4, z5⟩ := tx_sum_ok K 6 _ _ u3
                  have wfz := tx_sum_wf u3
                  show q_Ex l g 22 mX5_takeLaw 30 _ _ h (q_lwA K m 10 n h (tx_b (tx_ck (tk_T K) 30 z.2) _))
                  cases kc4 : tx_ck (tk_T K) 30 z.2 with
                  | some er =>
                    refine xe_iload dX5_takeLaw_30 rfl ?_
                    refine xe_iconst dX5_takeLaw_32 kc_4 ?_
                    refine xn_icmp_gt (tgt := 185) dX5_takeLaw_33 rfl (by omega) (by omega) (fun c1 => ?_) (fun c1 => ?_)
                    · omega
                    · refine xe_iload_n dX5_takeLaw_36 rfl ?_
                      refine xn_if_eq (tgt := 185) dX5_takeLaw_37 rfl (by omega) (fun c2 => ?_) (fun c2 => ?_)
                      · omega
                      · refine xe_aload_n dX5_takeLaw_40 rfl ?_
                        refine xe_getIv dX5_takeLaw_41 flX5_41 (st7 hs) (by decide) rfl (v := nI 264) (hk5) ?_
                        refine xe_sipush dX5_takeLaw_44 ks_264 ?_
                        refine xn_icmp_ne (tgt := 185) dX5_takeLaw_47 rfl (by omega) (by omega) (fun c3 => ?_) (fun c3 => ?_)
                        · omega
                        · refine xe_iload dX5_takeLaw_50 rfl ?_
                          refine xe_iconst dX5_takeLaw_52 kc_4 ?_
                          refine xn_icmp_ne (tgt := 62) dX5_takeLaw_53 rfl (by omega) (by omega) (fun c4 => ?_) (fun c4 => ?_)
                          · refine xe_aload_n dX5_takeLaw_62 rfl ?_
                            refine xe_sipush dX5_takeLaw_63 ks_264 ?_
                            refine xe_callVIq (d' := 0) (y' := mX5_take) dX5_takeLaw_66 mlX5_63 mvX5_take rfl (st7 hs) (by decide) rfl (by omega) (by decide) (Nat.le_of_ble_eq_true rfl) (g_take10 l g _ hs hR hn 28 264 rfl (by decide) (by decide) (by decide) kc1) rfl (fun g5 g5q => ?_)
                            have hR := gd_R (by decide : 10 = 10 ∨ 10 = 22) hR g5q
                            have hs := gd_s hs g5q
                            have hg := gd_tk hg g5q
                            have hn := gd_n hg
                            have h4 := hR.2.2.2.2.1
                            have hI2 := hR.1
                            have hI3 := hR.2.1
                            refine xn_if_eq (tgt := 111) dX5_takeLaw_69 rfl (by omega) (fun c6 => ?_) (fun c6 => ?_)
                            · omega
                            · refine xe_aload_n dX5_takeLaw_72 rfl ?_
                              refine xe_iconst dX5_takeLaw_73 kc_0 ?_
                              refine xe_callVIq (d' := 21) (y' := mX5_takeSum) dX5_takeLaw_74 mlX5_147 mvX5_takeSum rfl (st7 hs) (by decide) rfl (by omega) (by decide) (Nat.le_of_ble_eq_true rfl) ((show q_Ct l g 21 _ _ _ (fun r h1 => r = some (.int (nI 1)) ∧ q_gd K m 10 _ _ x h1) from by have hC := xc_sum10 l g (K := K) (m := m) _ hs _ _ hR hn (by first | omega | (simp only [List.length_append, List.length_nil, List.length_cons]; omega)); rw [u1] at hC; exact hC)) rfl (fun g7 g7q => ?_)
                              have hR := gd_R (by decide : 10 = 10 ∨ 10 = 22) hR g7q
                              have hs := gd_s hs g7q
                              have hg := gd_app hg g7q
                              have hn := gd_n hg
                              have h4 := hR.2.2.2.2.1
                              have hI2 := hR.1
                              have hI3 := hR.2.1
                              refine xn_if_eq (tgt := 111) dX5_takeLaw_77 rfl (by omega) (fun c8 => ?_) (fun c8 => ?_)
                              · omega
                              · refine xe_aload_n dX5_takeLaw_80 rfl ?_
                                refine xe_bipush dX5_takeLaw_81 kb_60 ?_
                                refine xe_callVIq (d' := 0) (y' := mX5_take) dX5_takeLaw_83 mlX5_63 mvX5_take rfl (st7 hs) (by decide) rfl (by omega) (by decide) (Nat.le_of_ble_eq_true rfl) (g_take10 l g _ hs hR hn 13 60 rfl (by decide) (by decide) (by decide) kc2) rfl (fun g9 g9q => ?_)
                                have hR := gd_R (by decide : 10 = 10 ∨ 10 = 22) hR g9q
                                have hs := gd_s hs g9q
                                have hg := gd_tk hg g9q
                                have hn := gd_n hg
                                have h4 := hR.2.2.2.2.1
                                have hI2 := hR.1
                                have hI3 := hR.2.1
                                refine xn_if_eq (tgt := 111) dX5_takeLaw_86 rfl (by omega) (fun c10 => ?_) (fun c10 => ?_)
                                · omega
                                · refine xe_aload_n dX5_takeLaw_89 rfl ?_
                                  refine xe_iconst dX5_takeLaw_90 kc_0 ?_
                                  refine xe_callVIq (d' := 21) (y' := mX5_takeSum) dX5_takeLaw_91 mlX5_147 mvX5_takeSum rfl (st7 hs) (by decide) rfl (by omega) (by decide) (Nat.le_of_ble_eq_true rfl) ((show q_Ct l g 21 _ _ _ (fun r h1 => r = some (.int (nI 1)) ∧ q_gd K m 10 _ _ y h1) from by have hC := xc_sum10 l g (K := K) (m := m) _ hs _ _ hR hn (by first | omega | (simp only [List.length_append, List.length_nil, List.length_cons]; omega)); rw [u2] at hC; exact hC)) rfl (fun g11 g11q => ?_)
                                  have hR := gd_R (by decide : 10 = 10 ∨ 10 = 22) hR g11q
                                  have hs := gd_s hs g11q
                                  have hg := gd_app hg g11q
                                  have hn := gd_n hg
                                  have h4 := hR.2.2.2.2.1
                                  have hI2 := hR.1
                                  have hI3 := hR.2.1
                                  refine xn_if_eq (tgt := 111) dX5_takeLaw_94 rfl (by omega) (fun c12 => ?_) (fun c12 => ?_)
                                  · omega
                                  · refine xe_aload_n dX5_takeLaw_97 rfl ?_
                                    refine xe_sipush dX5_takeLaw_98 ks_265 ?_
                                    refine xe_callVIq (d' := 0) (y' := mX5_take) dX5_takeLaw_101 mlX5_63 mvX5_take rfl (st7 hs) (by decide) rfl (by omega) (by decide) (Nat.le_of_ble_eq_true rfl) (g_take10 l g _ hs hR hn 29 265 rfl (by decide) (by decide) (by decide) kc3) rfl (fun g13 g13q => ?_)
                                    have hR := gd_R (by decide : 10 = 10 ∨ 10 = 22) hR g13q
                                    have hs := gd_s hs g13q
                                    have hg := gd_tk hg g13q
                                    have hn := gd_n hg
                                    have h4 := hR.2.2.2.2.1
                                    have hI2 := hR.1
                                    have hI3 := hR.2.1
                                    refine xn_if_eq (tgt := 111) dX5_takeLaw_104 rfl (by omega) (fun c14 => ?_) (fun c14 => ?_)
                                    · omega
                                    · refine xe_iconst dX5_takeLaw_107 kc_1 ?_
                                      refine xe_goto (tgt := 112) dX5_takeLaw_108 rfl ?_
                                      refine xe_istore_n (i := 3) dX5_takeLaw_112 rfl (by decide) rfl ?_
                                      refine xe_aload_n dX5_takeLaw_113 rfl ?_
                                      refine xe_getP dX5_takeLaw_114 flX5_26 (st7 hs) (by decide) rfl hI3 ?_
                                      refine xe_iconst dX5_takeLaw_117 kc_3 ?_
                                      refine xe_iconst dX5_takeLaw_118 kc_0 ?_
                                      refine xe_callVIq (d' := 0) (y' := mX3_emit) dX5_takeLaw_119 mlX5_150 mvX3_emit rfl (st10 hs) (by decide) rfl (by omega) (by decide) (Nat.le_of_ble_eq_true rfl) (g_emx10 l g _ hs hR hn (by first | omega | (simp only [List.length_append, List.length_nil, List.length_cons]; omega)) (nI 3) _) rfl (fun g15 g15q => ?_)
                                      have hU := g15q
                                      have hgAhU := hg
                                      have hR := gs_R (by decide : 10 = 10 ∨ 10 = 22) hR g15q.1
                                      have hs := gs_s hs g15q.1
                                      have hn := gs_n g15q.1
                                      have hg := gd_r hR hn
                                      have hn := gd_n hg
                                      have h4 := hR.2.2.2.2.1
                                      have hI2 := hR.1
                                      have hI3 := hR.2.1
                                      refine xe_istore dX5_takeLaw_122 (by decide) rfl ?_
                                      refine xe_iload_n dX5_takeLaw_124 rfl ?_
                                      refine xn_if_eq (tgt := 150) dX5_takeLaw_125 rfl (by omega) (fun c16 => ?_) (fun c16 => ?_)
                                      · omega
                                      · refine xe_aload_n dX5_takeLaw_128 rfl ?_
                                        refine xe_iconst dX5_takeLaw_129 kc_0 ?_
                                        refine xe_callVIq (d' := 21) (y' := mX5_takeSum) dX5_takeLaw_130 mlX5_147 mvX5_takeSum rfl (st7 hs) (by decide) rfl (by omega) (by decide) (Nat.le_of_ble_eq_true rfl) ((show q_Ct l g 21 _ _ _ (fun r h1 => r = some (.int (nI 1)) ∧ q_gd K m 10 _ _ z h1) from by have hC := xc_sum10 l g (K := K) (m := m) _ hs _ _ hR hn (by first | omega | (simp only [List.length_append, List.length_nil, List.length_cons]; omega)); rw [u3] at hC; exact hC)) rfl (fun g17 g17q => ?_)
                                        have hR := gd_R (by decide : 10 = 10 ∨ 10 = 22) hR g17q
                                        have hs := gd_s hs g17q
                                        have hg := gd_app hg g17q
                                        have hn := gd_n hg
                                        have h4 := hR.2.2.2.2.1
                                        have hI2 := hR.1
                                        have hI3 := hR.2.1
                                        refine xn_if_eq (tgt := 150) dX5_takeLaw_133 rfl (by omega) (fun c18 => ?_) (fun c18 => ?_)
                                        · omega
                                        · refine xe_aload_n dX5_takeLaw_136 rfl ?_
                                          refine xe_sipush dX5_takeLaw_137 ks_266 ?_
                                          refine xe_callVIq (d' := 0) (y' := mX5_take) dX5_takeLaw_140 mlX5_63 mvX5_take rfl (st7 hs) (by decide) rfl (by omega) (by decide) (Nat.le_of_ble_eq_true rfl) (b_take10 l g _ hs hR hn (by first | omega | (simp only [List.length_append, List.length_nil, List.length_cons]; omega)) 30 266 rfl (by decide) (by decide) kc4) rfl (fun g19 g19q => ?_)
                                          have hs := bad_s hs g19q
                                          have hb := gd_bad hg (by first | omega | (simp only [List.length_append, List.length_nil, List.length_cons]; omega)) g19q
                                          obtain ⟨nb, hnb, hnb2⟩ := g19q.1.2.2
                                          have hI2 := em_P g19q.1 hI2
                                          have hI3 := em_P g19q.1 hI3
                                          refine xn_if_eq (tgt := 150) dX5_takeLaw_143 rfl (by omega) (fun c20 => ?_) (fun c20 => ?_)
                                          · refine xe_iconst dX5_takeLaw_150 kc_0 ?_
                                            refine xe_istore_n (i := 3) dX5_takeLaw_151 rfl (by decide) rfl ?_
                                            refine xe_aload_n dX5_takeLaw_152 rfl ?_
                                            refine xe_getP dX5_takeLaw_153 flX5_26 (st7 hs) (by decide) rfl hI3 ?_
                                            refine xe_iconst dX5_takeLaw_156 kc_2 ?_
                                            refine xe_iconst dX5_takeLaw_157 kc_0 ?_
                                            refine xe_callVIn (d' := 0) (y' := mX3_emit) dX5_takeLaw_158 mlX5_150 mvX3_emit rfl (st10 hs) (by decide) rfl (by omega) (by decide) (Nat.le_of_ble_eq_true rfl) (b_emit10 l g _ hs hnb hnb2 _ _) rfl (fun g21v g21 g21q => ?_)
                                            obtain ⟨⟨g21j, rfl, g21jl⟩, g21r⟩ := g21q
                                            have hs : q_Stat g21 := q_Stat_2 g21r.1.1 hs
                                            have hb := bad_em hb g21r
                                            obtain ⟨nb, hnb, hnb2⟩ := g21r.1.2.2
                                            have hI2 := em_P g21r.1 hI2
                                            have hI3 := em_P g21r.1 hI3
                                            refine xe_pop dX5_takeLaw_161 rfl ?_
                                            refine xe_aload_n dX5_takeLaw_162 rfl ?_
                                            refine xe_getP dX5_takeLaw_163 flX5_26 (st7 hs) (by decide) rfl hI3 ?_
                                            refine xe_getP dX5_takeLaw_166 flX5_154 (st10 hs) (by decide) rfl (sp10_1 hs) ?_
                                            refine xe_iload dX5_takeLaw_169 rfl ?_
                                            refine xe_aload_n dX5_takeLaw_171 rfl ?_
                                            refine xe_getP dX5_takeLaw_172 flX5_26 (st7 hs) (by decide) rfl hI3 ?_
                                            refine xe_getIv dX5_takeLaw_175 flX5_144 (st10 hs) (by decide) rfl (v := nI nb) (hnb) ?_
                                            refine xn_iast dX5_takeLaw_178 (st12 hs) (by first | omega | (simp only [List.length_append, List.length_nil, List.length_cons]; omega)) (by decide) ?_
                                            refine xn_iinc dX5_takeLaw_179 rfl kc_1 ?_
                                            refine xe_goto (tgt := 30) dX5_takeLaw_182 rfl ?_
                                            refine xe_locals (L' := [(0, .ref 7), (1, .ref wc), (2, .int wx), (3, .int (nI 0)), (4, .int (nI (i + 1)))]) (And.intro rfl (And.intro rfl (And.intro rfl (And.intro rfl (And.intro rfl trivial))))) ?_
                                            exact lo30_10 l g _ (by exact hs) (by decide) (by omega) (bad_w (by decide : 10 = 10 ∨ 10 = 22) (bad_t (gs_em (gs_t (gs_gd hgAhU) hU.1) (by first | omega | (simp only [List.length_append, List.length_nil, List.length_cons]; omega))) hb)) (by exact hI3) (fun _ q => ⟨rfl, q⟩)
                                          · omega
                          · omega
                  | none =>
                    have hR0 := hR
                    have hs0 := hs
                    refine xe_iload dX5_takeLaw_30 rfl ?_
                    refine xe_iconst dX5_takeLaw_32 kc_4 ?_
                    refine xn_icmp_gt (tgt := 185) dX5_takeLaw_33 rfl (by omega) (by omega) (fun c1 => ?_) (fun c1 => ?_)
                    · omega
                    · refine xe_iload_n dX5_takeLaw_36 rfl ?_
                      refine xn_if_eq (tgt := 185) dX5_takeLaw_37 rfl (by omega) (fun c2 => ?_) (fun c2 => ?_)
                      · omega
                      · refine xe_aload_n dX5_takeLaw_40 rfl ?_
                        refine xe_getIv dX5_takeLaw_41 flX5_41 (st7 hs) (by decide) rfl (v := nI 264) (hk5) ?_
                        refine xe_sipush dX5_takeLaw_44 ks_264 ?_
                        refine xn_icmp_ne (tgt := 185) dX5_takeLaw_47 rfl (by omega) (by omega) (fun c3 => ?_) (fun c3 => ?_)
                        · omega
                        · refine xe_iload dX5_takeLaw_50 rfl ?_
                          refine xe_iconst dX5_takeLaw_52 kc_4 ?_
                          refine xn_icmp_ne (tgt := 62) dX5_takeLaw_53 rfl (by omega) (by omega) (fun c4 => ?_) (fun c4 => ?_)
                          · refine xe_aload_n dX5_takeLaw_62 rfl ?_
                            refine xe_sipush dX5_takeLaw_63 ks_264 ?_
                            refine xe_callVIq (d' := 0) (y' := mX5_take) dX5_takeLaw_66 mlX5_63 mvX5_take rfl (st7 hs) (by decide) rfl (by omega) (by decide) (Nat.le_of_ble_eq_true rfl) (g_take10 l g _ hs hR hn 28 264 rfl (by decide) (by decide) (by decide) kc1) rfl (fun g5 g5q => ?_)
                            have hR := gd_R (by decide : 10 = 10 ∨ 10 = 22) hR g5q
                            have hs := gd_s hs g5q
                            have hg := gd_tk hg g5q
                            have hn := gd_n hg
                            have h4 := hR.2.2.2.2.1
                            have hI2 := hR.1
                            have hI3 := hR.2.1
                            refine xn_if_eq (tgt := 111) dX5_takeLaw_69 rfl (by omega) (fun c6 => ?_) (fun c6 => ?_)
                            · omega
                            · refine xe_aload_n dX5_takeLaw_72 rfl ?_
                              refine xe_iconst dX5_takeLaw_73 kc_0 ?_
                              refine xe_callVIq (d' := 21) (y' := mX5_takeSum) dX5_takeLaw_74 mlX5_147 mvX5_takeSum rfl (st7 hs) (by decide) rfl (by omega) (by decide) (Nat.le_of_ble_eq_true rfl) ((show q_Ct l g 21 _ _ _ (fun r h1 => r = some (.int (nI 1)) ∧ q_gd K m 10 _ _ x h1) from by have hC := xc_sum10 l g (K := K) (m := m) _ hs _ _ hR hn (by first | omega | (simp only [List.length_append, List.length_nil, List.length_cons]; omega)); rw [u1] at hC; exact hC)) rfl (fun g7 g7q => ?_)
                              have hR := gd_R (by decide : 10 = 10 ∨ 10 = 22) hR g7q
                              have hs := gd_s hs g7q
                              have hg := gd_app hg g7q
                              have hn := gd_n hg
                              have h4 := hR.2.2.2.2.1
                              have hI2 := hR.1
                              have hI3 := hR.2.1
                              refine xn_if_eq (tgt := 111) dX5_takeLaw_77 rfl (by omega) (fun c8 => ?_) (fun c8 => ?_)
                              · omega
                              · refine xe_aload_n dX5_takeLaw_80 rfl ?_
                                refine xe_bipush dX5_takeLaw_81 kb_60 ?_
                                refine xe_callVIq (d' := 0) (y' := mX5_take) dX5_takeLaw_83 mlX5_63 mvX5_take rfl (st7 hs) (by decide) rfl (by omega) (by decide) (Nat.le_of_ble_eq_true rfl) (g_take10 l g _ hs hR hn 13 60 rfl (by decide) (by decide) (by decide) kc2) rfl (fun g9 g9q => ?_)
                                have hR := gd_R (by decide : 10 = 10 ∨ 10 = 22) hR g9q
                                have hs := gd_s hs g9q
                                have hg := gd_tk hg g9q
                                have hn := gd_n hg
                                have h4 := hR.2.2.2.2.1
                                have hI2 := hR.1
                                have hI3 := hR.2.1
                                refine xn_if_eq (tgt := 111) dX5_takeLaw_86 rfl (by omega) (fun c10 => ?_) (fun c10 => ?_)
                                · omega
                                · refine xe_aload_n dX5_takeLaw_89 rfl ?_
                                  refine xe_iconst dX5_takeLaw_90 kc_0 ?_
                                  refine xe_callVIq (d' := 21) (y' := mX5_takeSum) dX5_takeLaw_91 mlX5_147 mvX5_takeSum rfl (st7 hs) (by decide) rfl (by omega) (by decide) (Nat.le_of_ble_eq_true rfl) ((show q_Ct l g 21 _ _ _ (fun r h1 => r = some (.int (nI 1)) ∧ q_gd K m 10 _ _ y h1) from by have hC := xc_sum10 l g (K := K) (m := m) _ hs _ _ hR hn (by first | omega | (simp only [List.length_append, List.length_nil, List.length_cons]; omega)); rw [u2] at hC; exact hC)) rfl (fun g11 g11q => ?_)
                                  have hR := gd_R (by decide : 10 = 10 ∨ 10 = 22) hR g11q
                                  have hs := gd_s hs g11q
                                  have hg := gd_app hg g11q
                                  have hn := gd_n hg
                                  have h4 := hR.2.2.2.2.1
                                  have hI2 := hR.1
                                  have hI3 := hR.2.1
                                  refine xn_if_eq (tgt := 111) dX5_takeLaw_94 rfl (by omega) (fun c12 => ?_) (fun c12 => ?_)
                                  · omega
                                  · refine xe_aload_n dX5_takeLaw_97 rfl ?_
                                    refine xe_sipush dX5_takeLaw_98 ks_265 ?_
                                    refine xe_callVIq (d' := 0) (y' := mX5_take) dX5_takeLaw_101 mlX5_63 mvX5_take rfl (st7 hs) (by decide) rfl (by omega) (by decide) (Nat.le_of_ble_eq_true rfl) (g_take10 l g _ hs hR hn 29 265 rfl (by decide) (by decide) (by decide) kc3) rfl (fun g13 g13q => ?_)
                                    have hR := gd_R (by decide : 10 = 10 ∨ 10 = 22) hR g13q
                                    have hs := gd_s hs g13q
                                    have hg := gd_tk hg g13q
                                    have hn := gd_n hg
                                    have h4 := hR.2.2.2.2.1
                                    have hI2 := hR.1
                                    have hI3 := hR.2.1
                                    refine xn_if_eq (tgt := 111) dX5_takeLaw_104 rfl (by omega) (fun c14 => ?_) (fun c14 => ?_)
                                    · omega
                                    · refine xe_iconst dX5_takeLaw_107 kc_1 ?_
                                      refine xe_goto (tgt := 112) dX5_takeLaw_108 rfl ?_
                                      refine xe_istore_n (i := 3) dX5_takeLaw_112 rfl (by decide) rfl ?_
                                      refine xe_aload_n dX5_takeLaw_113 rfl ?_
                                      refine xe_getP dX5_takeLaw_114 flX5_26 (st7 hs) (by decide) rfl hI3 ?_
                                      refine xe_iconst dX5_takeLaw_117 kc_3 ?_
                                      refine xe_iconst dX5_takeLaw_118 kc_0 ?_
                                      refine xe_callVIq (d' := 0) (y' := mX3_emit) dX5_takeLaw_119 mlX5_150 mvX3_emit rfl (st10 hs) (by decide) rfl (by omega) (by decide) (Nat.le_of_ble_eq_true rfl) (g_emx10 l g _ hs hR hn (by first | omega | (simp only [List.length_append, List.length_nil, List.length_cons]; omega)) (nI 3) _) rfl (fun g15 g15q => ?_)
                                      have hU := g15q
                                      have hgAhU := hg
                                      have hR := gs_R (by decide : 10 = 10 ∨ 10 = 22) hR g15q.1
                                      have hs := gs_s hs g15q.1
                                      have hn := gs_n g15q.1
                                      have hg := gd_r hR hn
                                      have hn := gd_n hg
                                      have h4 := hR.2.2.2.2.1
                                      have hI2 := hR.1
                                      have hI3 := hR.2.1
                                      refine xe_istore dX5_takeLaw_122 (by decide) rfl ?_
                                      refine xe_iload_n dX5_takeLaw_124 rfl ?_
                                      refine xn_if_eq (tgt := 150) dX5_takeLaw_125 rfl (by omega) (fun c16 => ?_) (fun c16 => ?_)
                                      · omega
                                      · refine xe_aload_n dX5_takeLaw_128 rfl ?_
                                        refine xe_iconst dX5_takeLaw_129 kc_0 ?_
                                        refine xe_callVIq (d' := 21) (y' := mX5_takeSum) dX5_takeLaw_130 mlX5_147 mvX5_takeSum rfl (st7 hs) (by decide) rfl (by omega) (by decide) (Nat.le_of_ble_eq_true rfl) ((show q_Ct l g 21 _ _ _ (fun r h1 => r = some (.int (nI 1)) ∧ q_gd K m 10 _ _ z h1) from by have hC := xc_sum10 l g (K := K) (m := m) _ hs _ _ hR hn (by first | omega | (simp only [List.length_append, List.length_nil, List.length_cons]; omega)); rw [u3] at hC; exact hC)) rfl (fun g17 g17q => ?_)
                                        have hR := gd_R (by decide : 10 = 10 ∨ 10 = 22) hR g17q
                                        have hs := gd_s hs g17q
                                        have hg := gd_app hg g17q
                                        have hn := gd_n hg
                                        have h4 := hR.2.2.2.2.1
                                        have hI2 := hR.1
                                        have hI3 := hR.2.1
                                        refine xn_if_eq (tgt := 150) dX5_takeLaw_133 rfl (by omega) (fun c18 => ?_) (fun c18 => ?_)
                                        · omega
                                        · refine xe_aload_n dX5_takeLaw_136 rfl ?_
                                          refine xe_sipush dX5_takeLaw_137 ks_266 ?_
                                          refine xe_callVIq (d' := 0) (y' := mX5_take) dX5_takeLaw_140 mlX5_63 mvX5_take rfl (st7 hs) (by decide) rfl (by omega) (by decide) (Nat.le_of_ble_eq_true rfl) (g_take10 l g _ hs hR hn 30 266 rfl (by decide) (by decide) (by decide) kc4) rfl (fun g19 g19q => ?_)
                                          have hR := gd_R (by decide : 10 = 10 ∨ 10 = 22) hR g19q
                                          have hs := gd_s hs g19q
                                          have hg := gd_tk hg g19q
                                          have hn := gd_n hg
                                          have h4 := hR.2.2.2.2.1
                                          have hI2 := hR.1
                                          have hI3 := hR.2.1
                                          refine xn_if_eq (tgt := 150) dX5_takeLaw_143 rfl (by omega) (fun c20 => ?_) (fun c20 => ?_)
                                          · omega
                                          · refine xe_iconst dX5_takeLaw_146 kc_1 ?_
                                            refine xe_goto (tgt := 151) dX5_takeLaw_147 rfl ?_
                                            refine xe_istore_n (i := 3) dX5_takeLaw_151 rfl (by decide) rfl ?_
                                            refine xe_aload_n dX5_takeLaw_152 rfl ?_
                                            refine xe_getP dX5_takeLaw_153 flX5_26 (st7 hs) (by decide) rfl hI3 ?_
                                            refine xe_iconst dX5_takeLaw_156 kc_2 ?_
                                            refine xe_iconst dX5_takeLaw_157 kc_0 ?_
                                            refine xe_callVIq (d' := 0) (y' := mX3_emit) dX5_takeLaw_158 mlX5_150 mvX3_emit rfl (st10 hs) (by decide) rfl (by omega) (by decide) (Nat.le_of_ble_eq_true rfl) (g_emx10 l g _ hs hR hn (by first | omega | (simp only [List.length_append, List.length_nil, List.length_cons]; omega)) (nI 2) _) rfl (fun g21 g21q => ?_)
                                            have hE := g21q
                                            have hgAhE := hg
                                            have hR := gs_R (by decide : 10 = 10 ∨ 10 = 22) hR g21q.1
                                            have hs := gs_s hs g21q.1
                                            have hn := gs_n g21q.1
                                            have hg := gd_r hR hn
                                            have hn := gd_n hg
                                            have h4 := hR.2.2.2.2.1
                                            have hI2 := hR.1
                                            have hI3 := hR.2.1
                                            refine xe_pop dX5_takeLaw_161 rfl ?_
                                            refine xe_aload_n dX5_takeLaw_162 rfl ?_
                                            refine xe_getP dX5_takeLaw_163 flX5_26 (st7 hs) (by decide) rfl hI3 ?_
                                            refine xe_getP dX5_takeLaw_166 flX5_154 (st10 hs) (by decide) rfl (sp10_1 hs) ?_
                                            refine xe_iload dX5_takeLaw_169 rfl ?_
                                            refine xe_aload_n dX5_takeLaw_171 rfl ?_
                                            refine xe_getP dX5_takeLaw_172 flX5_26 (st7 hs) (by decide) rfl hI3 ?_
                                            refine xe_getIv dX5_takeLaw_175 flX5_144 (st10 hs) (by decide) rfl (v := nI (n + ([] ++ x.1 ++ y.1).length + 1 + ([] ++ z.1).length + 1 + ([] : List (Nat × Int32)).length)) (hn) ?_
                                            refine xn_iast dX5_takeLaw_178 (st12 hs) (by first | omega | (simp only [List.length_append, List.length_nil, List.length_cons]; omega)) (by decide) ?_
                                            refine xn_iinc dX5_takeLaw_179 rfl kc_1 ?_
                                            refine xe_goto (tgt := 30) dX5_takeLaw_182 rfl ?_
                                            refine xe_locals (L' := [(0, .ref 7), (1, .ref wc), (2, .int wx), (3, .int (nI 1)), (4, .int (nI (i + 1)))]) (And.intro rfl (And.intro rfl (And.intro rfl (And.intro rfl (And.intro rfl trivial))))) ?_
                                            have eA : n + ([] ++ x.1 ++ y.1).length = n + x.1.length + y.1.length := by rw [List.nil_append, List.length_append, Nat.add_assoc]
                                            have eB : n + ([] ++ x.1 ++ y.1).length + 1 + ([] ++ z.1).length = n + x.1.length + y.1.length + 1 + z.1.length := by rw [eA, List.nil_append]
                                            have gA := gs_gd hgAhU
                                            have gU := hU.1
                                            have gZ := gs_gd hgAhE
                                            have gE := hE.1
                                            have sA := hgAhU.2.2.2.2.2.2.2.2.2
                                            have sZ := hgAhE.2.2.2.2.2.2.2.2.2
                                            have sU := hU.2.1
                                            have sE := hE.2.1
                                            rw [eA] at gA gU sU
                                            rw [eB] at gE sE
                                            rw [eA] at gZ sZ
                                            rw [List.nil_append] at sA sZ gZ
                                            obtain ⟨sx, sy⟩ := q_sgC_of_app sA
                                            have kU := gU.2.2.2.2.2.2.2.2.2
                                            have kZ := gZ.2.2.2.2.2.2.2.2.2
                                            have kE := gE.2.2.2.2.2.2.2.2.2
                                            have kk : ∀ i, i < n + x.1.length + y.1.length → q_I g21 (10 + 1) i = q_I g13 (10 + 1) i ∧ q_I g21 (10 + 2) i = q_I g13 (10 + 2) i := fun i hi => ⟨((kE i (by omega)).1).trans (((kZ i (by omega)).1).trans (kU i hi).1), ((kE i (by omega)).2).trans (((kZ i (by omega)).2).trans (kU i hi).2)⟩
                                            have gT := gs_t gA (gs_t gU (gs_t gZ gE))
                                            have hs9 := hs
                                            have hh : ∀ i, i ≠ n + x.1.length + y.1.length → upd (q_I g21 (10 + 2)) (n + ([] ++ x.1 ++ y.1).length) (nI (n + ([] ++ x.1 ++ y.1).length + 1 + ([] ++ z.1).length + 1 + ([] : List (Nat × Int32)).length)) i = q_I g21 (10 + 2) i := fun i hi => pk_un (by rw [eA]; exact hi)
                                            have gW := gs_w10 gT (j := n + ([] ++ x.1 ++ y.1).length) (v := nI (n + ([] ++ x.1 ++ y.1).length + 1 + ([] ++ z.1).length + 1 + ([] : List (Nat × Int32)).length)) (by omega)
                                            have eC : n + ([] ++ x.1 ++ y.1).length + 1 + ([] ++ z.1).length + 1 + ([] : List (Nat × Int32)).length = n + x.1.length + y.1.length + 1 + z.1.length + 1 := by rw [eB]; rfl
                                            have hR9 := gs_R (by decide : 10 = 10 ∨ 10 = 22) hR0 gW
                                            have ih9 := ih (i + 1) _ _ _ (gs_s hs0 gW) hR9 (gs_n gW) (by omega) (by omega)
                                            rw [tx_ifs_acc]
                                            refine xe_post (fun r h1 q => lw_if (by decide : 10 = 10 ∨ 10 = 22) gW (by omega) ?_ wfx ?_ wfy ?_ ?_ ?_ wfz ?_ q) ih9
                                            · exact q_sgC_co (fun i h1 h2 => ⟨(kk i (by omega)).1, (hh i (by omega)).trans (kk i (by omega)).2⟩) sx
                                            · exact q_sgC_co (fun i h1 h2 => ⟨(kk i (by omega)).1, (hh i (by omega)).trans (kk i (by omega)).2⟩) sy
                                            · exact ((kE _ (by omega)).1).trans (((kZ _ (by omega)).1).trans sU)
                                            · show upd (q_I g21 (10 + 2)) (n + ([] ++ x.1 ++ y.1).length) _ (n + x.1.length + y.1.length) = _
                                              rw [eA]
                                              exact pk_us.trans (congrArg nI (by simp))
                                            · exact q_sgC_co (fun i h1 h2 => ⟨(kE i (by omega)).1, (hh i (by omega)).trans (kE i (by omega)).2⟩) sZ
                                            · exact sE
                          · omega
    · skip
      rw [if_neg h28]
      cases hu : tx_sum K 6 t with
      | inl er =>
        refine xe_iload dX5_takeLaw_30 rfl ?_
        refine xe_iconst dX5_takeLaw_32 kc_4 ?_
        refine xn_icmp_gt (tgt := 185) dX5_takeLaw_33 rfl (by omega) (by omega) (fun c1 => ?_) (fun c1 => ?_)
        · omega
        · refine xe_iload_n dX5_takeLaw_36 rfl ?_
          refine xn_if_eq (tgt := 185) dX5_takeLaw_37 rfl (by omega) (fun c2 => ?_) (fun c2 => ?_)
          · omega
          · refine xe_aload_n dX5_takeLaw_40 rfl ?_
            refine xe_getIv dX5_takeLaw_41 flX5_41 (st7 hs) (by decide) rfl (v := (q_kap (tk_T K t))) (h5) ?_
            refine xe_sipush dX5_takeLaw_44 ks_264 ?_
            refine xe_icmp_ne (tgt := 185) dX5_takeLaw_47 rfl (fun c3 => ?_) (fun c3 => ?_)
            · refine xe_iload_n dX5_takeLaw_185 rfl ?_
              refine xn_if_eq (tgt := 201) dX5_takeLaw_186 rfl (by omega) (fun c4 => ?_) (fun c4 => ?_)
              · omega
              · refine xe_aload_n dX5_takeLaw_189 rfl ?_
                refine xe_iconst dX5_takeLaw_190 kc_0 ?_
                refine xe_callVIq (d' := 21) (y' := mX5_takeSum) dX5_takeLaw_191 mlX5_147 mvX5_takeSum rfl (st7 hs) (by decide) rfl (by omega) (by decide) (Nat.le_of_ble_eq_true rfl) ((show q_Ct l g 21 _ _ _ (fun r h1 => r = some (.int (nI 0)) ∧ q_bad K 10 _ er h1) from by have hC := xc_sum10 l g (K := K) (m := m) _ hs _ _ hR hn (by first | omega | (simp only [List.length_append, List.length_nil, List.length_cons]; omega)); rw [hu] at hC; exact hC)) rfl (fun g5 g5q => ?_)
                have hs := bad_s hs g5q
                have hb := gd_bad hg (by first | omega | (simp only [List.length_append, List.length_nil, List.length_cons]; omega)) g5q
                obtain ⟨nb, hnb, hnb2⟩ := g5q.1.2.2
                have hI2 := em_P g5q.1 hI2
                have hI3 := em_P g5q.1 hI3
                refine xn_if_eq (tgt := 201) dX5_takeLaw_194 rfl (by omega) (fun c6 => ?_) (fun c6 => ?_)
                · refine xe_iconst dX5_takeLaw_201 kc_0 ?_
                  refine xe_istore_n (i := 3) dX5_takeLaw_202 rfl (by decide) rfl ?_
                  refine xe_aload_n dX5_takeLaw_203 rfl ?_
                  refine xe_getP dX5_takeLaw_204 flX5_26 (st7 hs) (by decide) rfl hI3 ?_
                  refine xe_iconst dX5_takeLaw_207 kc_2 ?_
                  refine xe_iconst dX5_takeLaw_208 kc_0 ?_
                  refine xe_callVIn (d' := 0) (y' := mX3_emit) dX5_takeLaw_209 mlX5_150 mvX3_emit rfl (st10 hs) (by decide) rfl (by omega) (by decide) (Nat.le_of_ble_eq_true rfl) (b_emit10 l g _ hs hnb hnb2 _ _) rfl (fun g7v g7 g7q => ?_)
                  have hs : q_Stat g7 := q_Stat_2 g7q.2.1.1 hs
                  have hb := bad_em hb g7q.2
                  have hI2 := em_P g7q.2.1 hI2
                  have hI3 := em_P g7q.2.1 hI3
                  refine xe_pop dX5_takeLaw_212 rfl ?_
                  refine xe_iload_n dX5_takeLaw_213 rfl ?_
                  refine xn_if_eq (tgt := 230) dX5_takeLaw_214 rfl (by omega) (fun c8 => ?_) (fun c8 => ?_)
                  · refine xe_iconst dX5_takeLaw_230 kc_0 ?_
                    refine xe_ireturn dX5_takeLaw_231 rfl (by first | rfl | decide +kernel) ?_
                    exact ⟨rfl, hb⟩
                  · omega
                · omega
            · exact absurd (q_kap_inj (b := 28) hok (by decide) (by decide) c3) h28
      | inr x =>
        obtain ⟨g1, g2, g3, g4, g5⟩ := tx_sum_ok K 6 _ _ hu
        have wfx := tx_sum_wf hu
        show q_Ex l g 22 mX5_takeLaw 30 _ _ h (q_lwA K m 10 n h (tx_b (tx_ck (tk_T K) 4 x.2) (.inr (([], x.1), x.2 + 1))))
        cases hc : tx_ck (tk_T K) 4 x.2 with
        | some er =>
          refine xe_iload dX5_takeLaw_30 rfl ?_
          refine xe_iconst dX5_takeLaw_32 kc_4 ?_
          refine xn_icmp_gt (tgt := 185) dX5_takeLaw_33 rfl (by omega) (by omega) (fun c1 => ?_) (fun c1 => ?_)
          · omega
          · refine xe_iload_n dX5_takeLaw_36 rfl ?_
            refine xn_if_eq (tgt := 185) dX5_takeLaw_37 rfl (by omega) (fun c2 => ?_) (fun c2 => ?_)
            · omega
            · refine xe_aload_n dX5_takeLaw_40 rfl ?_
              refine xe_getIv dX5_takeLaw_41 flX5_41 (st7 hs) (by decide) rfl (v := (q_kap (tk_T K t))) (h5) ?_
              refine xe_sipush dX5_takeLaw_44 ks_264 ?_
              refine xe_icmp_ne (tgt := 185) dX5_takeLaw_47 rfl (fun c3 => ?_) (fun c3 => ?_)
              · refine xe_iload_n dX5_takeLaw_185 rfl ?_
                refine xn_if_eq (tgt := 201) dX5_takeLaw_186 rfl (by omega) (fun c4 => ?_) (fun c4 => ?_)
                · omega
                · refine xe_aload_n dX5_takeLaw_189 rfl ?_
                  refine xe_iconst dX5_takeLaw_190 kc_0 ?_
                  refine xe_callVIq (d' := 21) (y' := mX5_takeSum) dX5_takeLaw_191 mlX5_147 mvX5_takeSum rfl (st7 hs) (by decide) rfl (by omega) (by decide) (Nat.le_of_ble_eq_true rfl) ((show q_Ct l g 21 _ _ _ (fun r h1 => r = some (.int (nI 1)) ∧ q_gd K m 10 _ _ x h1) from by have hC := xc_sum10 l g (K := K) (m := m) _ hs _ _ hR hn (by first | omega | (simp only [List.length_append, List.length_nil, List.length_cons]; omega)); rw [hu] at hC; exact hC)) rfl (fun g5 g5q => ?_)
                  have hR := gd_R (by decide : 10 = 10 ∨ 10 = 22) hR g5q
                  have hs := gd_s hs g5q
                  have hg := gd_app hg g5q
                  have hn := gd_n hg
                  have h4 := hR.2.2.2.2.1
                  have hI2 := hR.1
                  have hI3 := hR.2.1
                  refine xn_if_eq (tgt := 201) dX5_takeLaw_194 rfl (by omega) (fun c6 => ?_) (fun c6 => ?_)
                  · omega
                  · refine xe_iconst dX5_takeLaw_197 kc_1 ?_
                    refine xe_goto (tgt := 202) dX5_takeLaw_198 rfl ?_
                    refine xe_istore_n (i := 3) dX5_takeLaw_202 rfl (by decide) rfl ?_
                    refine xe_aload_n dX5_takeLaw_203 rfl ?_
                    refine xe_getP dX5_takeLaw_204 flX5_26 (st7 hs) (by decide) rfl hI3 ?_
                    refine xe_iconst dX5_takeLaw_207 kc_2 ?_
                    refine xe_iconst dX5_takeLaw_208 kc_0 ?_
                    refine xe_callVIq (d' := 0) (y' := mX3_emit) dX5_takeLaw_209 mlX5_150 mvX3_emit rfl (st10 hs) (by decide) rfl (by omega) (by decide) (Nat.le_of_ble_eq_true rfl) (g_emx10 l g _ hs hR hn (by first | omega | (simp only [List.length_append, List.length_nil, List.length_cons]; omega)) (nI 2) _) rfl (fun g7 g7q => ?_)
                    have hE := g7q
                    have hgAhE := hg
                    have hR := gs_R (by decide : 10 = 10 ∨ 10 = 22) hR g7q.1
                    have hs := gs_s hs g7q.1
                    have hn := gs_n g7q.1
                    have hg := gd_r hR hn
                    have hn := gd_n hg
                    have h4 := hR.2.2.2.2.1
                    have hI2 := hR.1
                    have hI3 := hR.2.1
                    refine xe_pop dX5_takeLaw_212 rfl ?_
                    refine xe_iload_n dX5_takeLaw_213 rfl ?_
                    refine xn_if_eq (tgt := 230) dX5_takeLaw_214 rfl (by omega) (fun c8 => ?_) (fun c8 => ?_)
                    · omega
                    · refine xe_aload_n dX5_takeLaw_217 rfl ?_
                      refine xe_bipush dX5_takeLaw_218 kb_59 ?_
                      refine xe_callVIq (d' := 0) (y' := mX5_take) dX5_takeLaw_220 mlX5_63 mvX5_take rfl (st7 hs) (by decide) rfl (by omega) (by decide) (Nat.le_of_ble_eq_true rfl) (b_take10 l g _ hs hR hn (by first | omega | (simp only [List.length_append, List.length_nil, List.length_cons]; omega)) 4 59 rfl (by decide) (by decide) hc) rfl (fun g9 g9q => ?_)
                      have hs := bad_s hs g9q
                      have hb := gd_bad hg (by first | omega | (simp only [List.length_append, List.length_nil, List.length_cons]; omega)) g9q
                      obtain ⟨nb, hnb, hnb2⟩ := g9q.1.2.2
                      have hI2 := em_P g9q.1 hI2
                      have hI3 := em_P g9q.1 hI3
                      refine xn_if_eq (tgt := 230) dX5_takeLaw_223 rfl (by omega) (fun c10 => ?_) (fun c10 => ?_)
                      · refine xe_iconst dX5_takeLaw_230 kc_0 ?_
                        refine xe_ireturn dX5_takeLaw_231 rfl (by first | rfl | decide +kernel) ?_
                        exact ⟨rfl, bad_t (gs_em (gs_t (gs_gd hgAhE) hE.1) (by first | omega | (simp only [List.length_append, List.length_nil, List.length_cons]; omega))) hb⟩
                      · omega
              · exact absurd (q_kap_inj (b := 28) hok (by decide) (by decide) c3) h28
        | none =>
          refine xe_iload dX5_takeLaw_30 rfl ?_
          refine xe_iconst dX5_takeLaw_32 kc_4 ?_
          refine xn_icmp_gt (tgt := 185) dX5_takeLaw_33 rfl (by omega) (by omega) (fun c1 => ?_) (fun c1 => ?_)
          · omega
          · refine xe_iload_n dX5_takeLaw_36 rfl ?_
            refine xn_if_eq (tgt := 185) dX5_takeLaw_37 rfl (by omega) (fun c2 => ?_) (fun c2 => ?_)
            · omega
            · refine xe_aload_n dX5_takeLaw_40 rfl ?_
              refine xe_getIv dX5_takeLaw_41 flX5_41 (st7 hs) (by decide) rfl (v := (q_kap (tk_T K t))) (h5) ?_
              refine xe_sipush dX5_takeLaw_44 ks_264 ?_
              refine xe_icmp_ne (tgt := 185) dX5_takeLaw_47 rfl (fun c3 => ?_) (fun c3 => ?_)
              · refine xe_iload_n dX5_takeLaw_185 rfl ?_
                refine xn_if_eq (tgt := 201) dX5_takeLaw_186 rfl (by omega) (fun c4 => ?_) (fun c4 => ?_)
                · omega
                · refine xe_aload_n dX5_takeLaw_189 rfl ?_
                  refine xe_iconst dX5_takeLaw_190 kc_0 ?_
                  refine xe_callVIq (d' := 21) (y' := mX5_takeSum) dX5_takeLaw_191 mlX5_147 mvX5_takeSum rfl (st7 hs) (by decide) rfl (by omega) (by decide) (Nat.le_of_ble_eq_true rfl) ((show q_Ct l g 21 _ _ _ (fun r h1 => r = some (.int (nI 1)) ∧ q_gd K m 10 _ _ x h1) from by have hC := xc_sum10 l g (K := K) (m := m) _ hs _ _ hR hn (by first | omega | (simp only [List.length_append, List.length_nil, List.length_cons]; omega)); rw [hu] at hC; exact hC)) rfl (fun g5 g5q => ?_)
                  have hR := gd_R (by decide : 10 = 10 ∨ 10 = 22) hR g5q
                  have hs := gd_s hs g5q
                  have hg := gd_app hg g5q
                  have hn := gd_n hg
                  have h4 := hR.2.2.2.2.1
                  have hI2 := hR.1
                  have hI3 := hR.2.1
                  refine xn_if_eq (tgt := 201) dX5_takeLaw_194 rfl (by omega) (fun c6 => ?_) (fun c6 => ?_)
                  · omega
                  · refine xe_iconst dX5_takeLaw_197 kc_1 ?_
                    refine xe_goto (tgt := 202) dX5_takeLaw_198 rfl ?_
                    refine xe_istore_n (i := 3) dX5_takeLaw_202 rfl (by decide) rfl ?_
                    refine xe_aload_n dX5_takeLaw_203 rfl ?_
                    refine xe_getP dX5_takeLaw_204 flX5_26 (st7 hs) (by decide) rfl hI3 ?_
                    refine xe_iconst dX5_takeLaw_207 kc_2 ?_
                    refine xe_iconst dX5_takeLaw_208 kc_0 ?_
                    refine xe_callVIq (d' := 0) (y' := mX3_emit) dX5_takeLaw_209 mlX5_150 mvX3_emit rfl (st10 hs) (by decide) rfl (by omega) (by decide) (Nat.le_of_ble_eq_true rfl) (g_emx10 l g _ hs hR hn (by first | omega | (simp only [List.length_append, List.length_nil, List.length_cons]; omega)) (nI 2) _) rfl (fun g7 g7q => ?_)
                    have hE := g7q
                    have hgAhE := hg
                    have hR := gs_R (by decide : 10 = 10 ∨ 10 = 22) hR g7q.1
                    have hs := gs_s hs g7q.1
                    have hn := gs_n g7q.1
                    have hg := gd_r hR hn
                    have hn := gd_n hg
                    have h4 := hR.2.2.2.2.1
                    have hI2 := hR.1
                    have hI3 := hR.2.1
                    refine xe_pop dX5_takeLaw_212 rfl ?_
                    refine xe_iload_n dX5_takeLaw_213 rfl ?_
                    refine xn_if_eq (tgt := 230) dX5_takeLaw_214 rfl (by omega) (fun c8 => ?_) (fun c8 => ?_)
                    · omega
                    · refine xe_aload_n dX5_takeLaw_217 rfl ?_
                      refine xe_bipush dX5_takeLaw_218 kb_59 ?_
                      refine xe_callVIq (d' := 0) (y' := mX5_take) dX5_takeLaw_220 mlX5_63 mvX5_take rfl (st7 hs) (by decide) rfl (by omega) (by decide) (Nat.le_of_ble_eq_true rfl) (g_take10 l g _ hs hR hn 4 59 rfl (by decide) (by decide) (by decide) hc) rfl (fun g9 g9q => ?_)
                      have hR := gd_R (by decide : 10 = 10 ∨ 10 = 22) hR g9q
                      have hs := gd_s hs g9q
                      have hg := gd_tk hg g9q
                      have hn := gd_n hg
                      have h4 := hR.2.2.2.2.1
                      have hI2 := hR.1
                      have hI3 := hR.2.1
                      refine xn_if_eq (tgt := 230) dX5_takeLaw_223 rfl (by omega) (fun c10 => ?_) (fun c10 => ?_)
                      · omega
                      · refine xe_iconst dX5_takeLaw_226 kc_1 ?_
                        refine xe_goto (tgt := 231) dX5_takeLaw_227 rfl ?_
                        refine xe_ireturn dX5_takeLaw_231 rfl (by first | rfl | decide +kernel) ?_
                        have hZ := gs_gd hg
                        have hX := hgAhE.2.2.2.2.2.2.2.2.2
                        rw [List.nil_append] at hX
                        have e0 : n + ([] ++ x.1).length = n + x.1.length := by rw [List.nil_append]
                        have hS := hE.2.1
                        rw [e0] at hS
                        have hZ2 := hZ.2.2.2.2.2.2.2.2.2
                        refine ⟨rfl, n + x.1.length + 1, ?_, (by first | omega | (simp only [List.length_append, List.length_nil, List.length_cons]; omega)), ?_⟩
                        · have := gs_t (gs_t (gs_gd hgAhE) hE.1) hZ
                          simpa using this
                        · have kp1 := hE.1.2.2.2.2.2.2.2.2.2
                          rw [e0] at kp1 hZ2
                          show q_cd _ _ (n + x.1.length + 1) n [] x.1
                          exact ⟨q_sgC_co (fun i h1 h2 => ⟨((hZ2 i (by omega)).1).trans (kp1 i (by omega)).1, ((hZ2 i (by omega)).2).trans (kp1 i (by omega)).2⟩) hX, wfx, (hZ2 _ (by omega)).1.trans hS, by omega⟩
              · exact absurd (q_kap_inj (b := 28) hok (by decide) (by decide) c3) h28
theorem law_20_10 (l : Launch) (g : q_GP) (h : q_H) (hs : q_Stat h) {K : q_TK} {m wc t n : Nat} {wx : Int32} (hR : ck_R h K m 10 t) (hn : q_I h 10 2 = nI n) (hnt : n ≤ 10 + t) : q_Ex l g 22 mX5_takeLaw 20 [(0, .ref 7), (1, .ref wc), (2, .int wx)] [] h (q_lwA K m 10 n h (tx_law K t)) := by
  have hg := gd_r hR hn
  have hn := gd_n hg
  have h4 := hR.2.2.2.2.1
  have hI2 := hR.1
  have hI3 := hR.2.1
  have h4m := hR.2.2.1.1
  have htm := hR.2.2.2.1
  unfold tx_law
  cases hc : tx_ck (tk_T K) 5 t with
  | some er =>
    refine xe_aload_n dX5_takeLaw_20 rfl ?_
    refine xe_bipush dX5_takeLaw_21 kb_61 ?_
    refine xe_callVIq (d' := 0) (y' := mX5_take) dX5_takeLaw_23 mlX5_63 mvX5_take rfl (st7 hs) (by decide) rfl (by omega) (by decide) (Nat.le_of_ble_eq_true rfl) (b_take10 l g _ hs hR hn (by first | omega | (simp only [List.length_append, List.length_nil, List.length_cons]; omega)) 5 61 rfl (by decide) (by decide) hc) rfl (fun g1 g1q => ?_)
    have hs := bad_s hs g1q
    have hb := gd_bad hg (by first | omega | (simp only [List.length_append, List.length_nil, List.length_cons]; omega)) g1q
    obtain ⟨nb, hnb, hnb2⟩ := g1q.1.2.2
    have hI2 := em_P g1q.1 hI2
    have hI3 := em_P g1q.1 hI3
    refine xe_istore_n (i := 3) dX5_takeLaw_26 rfl (by decide) rfl ?_
    refine xe_iconst dX5_takeLaw_27 kc_0 ?_
    refine xe_istore dX5_takeLaw_28 (by decide) rfl ?_
    refine xe_locals (L' := [(0, .ref 7), (1, .ref wc), (2, .int wx), (3, .int (nI 0)), (4, .int (nI 0))]) (And.intro rfl (And.intro rfl (And.intro rfl (And.intro rfl (And.intro rfl trivial))))) ?_
    exact lo30_10 l g _ hs (by decide) (by decide) hb hI3 (fun _ q => ⟨rfl, q⟩)
  | none =>
    refine xe_aload_n dX5_takeLaw_20 rfl ?_
    refine xe_bipush dX5_takeLaw_21 kb_61 ?_
    refine xe_callVIq (d' := 0) (y' := mX5_take) dX5_takeLaw_23 mlX5_63 mvX5_take rfl (st7 hs) (by decide) rfl (by omega) (by decide) (Nat.le_of_ble_eq_true rfl) (g_take10 l g _ hs hR hn 5 61 rfl (by decide) (by decide) (by decide) hc) rfl (fun g1 g1q => ?_)
    have hR := gd_R (by decide : 10 = 10 ∨ 10 = 22) hR g1q
    have hs := gd_s hs g1q
    have hg := gd_tk hg g1q
    have hn := gd_n hg
    have h4 := hR.2.2.2.2.1
    have hI2 := hR.1
    have hI3 := hR.2.1
    refine xe_istore_n (i := 3) dX5_takeLaw_26 rfl (by decide) rfl ?_
    refine xe_iconst dX5_takeLaw_27 kc_0 ?_
    refine xe_istore dX5_takeLaw_28 (by decide) rfl ?_
    refine xe_locals (L' := [(0, .ref 7), (1, .ref wc), (2, .int wx), (3, .int (nI 1)), (4, .int (nI 0))]) (And.intro rfl (And.intro rfl (And.intro rfl (And.intro rfl (And.intro rfl trivial))))) ?_
    refine xe_post (fun r h1 q => lw_st (by decide : 10 = 10 ∨ 10 = 22) hg (by first | omega | (simp only [List.length_append, List.length_nil, List.length_cons]; omega)) q) (law_ifs10 l g 4 0 _ _ _ hs hR hn (by simp only [List.length_nil]; omega) rfl)
theorem c_X5_takeLaw10_6 (l : Launch) (g : q_GP) (h : q_H) (hs : q_Stat h) {K : q_TK} {m t n : Nat} (hR : ck_R h K m 10 t) (hn : q_I h 10 2 = nI n) (hnt : n ≤ 10 + t) {j : Nat} (hj : j < 8) : q_Ct l g 22 mX5_takeLaw [.ref 7, .ref 16, .int (nI j)] h (q_lwA K m 10 n (q_wI h 16 (upd (q_I h 16) j (nI n))) (tx_law K t)) := by
  have h4 := hR.2.2.2.2.1
  have hI2 := hR.1
  have hI3 := hR.2.1
  refine q_CtV mvX5_takeLaw (Nat.le_of_ble_eq_true rfl) ?_
  refine xe_iload_n dX5_takeLaw_0 rfl ?_
  refine xn_if_lt (tgt := 20) dX5_takeLaw_1 rfl (by omega) ?_
  refine xe_iload_n dX5_takeLaw_4 rfl ?_
  refine xe_aload_n dX5_takeLaw_5 rfl ?_
  refine xe_alen dX5_takeLaw_6 (st16 hs) (by decide) ⟨0, _, rfl⟩ (v := nI 8) rfl ?_
  refine xn_icmp_ge (tgt := 20) dX5_takeLaw_7 rfl (by omega) (by omega) (fun c2 => ?_) (fun c2 => ?_)
  · omega
  · refine xe_aload_n dX5_takeLaw_10 rfl ?_
    refine xe_iload_n dX5_takeLaw_11 rfl ?_
    refine xe_aload_n dX5_takeLaw_12 rfl ?_
    refine xe_getP dX5_takeLaw_13 flX5_26 (st7 hs) (by decide) rfl hI3 ?_
    refine xe_getIv dX5_takeLaw_16 flX5_144 (st10 hs) (by decide) rfl (v := nI n) (hn) ?_
    refine xn_iast dX5_takeLaw_19 (st16 hs) (by omega) (by decide) ?_
    refine xe_locals (L' := [(0, .ref 7), (1, .ref 16), (2, .int (nI j))]) (And.intro rfl (And.intro rfl (And.intro rfl trivial))) ?_
    refine law_20_10 l g _ (by exact hs) ?_ ?_ hnt
    · exact ck_R_t hR rfl rfl rfl rfl hR.2.2.2.1 hR.2.2.2.2.1 hR.2.2.2.2.2
    · exact hn
theorem c_X5_takeLaw10_7 (l : Launch) (g : q_GP) (h : q_H) (hs : q_Stat h) {K : q_TK} {m t n : Nat} (hR : ck_R h K m 10 t) (hn : q_I h 10 2 = nI n) (hnt : n ≤ 10 + t) {j : Nat} (hj : j < 8) : q_Ct l g 22 mX5_takeLaw [.ref 7, .ref 17, .int (nI j)] h (q_lwA K m 10 n (q_wI h 17 (upd (q_I h 17) j (nI n))) (tx_law K t)) := by
  have h4 := hR.2.2.2.2.1
  have hI2 := hR.1
  have hI3 := hR.2.1
  refine q_CtV mvX5_takeLaw (Nat.le_of_ble_eq_true rfl) ?_
  refine xe_iload_n dX5_takeLaw_0 rfl ?_
  refine xn_if_lt (tgt := 20) dX5_takeLaw_1 rfl (by omega) ?_
  refine xe_iload_n dX5_takeLaw_4 rfl ?_
  refine xe_aload_n dX5_takeLaw_5 rfl ?_
  refine xe_alen dX5_takeLaw_6 (st17 hs) (by decide) ⟨0, _, rfl⟩ (v := nI 8) rfl ?_
  refine xn_icmp_ge (tgt := 20) dX5_takeLaw_7 rfl (by omega) (by omega) (fun c2 => ?_) (fun c2 => ?_)
  · omega
  · refine xe_aload_n dX5_takeLaw_10 rfl ?_
    refine xe_iload_n dX5_takeLaw_11 rfl ?_
    refine xe_aload_n dX5_takeLaw_12 rfl ?_
    refine xe_getP dX5_takeLaw_13 flX5_26 (st7 hs) (by decide) rfl hI3 ?_
    refine xe_getIv dX5_takeLaw_16 flX5_144 (st10 hs) (by decide) rfl (v := nI n) (hn) ?_
    refine xn_iast dX5_takeLaw_19 (st17 hs) (by omega) (by decide) ?_
    refine xe_locals (L' := [(0, .ref 7), (1, .ref 17), (2, .int (nI j))]) (And.intro rfl (And.intro rfl (And.intro rfl trivial))) ?_
    refine law_20_10 l g _ (by exact hs) ?_ ?_ hnt
    · exact ck_R_t hR rfl rfl rfl rfl hR.2.2.2.1 hR.2.2.2.2.1 hR.2.2.2.2.2
    · exact hn
theorem c_X5_takeLaw10_8 (l : Launch) (g : q_GP) (h : q_H) (hs : q_Stat h) {K : q_TK} {m t n : Nat} (hR : ck_R h K m 10 t) (hn : q_I h 10 2 = nI n) (hnt : n ≤ 10 + t)  : q_Ct l g 22 mX5_takeLaw [.ref 7, .ref 18, .int (nI 0)] h (q_lwA K m 10 n (q_wI h 18 (upd (q_I h 18) 0 (nI n))) (tx_law K t)) := by
  have h4 := hR.2.2.2.2.1
  have hI2 := hR.1
  have hI3 := hR.2.1
  refine q_CtV mvX5_takeLaw (Nat.le_of_ble_eq_true rfl) ?_
  refine xe_iload_n dX5_takeLaw_0 rfl ?_
  refine xn_if_lt (tgt := 20) dX5_takeLaw_1 rfl (by omega) ?_
  refine xe_iload_n dX5_takeLaw_4 rfl ?_
  refine xe_aload_n dX5_takeLaw_5 rfl ?_
  refine xe_alen dX5_takeLaw_6 (st18 hs) (by decide) ⟨0, _, rfl⟩ (v := nI 1) rfl ?_
  refine xn_icmp_ge (tgt := 20) dX5_takeLaw_7 rfl (by omega) (by omega) (fun c2 => ?_) (fun c2 => ?_)
  · omega
  · refine xe_aload_n dX5_takeLaw_10 rfl ?_
    refine xe_iload_n dX5_takeLaw_11 rfl ?_
    refine xe_aload_n dX5_takeLaw_12 rfl ?_
    refine xe_getP dX5_takeLaw_13 flX5_26 (st7 hs) (by decide) rfl hI3 ?_
    refine xe_getIv dX5_takeLaw_16 flX5_144 (st10 hs) (by decide) rfl (v := nI n) (hn) ?_
    refine xn_iast dX5_takeLaw_19 (st18 hs) (by omega) (by decide) ?_
    refine xe_locals (L' := [(0, .ref 7), (1, .ref 18), (2, .int (nI 0))]) (And.intro rfl (And.intro rfl (And.intro rfl trivial))) ?_
    refine law_20_10 l g _ (by exact hs) ?_ ?_ hnt
    · exact ck_R_t hR rfl rfl rfl rfl hR.2.2.2.1 hR.2.2.2.2.1 hR.2.2.2.2.2
    · exact hn
theorem c_X5_takeLaw10_9 (l : Launch) (g : q_GP) (h : q_H) (hs : q_Stat h) {K : q_TK} {m t n : Nat} (hR : ck_R h K m 10 t) (hn : q_I h 10 2 = nI n) (hnt : n ≤ 10 + t)  : q_Ct l g 22 mX5_takeLaw [.ref 7, .ref 19, .int (nI 0)] h (q_lwA K m 10 n (q_wI h 19 (upd (q_I h 19) 0 (nI n))) (tx_law K t)) := by
  have h4 := hR.2.2.2.2.1
  have hI2 := hR.1
  have hI3 := hR.2.1
  refine q_CtV mvX5_takeLaw (Nat.le_of_ble_eq_true rfl) ?_
  refine xe_iload_n dX5_takeLaw_0 rfl ?_
  refine xn_if_lt (tgt := 20) dX5_takeLaw_1 rfl (by omega) ?_
  refine xe_iload_n dX5_takeLaw_4 rfl ?_
  refine xe_aload_n dX5_takeLaw_5 rfl ?_
  refine xe_alen dX5_takeLaw_6 (st19 hs) (by decide) ⟨0, _, rfl⟩ (v := nI 1) rfl ?_
  refine xn_icmp_ge (tgt := 20) dX5_takeLaw_7 rfl (by omega) (by omega) (fun c2 => ?_) (fun c2 => ?_)
  · omega
  · refine xe_aload_n dX5_takeLaw_10 rfl ?_
    refine xe_iload_n dX5_takeLaw_11 rfl ?_
    refine xe_aload_n dX5_takeLaw_12 rfl ?_
    refine xe_getP dX5_takeLaw_13 flX5_26 (st7 hs) (by decide) rfl hI3 ?_
    refine xe_getIv dX5_takeLaw_16 flX5_144 (st10 hs) (by decide) rfl (v := nI n) (hn) ?_
    refine xn_iast dX5_takeLaw_19 (st19 hs) (by omega) (by decide) ?_
    refine xe_locals (L' := [(0, .ref 7), (1, .ref 19), (2, .int (nI 0))]) (And.intro rfl (And.intro rfl (And.intro rfl trivial))) ?_
    refine law_20_10 l g _ (by exact hs) ?_ ?_ hnt
    · exact ck_R_t hR rfl rfl rfl rfl hR.2.2.2.1 hR.2.2.2.2.1 hR.2.2.2.2.2
    · exact hn
theorem c_X5_takeLaw10_n (l : Launch) (g : q_GP) (h : q_H) (hs : q_Stat h) {K : q_TK} {m t n : Nat} (hR : ck_R h K m 10 t) (hn : q_I h 10 2 = nI n) (hnt : n ≤ 10 + t) (wc : Nat) : q_Ct l g 22 mX5_takeLaw [.ref 7, .ref wc, .int (-1)] h (q_lwA K m 10 n h (tx_law K t)) := by
  have h4 := hR.2.2.2.2.1
  have hI2 := hR.1
  have hI3 := hR.2.1
  refine q_CtV mvX5_takeLaw (Nat.le_of_ble_eq_true rfl) ?_
  refine xe_iload_n dX5_takeLaw_0 rfl ?_
  refine xe_if_lt (tgt := 20) dX5_takeLaw_1 rfl (fun c1 => ?_) (fun c1 => ?_)
  · refine xe_locals (L' := [(0, .ref 7), (1, .ref wc), (2, .int (-1))]) (And.intro rfl (And.intro rfl (And.intro rfl trivial))) ?_
    exact law_20_10 l g _ hs hR hn hnt
  · exact absurd (by decide) c1
theorem lo185_22 (l : Launch) (g : q_GP) (h : q_H) (hs : q_Stat h) {d wc : Nat} {wx : Int32} (hd : 1 ≤ d) {i : Nat} {K : q_TK} {h0 : q_H} {e : Nat × Nat} (hb : q_bad K 22 h0 e h) (hI3 : q_P h 7 3 = some 22) {Q : Option Value → q_H → Prop} (hq : ∀ h1, q_bad K 22 h0 e h1 → Q (some (.int (nI 0))) h1) : q_Ex l g d mX5_takeLaw 185 [(0, .ref 7), (1, .ref wc), (2, .int wx), (3, .int (nI 0)), (4, .int (nI i))] [] h Q := by
  obtain ⟨nb, hnb, hnb2⟩ := hb.1.2.2
  have hI2 : q_P h 7 3 = q_P h 7 3 := rfl
  refine xe_iload_n dX5_takeLaw_185 rfl ?_
  refine xn_if_eq (tgt := 201) dX5_takeLaw_186 rfl (by omega) (fun c1 => ?_) (fun c1 => ?_)
  · refine xe_iconst dX5_takeLaw_201 kc_0 ?_
    refine xe_istore_n (i := 3) dX5_takeLaw_202 rfl (by decide) rfl ?_
    refine xe_aload_n dX5_takeLaw_203 rfl ?_
    refine xe_getP dX5_takeLaw_204 flX5_26 (st7 hs) (by decide) rfl hI3 ?_
    refine xe_iconst dX5_takeLaw_207 kc_2 ?_
    refine xe_iconst dX5_takeLaw_208 kc_0 ?_
    refine xe_callVIn (d' := 0) (y' := mX3_emit) dX5_takeLaw_209 mlX5_150 mvX3_emit rfl (st22 hs) (by decide) rfl (by omega) (by decide) (Nat.le_of_ble_eq_true rfl) (b_emit22 l g _ hs hnb hnb2 _ _) rfl (fun g2v g2 g2q => ?_)
    have hs : q_Stat g2 := q_Stat_2 g2q.2.1.1 hs
    have hb := bad_em hb g2q.2
    refine xe_pop dX5_takeLaw_212 rfl ?_
    refine xe_iload_n dX5_takeLaw_213 rfl ?_
    refine xn_if_eq (tgt := 230) dX5_takeLaw_214 rfl (by omega) (fun c3 => ?_) (fun c3 => ?_)
    · refine xe_iconst dX5_takeLaw_230 kc_0 ?_
      refine xe_ireturn dX5_takeLaw_231 rfl (by first | rfl | decide +kernel) ?_
      exact hq _ hb
    · omega
  · omega
theorem lo30_22 (l : Launch) (g : q_GP) (h : q_H) (hs : q_Stat h) {d wc : Nat} {wx : Int32} (hd : 1 ≤ d) {i : Nat} (hi : i ≤ 5) {K : q_TK} {h0 : q_H} {e : Nat × Nat} (hb : q_bad K 22 h0 e h) (hI3 : q_P h 7 3 = some 22) {Q : Option Value → q_H → Prop} (hq : ∀ h1, q_bad K 22 h0 e h1 → Q (some (.int (nI 0))) h1) : q_Ex l g d mX5_takeLaw 30 [(0, .ref 7), (1, .ref wc), (2, .int wx), (3, .int (nI 0)), (4, .int (nI i))] [] h Q := by
  refine xe_iload dX5_takeLaw_30 rfl ?_
  refine xe_iconst dX5_takeLaw_32 kc_4 ?_
  refine xn_icmp_gt (tgt := 185) dX5_takeLaw_33 rfl (by omega) (by omega) (fun c1 => ?_) (fun c1 => ?_)
  · refine xe_locals (L' := [(0, .ref 7), (1, .ref wc), (2, .int wx), (3, .int (nI 0)), (4, .int (nI i))]) (And.intro rfl (And.intro rfl (And.intro rfl (And.intro rfl (And.intro rfl trivial))))) ?_
    exact lo185_22 l g _ hs hd hb hI3 hq
  · refine xe_iload_n dX5_takeLaw_36 rfl ?_
    refine xn_if_eq (tgt := 185) dX5_takeLaw_37 rfl (by omega) (fun c2 => ?_) (fun c2 => ?_)
    · refine xe_locals (L' := [(0, .ref 7), (1, .ref wc), (2, .int wx), (3, .int (nI 0)), (4, .int (nI i))]) (And.intro rfl (And.intro rfl (And.intro rfl (And.intro rfl (And.intro rfl trivial))))) ?_
      exact lo185_22 l g _ hs hd hb hI3 hq
    · omega
theorem law_ifs22 (l : Launch) (g : q_GP) {K : q_TK} {m wc : Nat} {wx : Int32} : ∀ (k i : Nat) (h : q_H) (t n : Nat), q_Stat h → ck_R h K m 22 t → q_I h 22 2 = nI n → n ≤ 10 + t → i + k = 4 → q_Ex l g 22 mX5_takeLaw 30 [(0, .ref 7), (1, .ref wc), (2, .int wx), (3, .int (nI 1)), (4, .int (nI i))] [] h (q_lwA K m 22 n h (tx_ifs K k [] t)) := by
  intro k
  induction k with
  | zero =>
    intro i h t n hs hR hn hnt hik
    have hg := gd_r hR hn
    have hn := gd_n hg
    have h4 := hR.2.2.2.2.1
    have hI2 := hR.1
    have hI3 := hR.2.1
    have h5 := hR.2.2.2.2.2
    have h4m := hR.2.2.1.1
    have htm := hR.2.2.2.1
    have hok := (hR.2.2.1.2.2 t htm).1
    rw [tx_ifs]
    by_cases h28 : tk_T K t = 28
    · rw [if_pos h28]
      have hk5 : q_I h 7 5 = nI 264 := h5.trans (by rw [h28]; rfl)
      refine xe_iload dX5_takeLaw_30 rfl ?_
      refine xe_iconst dX5_takeLaw_32 kc_4 ?_
      refine xn_icmp_gt (tgt := 185) dX5_takeLaw_33 rfl (by omega) (by omega) (fun c1 => ?_) (fun c1 => ?_)
      · omega
      · refine xe_iload_n dX5_takeLaw_36 rfl ?_
        refine xn_if_eq (tgt := 185) dX5_takeLaw_37 rfl (by omega) (fun c2 => ?_) (fun c2 => ?_)
        · omega
        · refine xe_aload_n dX5_takeLaw_40 rfl ?_
          refine xe_getIv dX5_takeLaw_41 flX5_41 (st7 hs) (by decide) rfl (v := nI 264) (hk5) ?_
          refine xe_sipush dX5_takeLaw_44 ks_264 ?_
          refine xn_icmp_ne (tgt := 185) dX5_takeLaw_47 rfl (by omega) (by omega) (fun c3 => ?_) (fun c3 => ?_)
          · omega
          · refine xe_iload dX5_takeLaw_50 rfl ?_
            refine xe_iconst dX5_takeLaw_52 kc_4 ?_
            refine xn_icmp_ne (tgt := 62) dX5_takeLaw_53 rfl (by omega) (by omega) (fun c4 => ?_) (fun c4 => ?_)
            · omega
            · refine xe_aload_n dX5_takeLaw_56 rfl ?_
              refine xe_iconst dX5_takeLaw_57 kc_2 ?_
              refine xe_callVIq (d' := 0) (y' := mX5_fail) dX5_takeLaw_58 mlX5_119 mvX5_fail rfl (st7 hs) (by decide) rfl (by omega) (by decide) (Nat.le_of_ble_eq_true rfl) (b_fail22 l g _ hs hR hn (by first | omega | (simp only [List.length_append, List.length_nil, List.length_cons]; omega)) 2) rfl (fun g5 g5q => ?_)
              have hb := gd_bad hg (by first | omega | (simp only [List.length_append, List.length_nil, List.length_cons]; omega)) g5q
              refine xe_ireturn dX5_takeLaw_61 rfl (by first | rfl | decide +kernel) ?_
              exact ⟨rfl, hb⟩
    · skip
      rw [if_neg h28]
      cases hu : tx_sum K 6 t with
      | inl er =>
        refine xe_iload dX5_takeLaw_30 rfl ?_
        refine xe_iconst dX5_takeLaw_32 kc_4 ?_
        refine xn_icmp_gt (tgt := 185) dX5_takeLaw_33 rfl (by omega) (by omega) (fun c1 => ?_) (fun c1 => ?_)
        · omega
        · refine xe_iload_n dX5_takeLaw_36 rfl ?_
          refine xn_if_eq (tgt := 185) dX5_takeLaw_37 rfl (by omega) (fun c2 => ?_) (fun c2 => ?_)
          · omega
          · refine xe_aload_n dX5_takeLaw_40 rfl ?_
            refine xe_getIv dX5_takeLaw_41 flX5_41 (st7 hs) (by decide) rfl (v := (q_kap (tk_T K t))) (h5) ?_
            refine xe_sipush dX5_takeLaw_44 ks_264 ?_
            refine xe_icmp_ne (tgt := 185) dX5_takeLaw_47 rfl (fun c3 => ?_) (fun c3 => ?_)
            · refine xe_iload_n dX5_takeLaw_185 rfl ?_
              refine xn_if_eq (tgt := 201) dX5_takeLaw_186 rfl (by omega) (fun c4 => ?_) (fun c4 => ?_)
              · omega
              · refine xe_aload_n dX5_takeLaw_189 rfl ?_
                refine xe_iconst dX5_takeLaw_190 kc_0 ?_
                refine xe_callVIq (d' := 21) (y' := mX5_takeSum) dX5_takeLaw_191 mlX5_147 mvX5_takeSum rfl (st7 hs) (by decide) rfl (by omega) (by decide) (Nat.le_of_ble_eq_true rfl) ((show q_Ct l g 21 _ _ _ (fun r h1 => r = some (.int (nI 0)) ∧ q_bad K 22 _ er h1) from by have hC := xc_sum22 l g (K := K) (m := m) _ hs _ _ hR hn (by first | omega | (simp only [List.length_append, List.length_nil, List.length_cons]; omega)); rw [hu] at hC; exact hC)) rfl (fun g5 g5q => ?_)
                have hs := bad_s hs g5q
                have hb := gd_bad hg (by first | omega | (simp only [List.length_append, List.length_nil, List.length_cons]; omega)) g5q
                obtain ⟨nb, hnb, hnb2⟩ := g5q.1.2.2
                have hI2 := em_P g5q.1 hI2
                have hI3 := em_P g5q.1 hI3
                refine xn_if_eq (tgt := 201) dX5_takeLaw_194 rfl (by omega) (fun c6 => ?_) (fun c6 => ?_)
                · refine xe_iconst dX5_takeLaw_201 kc_0 ?_
                  refine xe_istore_n (i := 3) dX5_takeLaw_202 rfl (by decide) rfl ?_
                  refine xe_aload_n dX5_takeLaw_203 rfl ?_
                  refine xe_getP dX5_takeLaw_204 flX5_26 (st7 hs) (by decide) rfl hI3 ?_
                  refine xe_iconst dX5_takeLaw_207 kc_2 ?_
                  refine xe_iconst dX5_takeLaw_208 kc_0 ?_
                  refine xe_callVIn (d' := 0) (y' := mX3_emit) dX5_takeLaw_209 mlX5_150 mvX3_emit rfl (st22 hs) (by decide) rfl (by omega) (by decide) (Nat.le_of_ble_eq_true rfl) (b_emit22 l g _ hs hnb hnb2 _ _) rfl (fun g7v g7 g7q => ?_)
                  have hs : q_Stat g7 := q_Stat_2 g7q.2.1.1 hs
                  have hb := bad_em hb g7q.2
                  have hI2 := em_P g7q.2.1 hI2
                  have hI3 := em_P g7q.2.1 hI3
                  refine xe_pop dX5_takeLaw_212 rfl ?_
                  refine xe_iload_n dX5_takeLaw_213 rfl ?_
                  refine xn_if_eq (tgt := 230) dX5_takeLaw_214 rfl (by omega) (fun c8 => ?_) (fun c8 => ?_)
                  · refine xe_iconst dX5_takeLaw_230 kc_0 ?_
                    refine xe_ireturn dX5_takeLaw_231 rfl (by first | rfl | decide +kernel) ?_
                    exact ⟨rfl, hb⟩
                  · omega
                · omega
            · exact absurd (q_kap_inj (b := 28) hok (by decide) (by decide) c3) h28
      | inr x =>
        obtain ⟨g1, g2, g3, g4, g5⟩ := tx_sum_ok K 6 _ _ hu
        have wfx := tx_sum_wf hu
        show q_Ex l g 22 mX5_takeLaw 30 _ _ h (q_lwA K m 22 n h (tx_b (tx_ck (tk_T K) 4 x.2) (.inr (([], x.1), x.2 + 1))))
        cases hc : tx_ck (tk_T K) 4 x.2 with
        | some er =>
          refine xe_iload dX5_takeLaw_30 rfl ?_
          refine xe_iconst dX5_takeLaw_32 kc_4 ?_
          refine xn_icmp_gt (tgt := 185) dX5_takeLaw_33 rfl (by omega) (by omega) (fun c1 => ?_) (fun c1 => ?_)
          · omega
          · refine xe_iload_n dX5_takeLaw_36 rfl ?_
            refine xn_if_eq (tgt := 185) dX5_takeLaw_37 rfl (by omega) (fun c2 => ?_) (fun c2 => ?_)
            · omega
            · refine xe_aload_n dX5_takeLaw_40 rfl ?_
              refine xe_getIv dX5_takeLaw_41 flX5_41 (st7 hs) (by decide) rfl (v := (q_kap (tk_T K t))) (h5) ?_
              refine xe_sipush dX5_takeLaw_44 ks_264 ?_
              refine xe_icmp_ne (tgt := 185) dX5_takeLaw_47 rfl (fun c3 => ?_) (fun c3 => ?_)
              · refine xe_iload_n dX5_takeLaw_185 rfl ?_
                refine xn_if_eq (tgt := 201) dX5_takeLaw_186 rfl (by omega) (fun c4 => ?_) (fun c4 => ?_)
                · omega
                · refine xe_aload_n dX5_takeLaw_189 rfl ?_
                  refine xe_iconst dX5_takeLaw_190 kc_0 ?_
                  refine xe_callVIq (d' := 21) (y' := mX5_takeSum) dX5_takeLaw_191 mlX5_147 mvX5_takeSum rfl (st7 hs) (by decide) rfl (by omega) (by decide) (Nat.le_of_ble_eq_true rfl) ((show q_Ct l g 21 _ _ _ (fun r h1 => r = some (.int (nI 1)) ∧ q_gd K m 22 _ _ x h1) from by have hC := xc_sum22 l g (K := K) (m := m) _ hs _ _ hR hn (by first | omega | (simp only [List.length_append, List.length_nil, List.length_cons]; omega)); rw [hu] at hC; exact hC)) rfl (fun g5 g5q => ?_)
                  have hR := gd_R (by decide : 22 = 10 ∨ 22 = 22) hR g5q
                  have hs := gd_s hs g5q
                  have hg := gd_app hg g5q
                  have hn := gd_n hg
                  have h4 := hR.2.2.2.2.1
                  have hI2 := hR.1
                  have hI3 := hR.2.1
                  refine xn_if_eq (tgt := 201) dX5_takeLaw_194 rfl (by omega) (fun c6 => ?_) (fun c6 => ?_)
                  · omega
                  · refine xe_iconst dX5_takeLaw_197 kc_1 ?_
                    refine xe_goto (tgt := 202) dX5_takeLaw_198 rfl ?_
                    refine xe_istore_n (i := 3) dX5_takeLaw_202 rfl (by decide) rfl ?_
                    refine xe_aload_n dX5_takeLaw_203 rfl ?_
                    refine xe_getP dX5_takeLaw_204 flX5_26 (st7 hs) (by decide) rfl hI3 ?_
                    refine xe_iconst dX5_takeLaw_207 kc_2 ?_
                    refine xe_iconst dX5_takeLaw_208 kc_0 ?_
                    refine xe_callVIq (d' := 0) (y' := mX3_emit) dX5_takeLaw_209 mlX5_150 mvX3_emit rfl (st22 hs) (by decide) rfl (by omega) (by decide) (Nat.le_of_ble_eq_true rfl) (g_emx22 l g _ hs hR hn (by first | omega | (simp only [List.length_append, List.length_nil, List.length_cons]; omega)) (nI 2) _) rfl (fun g7 g7q => ?_)
                    have hE := g7q
                    have hgAhE := hg
                    have hR := gs_R (by decide : 22 = 10 ∨ 22 = 22) hR g7q.1
                    have hs := gs_s hs g7q.1
                    have hn := gs_n g7q.1
                    have hg := gd_r hR hn
                    have hn := gd_n hg
                    have h4 := hR.2.2.2.2.1
                    have hI2 := hR.1
                    have hI3 := hR.2.1
                    refine xe_pop dX5_takeLaw_212 rfl ?_
                    refine xe_iload_n dX5_takeLaw_213 rfl ?_
                    refine xn_if_eq (tgt := 230) dX5_takeLaw_214 rfl (by omega) (fun c8 => ?_) (fun c8 => ?_)
                    · omega
                    · refine xe_aload_n dX5_takeLaw_217 rfl ?_
                      refine xe_bipush dX5_takeLaw_218 kb_59 ?_
                      refine xe_callVIq (d' := 0) (y' := mX5_take) dX5_takeLaw_220 mlX5_63 mvX5_take rfl (st7 hs) (by decide) rfl (by omega) (by decide) (Nat.le_of_ble_eq_true rfl) (b_take22 l g _ hs hR hn (by first | omega | (simp only [List.length_append, List.length_nil, List.length_cons]; omega)) 4 59 rfl (by decide) (by decide) hc) rfl (fun g9 g9q => ?_)
                      have hs := bad_s hs g9q
                      have hb := gd_bad hg (by first | omega | (simp only [List.length_append, List.length_nil, List.length_cons]; omega)) g9q
                      obtain ⟨nb, hnb, hnb2⟩ := g9q.1.2.2
                      have hI2 := em_P g9q.1 hI2
                      have hI3 := em_P g9q.1 hI3
                      refine xn_if_eq (tgt := 230) dX5_takeLaw_223 rfl (by omega) (fun c10 => ?_) (fun c10 => ?_)
                      · refine xe_iconst dX5_takeLaw_230 kc_0 ?_
                        refine xe_ireturn dX5_takeLaw_231 rfl (by first | rfl | decide +kernel) ?_
                        exact ⟨rfl, bad_t (gs_em (gs_t (gs_gd hgAhE) hE.1) (by first | omega | (simp only [List.length_append, List.length_nil, List.length_cons]; omega))) hb⟩
                      · omega
              · exact absurd (q_kap_inj (b := 28) hok (by decide) (by decide) c3) h28
        | none =>
          refine xe_iload dX5_takeLaw_30 rfl ?_
          refine xe_iconst dX5_takeLaw_32 kc_4 ?_
          refine xn_icmp_gt (tgt := 185) dX5_takeLaw_33 rfl (by omega) (by omega) (fun c1 => ?_) (fun c1 => ?_)
          · omega
          · refine xe_iload_n dX5_takeLaw_36 rfl ?_
            refine xn_if_eq (tgt := 185) dX5_takeLaw_37 rfl (by omega) (fun c2 => ?_) (fun c2 => ?_)
            · omega
            · refine xe_aload_n dX5_takeLaw_40 rfl ?_
              refine xe_getIv dX5_takeLaw_41 flX5_41 (st7 hs) (by decide) rfl (v := (q_kap (tk_T K t))) (h5) ?_
              refine xe_sipush dX5_takeLaw_44 ks_264 ?_
              refine xe_icmp_ne (tgt := 185) dX5_takeLaw_47 rfl (fun c3 => ?_) (fun c3 => ?_)
              · refine xe_iload_n dX5_takeLaw_185 rfl ?_
                refine xn_if_eq (tgt := 201) dX5_takeLaw_186 rfl (by omega) (fun c4 => ?_) (fun c4 => ?_)
                · omega
                · refine xe_aload_n dX5_takeLaw_189 rfl ?_
                  refine xe_iconst dX5_takeLaw_190 kc_0 ?_
                  refine xe_callVIq (d' := 21) (y' := mX5_takeSum) dX5_takeLaw_191 mlX5_147 mvX5_takeSum rfl (st7 hs) (by decide) rfl (by omega) (by decide) (Nat.le_of_ble_eq_true rfl) ((show q_Ct l g 21 _ _ _ (fun r h1 => r = some (.int (nI 1)) ∧ q_gd K m 22 _ _ x h1) from by have hC := xc_sum22 l g (K := K) (m := m) _ hs _ _ hR hn (by first | omega | (simp only [List.length_append, List.length_nil, List.length_cons]; omega)); rw [hu] at hC; exact hC)) rfl (fun g5 g5q => ?_)
                  have hR := gd_R (by decide : 22 = 10 ∨ 22 = 22) hR g5q
                  have hs := gd_s hs g5q
                  have hg := gd_app hg g5q
                  have hn := gd_n hg
                  have h4 := hR.2.2.2.2.1
                  have hI2 := hR.1
                  have hI3 := hR.2.1
                  refine xn_if_eq (tgt := 201) dX5_takeLaw_194 rfl (by omega) (fun c6 => ?_) (fun c6 => ?_)
                  · omega
                  · refine xe_iconst dX5_takeLaw_197 kc_1 ?_
                    refine xe_goto (tgt := 202) dX5_takeLaw_198 rfl ?_
                    refine xe_istore_n (i := 3) dX5_takeLaw_202 rfl (by decide) rfl ?_
                    refine xe_aload_n dX5_takeLaw_203 rfl ?_
                    refine xe_getP dX5_takeLaw_204 flX5_26 (st7 hs) (by decide) rfl hI3 ?_
                    refine xe_iconst dX5_takeLaw_207 kc_2 ?_
                    refine xe_iconst dX5_takeLaw_208 kc_0 ?_
                    refine xe_callVIq (d' := 0) (y' := mX3_emit) dX5_takeLaw_209 mlX5_150 mvX3_emit rfl (st22 hs) (by decide) rfl (by omega) (by decide) (Nat.le_of_ble_eq_true rfl) (g_emx22 l g _ hs hR hn (by first | omega | (simp only [List.length_append, List.length_nil, List.length_cons]; omega)) (nI 2) _) rfl (fun g7 g7q => ?_)
                    have hE := g7q
                    have hgAhE := hg
                    have hR := gs_R (by decide : 22 = 10 ∨ 22 = 22) hR g7q.1
                    have hs := gs_s hs g7q.1
                    have hn := gs_n g7q.1
                    have hg := gd_r hR hn
                    have hn := gd_n hg
                    have h4 := hR.2.2.2.2.1
                    have hI2 := hR.1
                    have hI3 := hR.2.1
                    refine xe_pop dX5_takeLaw_212 rfl ?_
                    refine xe_iload_n dX5_takeLaw_213 rfl ?_
                    refine xn_if_eq (tgt := 230) dX5_takeLaw_214 rfl (by omega) (fun c8 => ?_) (fun c8 => ?_)
                    · omega
                    · refine xe_aload_n dX5_takeLaw_217 rfl ?_
                      refine xe_bipush dX5_takeLaw_218 kb_59 ?_
                      refine xe_callVIq (d' := 0) (y' := mX5_take) dX5_takeLaw_220 mlX5_63 mvX5_take rfl (st7 hs) (by decide) rfl (by omega) (by decide) (Nat.le_of_ble_eq_true rfl) (g_take22 l g _ hs hR hn 4 59 rfl (by decide) (by decide) (by decide) hc) rfl (fun g9 g9q => ?_)
                      have hR := gd_R (by decide : 22 = 10 ∨ 22 = 22) hR g9q
                      have hs := gd_s hs g9q
                      have hg := gd_tk hg g9q
                      have hn := gd_n hg
                      have h4 := hR.2.2.2.2.1
                      have hI2 := hR.1
                      have hI3 := hR.2.1
                      refine xn_if_eq (tgt := 230) dX5_takeLaw_223 rfl (by omega) (fun c10 => ?_) (fun c10 => ?_)
                      · omega
                      · refine xe_iconst dX5_takeLaw_226 kc_1 ?_
                        refine xe_goto (tgt := 231) dX5_takeLaw_227 rfl ?_
                        refine xe_ireturn dX5_takeLaw_231 rfl (by first | rfl | decide +kernel) ?_
                        have hZ := gs_gd hg
                        have hX := hgAhE.2.2.2.2.2.2.2.2.2
                        rw [List.nil_append] at hX
                        have e0 : n + ([] ++ x.1).length = n + x.1.length := by rw [List.nil_append]
                        have hS := hE.2.1
                        rw [e0] at hS
                        have hZ2 := hZ.2.2.2.2.2.2.2.2.2
                        refine ⟨rfl, n + x.1.length + 1, ?_, (by first | omega | (simp only [List.length_append, List.length_nil, List.length_cons]; omega)), ?_⟩
                        · have := gs_t (gs_t (gs_gd hgAhE) hE.1) hZ
                          simpa using this
                        · have kp1 := hE.1.2.2.2.2.2.2.2.2.2
                          rw [e0] at kp1 hZ2
                          show q_cd _ _ (n + x.1.length + 1) n [] x.1
                          exact ⟨q_sgC_co (fun i h1 h2 => ⟨((hZ2 i (by omega)).1).trans (kp1 i (by omega)).1, ((hZ2 i (by omega)).2).trans (kp1 i (by omega)).2⟩) hX, wfx, (hZ2 _ (by omega)).1.trans hS, by omega⟩
              · exact absurd (q_kap_inj (b := 28) hok (by decide) (by decide) c3) h28
  | succ k ih =>
    intro i h t n hs hR hn hnt hik
    have hg := gd_r hR hn
    have hn := gd_n hg
    have h4 := hR.2.2.2.2.1
    have hI2 := hR.1
    have hI3 := hR.2.1
    have h5 := hR.2.2.2.2.2
    have h4m := hR.2.2.1.1
    have htm := hR.2.2.2.1
    have hok := (hR.2.2.1.2.2 t htm).1
    rw [tx_ifs]
    by_cases h28 : tk_T K t = 28
    · rw [if_pos h28]
      have hk5 : q_I h 7 5 = nI 264 := h5.trans (by rw [h28]; rfl)
      cases kc1 : tx_ck (tk_T K) 28 t with
      | some er =>
        refine xe_iload dX5_takeLaw_30 rfl ?_
        refine xe_iconst dX5_takeLaw_32 kc_4 ?_
        refine xn_icmp_gt (tgt := 185) dX5_takeLaw_33 rfl (by omega) (by omega) (fun c1 => ?_) (fun c1 => ?_)
        · omega
        · refine xe_iload_n dX5_takeLaw_36 rfl ?_
          refine xn_if_eq (tgt := 185) dX5_takeLaw_37 rfl (by omega) (fun c2 => ?_) (fun c2 => ?_)
          · omega
          · refine xe_aload_n dX5_takeLaw_40 rfl ?_
            refine xe_getIv dX5_takeLaw_41 flX5_41 (st7 hs) (by decide) rfl (v := nI 264) (hk5) ?_
            refine xe_sipush dX5_takeLaw_44 ks_264 ?_
            refine xn_icmp_ne (tgt := 185) dX5_takeLaw_47 rfl (by omega) (by omega) (fun c3 => ?_) (fun c3 => ?_)
            · omega
            · refine xe_iload dX5_takeLaw_50 rfl ?_
              refine xe_iconst dX5_takeLaw_52 kc_4 ?_
              refine xn_icmp_ne (tgt := 62) dX5_takeLaw_53 rfl (by omega) (by omega) (fun c4 => ?_) (fun c4 => ?_)
              · refine xe_aload_n dX5_takeLaw_62 rfl ?_
                refine xe_sipush dX5_takeLaw_63 ks_264 ?_
                refine xe_callVIq (d' := 0) (y' := mX5_take) dX5_takeLaw_66 mlX5_63 mvX5_take rfl (st7 hs) (by decide) rfl (by omega) (by decide) (Nat.le_of_ble_eq_true rfl) (b_take22 l g _ hs hR hn (by first | omega | (simp only [List.length_append, List.length_nil, List.length_cons]; omega)) 28 264 rfl (by decide) (by decide) kc1) rfl (fun g5 g5q => ?_)
                have hs := bad_s hs g5q
                have hb := gd_bad hg (by first | omega | (simp only [List.length_append, List.length_nil, List.length_cons]; omega)) g5q
                obtain ⟨nb, hnb, hnb2⟩ := g5q.1.2.2
                have hI2 := em_P g5q.1 hI2
                have hI3 := em_P g5q.1 hI3
                refine xn_if_eq (tgt := 111) dX5_takeLaw_69 rfl (by omega) (fun c6 => ?_) (fun c6 => ?_)
                · refine xe_iconst dX5_takeLaw_111 kc_0 ?_
                  refine xe_istore_n (i := 3) dX5_takeLaw_112 rfl (by decide) rfl ?_
                  refine xe_aload_n dX5_takeLaw_113 rfl ?_
                  refine xe_getP dX5_takeLaw_114 flX5_26 (st7 hs) (by decide) rfl hI3 ?_
                  refine xe_iconst dX5_takeLaw_117 kc_3 ?_
                  refine xe_iconst dX5_takeLaw_118 kc_0 ?_
                  refine xe_callVIn (d' := 0) (y' := mX3_emit) dX5_takeLaw_119 mlX5_150 mvX3_emit rfl (st22 hs) (by decide) rfl (by omega) (by decide) (Nat.le_of_ble_eq_true rfl) (b_emit22 l g _ hs hnb hnb2 _ _) rfl (fun g7v g7 g7q => ?_)
                  obtain ⟨⟨g7j, rfl, g7jl⟩, g7r⟩ := g7q
                  have hs : q_Stat g7 := q_Stat_2 g7r.1.1 hs
                  have hb := bad_em hb g7r
                  obtain ⟨nb, hnb, hnb2⟩ := g7r.1.2.2
                  have hI2 := em_P g7r.1 hI2
                  have hI3 := em_P g7r.1 hI3
                  refine xe_istore dX5_takeLaw_122 (by decide) rfl ?_
                  refine xe_iload_n dX5_takeLaw_124 rfl ?_
                  refine xn_if_eq (tgt := 150) dX5_takeLaw_125 rfl (by omega) (fun c8 => ?_) (fun c8 => ?_)
                  · refine xe_iconst dX5_takeLaw_150 kc_0 ?_
                    refine xe_istore_n (i := 3) dX5_takeLaw_151 rfl (by decide) rfl ?_
                    refine xe_aload_n dX5_takeLaw_152 rfl ?_
                    refine xe_getP dX5_takeLaw_153 flX5_26 (st7 hs) (by decide) rfl hI3 ?_
                    refine xe_iconst dX5_takeLaw_156 kc_2 ?_
                    refine xe_iconst dX5_takeLaw_157 kc_0 ?_
                    refine xe_callVIn (d' := 0) (y' := mX3_emit) dX5_takeLaw_158 mlX5_150 mvX3_emit rfl (st22 hs) (by decide) rfl (by omega) (by decide) (Nat.le_of_ble_eq_true rfl) (b_emit22 l g _ hs hnb hnb2 _ _) rfl (fun g9v g9 g9q => ?_)
                    obtain ⟨⟨g9j, rfl, g9jl⟩, g9r⟩ := g9q
                    have hs : q_Stat g9 := q_Stat_2 g9r.1.1 hs
                    have hb := bad_em hb g9r
                    obtain ⟨nb, hnb, hnb2⟩ := g9r.1.2.2
                    have hI2 := em_P g9r.1 hI2
                    have hI3 := em_P g9r.1 hI3
                    refine xe_pop dX5_takeLaw_161 rfl ?_
                    refine xe_aload_n dX5_takeLaw_162 rfl ?_
                    refine xe_getP dX5_takeLaw_163 flX5_26 (st7 hs) (by decide) rfl hI3 ?_
                    refine xe_getP dX5_takeLaw_166 flX5_154 (st22 hs) (by decide) rfl (sp22_1 hs) ?_
                    refine xe_iload dX5_takeLaw_169 rfl ?_
                    refine xe_aload_n dX5_takeLaw_171 rfl ?_
                    refine xe_getP dX5_takeLaw_172 flX5_26 (st7 hs) (by decide) rfl hI3 ?_
                    refine xe_getIv dX5_takeLaw_175 flX5_144 (st22 hs) (by decide) rfl (v := nI nb) (hnb) ?_
                    refine xn_iast dX5_takeLaw_178 (st24 hs) (by first | omega | (simp only [List.length_append, List.length_nil, List.length_cons]; omega)) (by decide) ?_
                    refine xn_iinc dX5_takeLaw_179 rfl kc_1 ?_
                    refine xe_goto (tgt := 30) dX5_takeLaw_182 rfl ?_
                    refine xe_locals (L' := [(0, .ref 7), (1, .ref wc), (2, .int wx), (3, .int (nI 0)), (4, .int (nI (i + 1)))]) (And.intro rfl (And.intro rfl (And.intro rfl (And.intro rfl (And.intro rfl trivial))))) ?_
                    exact lo30_22 l g _ (by exact hs) (by decide) (by omega) (bad_w (by decide : 22 = 10 ∨ 22 = 22) hb) (by exact hI3) (fun _ q => ⟨rfl, q⟩)
                  · omega
                · omega
              · omega
      | none =>
        show q_Ex l g 22 mX5_takeLaw 30 _ _ h (q_lwA K m 22 n h (tx_r (tx_sum K 6 (t + 1)) _))
        cases u1 : tx_sum K 6 (t + 1) with
        | inl er =>
          refine xe_iload dX5_takeLaw_30 rfl ?_
          refine xe_iconst dX5_takeLaw_32 kc_4 ?_
          refine xn_icmp_gt (tgt := 185) dX5_takeLaw_33 rfl (by omega) (by omega) (fun c1 => ?_) (fun c1 => ?_)
          · omega
          · refine xe_iload_n dX5_takeLaw_36 rfl ?_
            refine xn_if_eq (tgt := 185) dX5_takeLaw_37 rfl (by omega) (fun c2 => ?_) (fun c2 => ?_)
            · omega
            · refine xe_aload_n dX5_takeLaw_40 rfl ?_
              refine xe_getIv dX5_takeLaw_41 flX5_41 (st7 hs) (by decide) rfl (v := nI 264) (hk5) ?_
              refine xe_sipush dX5_takeLaw_44 ks_264 ?_
              refine xn_icmp_ne (tgt := 185) dX5_takeLaw_47 rfl (by omega) (by omega) (fun c3 => ?_) (fun c3 => ?_)
              · omega
              · refine xe_iload dX5_takeLaw_50 rfl ?_
                refine xe_iconst dX5_takeLaw_52 kc_4 ?_
                refine xn_icmp_ne (tgt := 62) dX5_takeLaw_53 rfl (by omega) (by omega) (fun c4 => ?_) (fun c4 => ?_)
                · refine xe_aload_n dX5_takeLaw_62 rfl ?_
                  refine xe_sipush dX5_takeLaw_63 ks_264 ?_
                  refine xe_callVIq (d' := 0) (y' := mX5_take) dX5_takeLaw_66 mlX5_63 mvX5_take rfl (st7 hs) (by decide) rfl (by omega) (by decide) (Nat.le_of_ble_eq_true rfl) (g_take22 l g _ hs hR hn 28 264 rfl (by decide) (by decide) (by decide) kc1) rfl (fun g5 g5q => ?_)
                  have hR := gd_R (by decide : 22 = 10 ∨ 22 = 22) hR g5q
                  have hs := gd_s hs g5q
                  have hg := gd_tk hg g5q
                  have hn := gd_n hg
                  have h4 := hR.2.2.2.2.1
                  have hI2 := hR.1
                  have hI3 := hR.2.1
                  refine xn_if_eq (tgt := 111) dX5_takeLaw_69 rfl (by omega) (fun c6 => ?_) (fun c6 => ?_)
                  · omega
                  · refine xe_aload_n dX5_takeLaw_72 rfl ?_
                    refine xe_iconst dX5_takeLaw_73 kc_0 ?_
                    refine xe_callVIq (d' := 21) (y' := mX5_takeSum) dX5_takeLaw_74 mlX5_147 mvX5_takeSum rfl (st7 hs) (by decide) rfl (by omega) (by decide) (Nat.le_of_ble_eq_true rfl) ((show q_Ct l g 21 _ _ _ (fun r h1 => r = some (.int (nI 0)) ∧ q_bad K 22 _ er h1) from by have hC := xc_sum22 l g (K := K) (m := m) _ hs _ _ hR hn (by first | omega | (simp only [List.length_append, List.length_nil, List.length_cons]; omega)); rw [u1] at hC; exact hC)) rfl (fun g7 g7q => ?_)
                    have hs := bad_s hs g7q
                    have hb := gd_bad hg (by first | omega | (simp only [List.length_append, List.length_nil, List.length_cons]; omega)) g7q
                    obtain ⟨nb, hnb, hnb2⟩ := g7q.1.2.2
                    have hI2 := em_P g7q.1 hI2
                    have hI3 := em_P g7q.1 hI3
                    refine xn_if_eq (tgt := 111) dX5_takeLaw_77 rfl (by omega) (fun c8 => ?_) (fun c8 => ?_)
                    · refine xe_iconst dX5_takeLaw_111 kc_0 ?_
                      refine xe_istore_n (i := 3) dX5_takeLaw_112 rfl (by decide) rfl ?_
                      refine xe_aload_n dX5_takeLaw_113 rfl ?_
                      refine xe_getP dX5_takeLaw_114 flX5_26 (st7 hs) (by decide) rfl hI3 ?_
                      refine xe_iconst dX5_takeLaw_117 kc_3 ?_
                      refine xe_iconst dX5_takeLaw_118 kc_0 ?_
                      refine xe_callVIn (d' := 0) (y' := mX3_emit) dX5_takeLaw_119 mlX5_150 mvX3_emit rfl (st22 hs) (by decide) rfl (by omega) (by decide) (Nat.le_of_ble_eq_true rfl) (b_emit22 l g _ hs hnb hnb2 _ _) rfl (fun g9v g9 g9q => ?_)
                      obtain ⟨⟨g9j, rfl, g9jl⟩, g9r⟩ := g9q
                      have hs : q_Stat g9 := q_Stat_2 g9r.1.1 hs
                      have hb := bad_em hb g9r
                      obtain ⟨nb, hnb, hnb2⟩ := g9r.1.2.2
                      have hI2 := em_P g9r.1 hI2
                      have hI3 := em_P g9r.1 hI3
                      refine xe_istore dX5_takeLaw_122 (by decide) rfl ?_
                      refine xe_iload_n dX5_takeLaw_124 rfl ?_
                      refine xn_if_eq (tgt := 150) dX5_takeLaw_125 rfl (by omega) (fun c10 => ?_) (fun c10 => ?_)
                      · refine xe_iconst dX5_takeLaw_150 kc_0 ?_
                        refine xe_istore_n (i := 3) dX5_takeLaw_151 rfl (by decide) rfl ?_
                        refine xe_aload_n dX5_takeLaw_152 rfl ?_
                        refine xe_getP dX5_takeLaw_153 flX5_26 (st7 hs) (by decide) rfl hI3 ?_
                        refine xe_iconst dX5_takeLaw_156 kc_2 ?_
                        refine xe_iconst dX5_takeLaw_157 kc_0 ?_
                        refine xe_callVIn (d' := 0) (y' := mX3_emit) dX5_takeLaw_158 mlX5_150 mvX3_emit rfl (st22 hs) (by decide) rfl (by omega) (by decide) (Nat.le_of_ble_eq_true rfl) (b_emit22 l g _ hs hnb hnb2 _ _) rfl (fun g11v g11 g11q => ?_)
                        obtain ⟨⟨g11j, rfl, g11jl⟩, g11r⟩ := g11q
                        have hs : q_Stat g11 := q_Stat_2 g11r.1.1 hs
                        have hb := bad_em hb g11r
                        obtain ⟨nb, hnb, hnb2⟩ := g11r.1.2.2
                        have hI2 := em_P g11r.1 hI2
                        have hI3 := em_P g11r.1 hI3
                        refine xe_pop dX5_takeLaw_161 rfl ?_
                        refine xe_aload_n dX5_takeLaw_162 rfl ?_
                        refine xe_getP dX5_takeLaw_163 flX5_26 (st7 hs) (by decide) rfl hI3 ?_
                        refine xe_getP dX5_takeLaw_166 flX5_154 (st22 hs) (by decide) rfl (sp22_1 hs) ?_
                        refine xe_iload dX5_takeLaw_169 rfl ?_
                        refine xe_aload_n dX5_takeLaw_171 rfl ?_
                        refine xe_getP dX5_takeLaw_172 flX5_26 (st7 hs) (by decide) rfl hI3 ?_
                        refine xe_getIv dX5_takeLaw_175 flX5_144 (st22 hs) (by decide) rfl (v := nI nb) (hnb) ?_
                        refine xn_iast dX5_takeLaw_178 (st24 hs) (by first | omega | (simp only [List.length_append, List.length_nil, List.length_cons]; omega)) (by decide) ?_
                        refine xn_iinc dX5_takeLaw_179 rfl kc_1 ?_
                        refine xe_goto (tgt := 30) dX5_takeLaw_182 rfl ?_
                        refine xe_locals (L' := [(0, .ref 7), (1, .ref wc), (2, .int wx), (3, .int (nI 0)), (4, .int (nI (i + 1)))]) (And.intro rfl (And.intro rfl (And.intro rfl (And.intro rfl (And.intro rfl trivial))))) ?_
                        exact lo30_22 l g _ (by exact hs) (by decide) (by omega) (bad_w (by decide : 22 = 10 ∨ 22 = 22) hb) (by exact hI3) (fun _ q => ⟨rfl, q⟩)
                      · omega
                    · omega
                · omega
        | inr x =>
          obtain ⟨x1, x2, x3, x4, x5⟩ := tx_sum_ok K 6 _ _ u1
          have wfx := tx_sum_wf u1
          show q_Ex l g 22 mX5_takeLaw 30 _ _ h (q_lwA K m 22 n h (tx_b (tx_ck (tk_T K) 13 x.2) _))
          cases kc2 : tx_ck (tk_T K) 13 x.2 with
          | some er =>
            refine xe_iload dX5_takeLaw_30 rfl ?_
            refine xe_iconst dX5_takeLaw_32 kc_4 ?_
            refine xn_icmp_gt (tgt := 185) dX5_takeLaw_33 rfl (by omega) (by omega) (fun c1 => ?_) (fun c1 => ?_)
            · omega
            · refine xe_iload_n dX5_takeLaw_36 rfl ?_
              refine xn_if_eq (tgt := 185) dX5_takeLaw_37 rfl (by omega) (fun c2 => ?_) (fun c2 => ?_)
              · omega
              · refine xe_aload_n dX5_takeLaw_40 rfl ?_
                refine xe_getIv dX5_takeLaw_41 flX5_41 (st7 hs) (by decide) rfl (v := nI 264) (hk5) ?_
                refine xe_sipush dX5_takeLaw_44 ks_264 ?_
                refine xn_icmp_ne (tgt := 185) dX5_takeLaw_47 rfl (by omega) (by omega) (fun c3 => ?_) (fun c3 => ?_)
                · omega
                · refine xe_iload dX5_takeLaw_50 rfl ?_
                  refine xe_iconst dX5_takeLaw_52 kc_4 ?_
                  refine xn_icmp_ne (tgt := 62) dX5_takeLaw_53 rfl (by omega) (by omega) (fun c4 => ?_) (fun c4 => ?_)
                  · refine xe_aload_n dX5_takeLaw_62 rfl ?_
                    refine xe_sipush dX5_takeLaw_63 ks_264 ?_
                    refine xe_callVIq (d' := 0) (y' := mX5_take) dX5_takeLaw_66 mlX5_63 mvX5_take rfl (st7 hs) (by decide) rfl (by omega) (by decide) (Nat.le_of_ble_eq_true rfl) (g_take22 l g _ hs hR hn 28 264 rfl (by decide) (by decide) (by decide) kc1) rfl (fun g5 g5q => ?_)
                    have hR := gd_R (by decide : 22 = 10 ∨ 22 = 22) hR g5q
                    have hs := gd_s hs g5q
                    have hg := gd_tk hg g5q
                    have hn := gd_n hg
                    have h4 := hR.2.2.2.2.1
                    have hI2 := hR.1
                    have hI3 := hR.2.1
                    refine xn_if_eq (tgt := 111) dX5_takeLaw_69 rfl (by omega) (fun c6 => ?_) (fun c6 => ?_)
                    · omega
                    · refine xe_aload_n dX5_takeLaw_72 rfl ?_
                      refine xe_iconst dX5_takeLaw_73 kc_0 ?_
                      refine xe_callVIq (d' := 21) (y' := mX5_takeSum) dX5_takeLaw_74 mlX5_147 mvX5_takeSum rfl (st7 hs) (by decide) rfl (by omega) (by decide) (Nat.le_of_ble_eq_true rfl) ((show q_Ct l g 21 _ _ _ (fun r h1 => r = some (.int (nI 1)) ∧ q_gd K m 22 _ _ x h1) from by have hC := xc_sum22 l g (K := K) (m := m) _ hs _ _ hR hn (by first | omega | (simp only [List.length_append, List.length_nil, List.length_cons]; omega)); rw [u1] at hC; exact hC)) rfl (fun g7 g7q => ?_)
                      have hR := gd_R (by decide : 22 = 10 ∨ 22 = 22) hR g7q
                      have hs := gd_s hs g7q
                      have hg := gd_app hg g7q
                      have hn := gd_n hg
                      have h4 := hR.2.2.2.2.1
                      have hI2 := hR.1
                      have hI3 := hR.2.1
                      refine xn_if_eq (tgt := 111) dX5_takeLaw_77 rfl (by omega) (fun c8 => ?_) (fun c8 => ?_)
                      · omega
                      · refine xe_aload_n dX5_takeLaw_80 rfl ?_
                        refine xe_bipush dX5_takeLaw_81 kb_60 ?_
                        refine xe_callVIq (d' := 0) (y' := mX5_take) dX5_takeLaw_83 mlX5_63 mvX5_take rfl (st7 hs) (by decide) rfl (by omega) (by decide) (Nat.le_of_ble_eq_true rfl) (b_take22 l g _ hs hR hn (by first | omega | (simp only [List.length_append, List.length_nil, List.length_cons]; omega)) 13 60 rfl (by decide) (by decide) kc2) rfl (fun g9 g9q => ?_)
                        have hs := bad_s hs g9q
                        have hb := gd_bad hg (by first | omega | (simp only [List.length_append, List.length_nil, List.length_cons]; omega)) g9q
                        obtain ⟨nb, hnb, hnb2⟩ := g9q.1.2.2
                        have hI2 := em_P g9q.1 hI2
                        have hI3 := em_P g9q.1 hI3
                        refine xn_if_eq (tgt := 111) dX5_takeLaw_86 rfl (by omega) (fun c10 => ?_) (fun c10 => ?_)
                        · refine xe_iconst dX5_takeLaw_111 kc_0 ?_
                          refine xe_istore_n (i := 3) dX5_takeLaw_112 rfl (by decide) rfl ?_
                          refine xe_aload_n dX5_takeLaw_113 rfl ?_
                          refine xe_getP dX5_takeLaw_114 flX5_26 (st7 hs) (by decide) rfl hI3 ?_
                          refine xe_iconst dX5_takeLaw_117 kc_3 ?_
                          refine xe_iconst dX5_takeLaw_118 kc_0 ?_
                          refine xe_callVIn (d' := 0) (y' := mX3_emit) dX5_takeLaw_119 mlX5_150 mvX3_emit rfl (st22 hs) (by decide) rfl (by omega) (by decide) (Nat.le_of_ble_eq_true rfl) (b_emit22 l g _ hs hnb hnb2 _ _) rfl (fun g11v g11 g11q => ?_)
                          obtain ⟨⟨g11j, rfl, g11jl⟩, g11r⟩ := g11q
                          have hs : q_Stat g11 := q_Stat_2 g11r.1.1 hs
                          have hb := bad_em hb g11r
                          obtain ⟨nb, hnb, hnb2⟩ := g11r.1.2.2
                          have hI2 := em_P g11r.1 hI2
                          have hI3 := em_P g11r.1 hI3
                          refine xe_istore dX5_takeLaw_122 (by decide) rfl ?_
                          refine xe_iload_n dX5_takeLaw_124 rfl ?_
                          refine xn_if_eq (tgt := 150) dX5_takeLaw_125 rfl (by omega) (fun c12 => ?_) (fun c12 => ?_)
                          · refine xe_iconst dX5_takeLaw_150 kc_0 ?_
                            refine xe_istore_n (i := 3) dX5_takeLaw_151 rfl (by decide) rfl ?_
                            refine xe_aload_n dX5_takeLaw_152 rfl ?_
                            refine xe_getP dX5_takeLaw_153 flX5_26 (st7 hs) (by decide) rfl hI3 ?_
                            refine xe_iconst dX5_takeLaw_156 kc_2 ?_
                            refine xe_iconst dX5_takeLaw_157 kc_0 ?_
                            refine xe_callVIn (d' := 0) (y' := mX3_emit) dX5_takeLaw_158 mlX5_150 mvX3_emit rfl (st22 hs) (by decide) rfl (by omega) (by decide) (Nat.le_of_ble_eq_true rfl) (b_emit22 l g _ hs hnb hnb2 _ _) rfl (fun g13v g13 g13q => ?_)
                            obtain ⟨⟨g13j, rfl, g13jl⟩, g13r⟩ := g13q
                            have hs : q_Stat g13 := q_Stat_2 g13r.1.1 hs
                            have hb := bad_em hb g13r
                            obtain ⟨nb, hnb, hnb2⟩ := g13r.1.2.2
                            have hI2 := em_P g13r.1 hI2
                            have hI3 := em_P g13r.1 hI3
                            refine xe_pop dX5_takeLaw_161 rfl ?_
                            refine xe_aload_n dX5_takeLaw_162 rfl ?_
                            refine xe_getP dX5_takeLaw_163 flX5_26 (st7 hs) (by decide) rfl hI3 ?_
                            refine xe_getP dX5_takeLaw_166 flX5_154 (st22 hs) (by decide) rfl (sp22_1 hs) ?_
                            refine xe_iload dX5_takeLaw_169 rfl ?_
                            refine xe_aload_n dX5_takeLaw_171 rfl ?_
                            refine xe_getP dX5_takeLaw_172 flX5_26 (st7 hs) (by decide) rfl hI3 ?_
                            refine xe_getIv dX5_takeLaw_175 flX5_144 (st22 hs) (by decide) rfl (v := nI nb) (hnb) ?_
                            refine xn_iast dX5_takeLaw_178 (st24 hs) (by first | omega | (simp only [List.length_append, List.length_nil, List.length_cons]; omega)) (by decide) ?_
                            refine xn_iinc dX5_takeLaw_179 rfl kc_1 ?_
                            refine xe_goto (tgt := 30) dX5_takeLaw_182 rfl ?_
                            refine xe_locals (L' := [(0, .ref 7), (1, .ref wc), (2, .int wx), (3, .int (nI 0)), (4, .int (nI (i + 1)))]) (And.intro rfl (And.intro rfl (And.intro rfl (And.intro rfl (And.intro rfl trivial))))) ?_
                            exact lo30_22 l g _ (by exact hs) (by decide) (by omega) (bad_w (by decide : 22 = 10 ∨ 22 = 22) hb) (by exact hI3) (fun _ q => ⟨rfl, q⟩)
                          · omega
                        · omega
                  · omega
          | none =>
            show q_Ex l g 22 mX5_takeLaw 30 _ _ h (q_lwA K m 22 n h (tx_r (tx_sum K 6 (x.2 + 1)) _))
            cases u2 : tx_sum K 6 (x.2 + 1) with
            | inl er =>
              refine xe_iload dX5_takeLaw_30 rfl ?_
              refine xe_iconst dX5_takeLaw_32 kc_4 ?_
              refine xn_icmp_gt (tgt := 185) dX5_takeLaw_33 rfl (by omega) (by omega) (fun c1 => ?_) (fun c1 => ?_)
              · omega
              · refine xe_iload_n dX5_takeLaw_36 rfl ?_
                refine xn_if_eq (tgt := 185) dX5_takeLaw_37 rfl (by omega) (fun c2 => ?_) (fun c2 => ?_)
                · omega
                · refine xe_aload_n dX5_takeLaw_40 rfl ?_
                  refine xe_getIv dX5_takeLaw_41 flX5_41 (st7 hs) (by decide) rfl (v := nI 264) (hk5) ?_
                  refine xe_sipush dX5_takeLaw_44 ks_264 ?_
                  refine xn_icmp_ne (tgt := 185) dX5_takeLaw_47 rfl (by omega) (by omega) (fun c3 => ?_) (fun c3 => ?_)
                  · omega
                  · refine xe_iload dX5_takeLaw_50 rfl ?_
                    refine xe_iconst dX5_takeLaw_52 kc_4 ?_
                    refine xn_icmp_ne (tgt := 62) dX5_takeLaw_53 rfl (by omega) (by omega) (fun c4 => ?_) (fun c4 => ?_)
                    · refine xe_aload_n dX5_takeLaw_62 rfl ?_
                      refine xe_sipush dX5_takeLaw_63 ks_264 ?_
                      refine xe_callVIq (d' := 0) (y' := mX5_take) dX5_takeLaw_66 mlX5_63 mvX5_take rfl (st7 hs) (by decide) rfl (by omega) (by decide) (Nat.le_of_ble_eq_true rfl) (g_take22 l g _ hs hR hn 28 264 rfl (by decide) (by decide) (by decide) kc1) rfl (fun g5 g5q => ?_)
                      have hR := gd_R (by decide : 22 = 10 ∨ 22 = 22) hR g5q
                      have hs := gd_s hs g5q
                      have hg := gd_tk hg g5q
                      have hn := gd_n hg
                      have h4 := hR.2.2.2.2.1
                      have hI2 := hR.1
                      have hI3 := hR.2.1
                      refine xn_if_eq (tgt := 111) dX5_takeLaw_69 rfl (by omega) (fun c6 => ?_) (fun c6 => ?_)
                      · omega
                      · refine xe_aload_n dX5_takeLaw_72 rfl ?_
                        refine xe_iconst dX5_takeLaw_73 kc_0 ?_
                        refine xe_callVIq (d' := 21) (y' := mX5_takeSum) dX5_takeLaw_74 mlX5_147 mvX5_takeSum rfl (st7 hs) (by decide) rfl (by omega) (by decide) (Nat.le_of_ble_eq_true rfl) ((show q_Ct l g 21 _ _ _ (fun r h1 => r = some (.int (nI 1)) ∧ q_gd K m 22 _ _ x h1) from by have hC := xc_sum22 l g (K := K) (m := m) _ hs _ _ hR hn (by first | omega | (simp only [List.length_append, List.length_nil, List.length_cons]; omega)); rw [u1] at hC; exact hC)) rfl (fun g7 g7q => ?_)
                        have hR := gd_R (by decide : 22 = 10 ∨ 22 = 22) hR g7q
                        have hs := gd_s hs g7q
                        have hg := gd_app hg g7q
                        have hn := gd_n hg
                        have h4 := hR.2.2.2.2.1
                        have hI2 := hR.1
                        have hI3 := hR.2.1
                        refine xn_if_eq (tgt := 111) dX5_takeLaw_77 rfl (by omega) (fun c8 => ?_) (fun c8 => ?_)
                        · omega
                        · refine xe_aload_n dX5_takeLaw_80 rfl ?_
                          refine xe_bipush dX5_takeLaw_81 kb_60 ?_
                          refine xe_callVIq (d' := 0) (y' := mX5_take) dX5_takeLaw_83 mlX5_63 mvX5_take rfl (st7 hs) (by decide) rfl (by omega) (by decide) (Nat.le_of_ble_eq_true rfl) (g_take22 l g _ hs hR hn 13 60 rfl (by decide) (by decide) (by decide) kc2) rfl (fun g9 g9q => ?_)
                          have hR := gd_R (by decide : 22 = 10 ∨ 22 = 22) hR g9q
                          have hs := gd_s hs g9q
                          have hg := gd_tk hg g9q
                          have hn := gd_n hg
                          have h4 := hR.2.2.2.2.1
                          have hI2 := hR.1
                          have hI3 := hR.2.1
                          refine xn_if_eq (tgt := 111) dX5_takeLaw_86 rfl (by omega) (fun c10 => ?_) (fun c10 => ?_)
                          · omega
                          · refine xe_aload_n dX5_takeLaw_89 rfl ?_
                            refine xe_iconst dX5_takeLaw_90 kc_0 ?_
                            refine xe_callVIq (d' := 21) (y' := mX5_takeSum) dX5_takeLaw_91 mlX5_147 mvX5_takeSum rfl (st7 hs) (by decide) rfl (by omega) (by decide) (Nat.le_of_ble_eq_true rfl) ((show q_Ct l g 21 _ _ _ (fun r h1 => r = some (.int (nI 0)) ∧ q_bad K 22 _ er h1) from by have hC := xc_sum22 l g (K := K) (m := m) _ hs _ _ hR hn (by first | omega | (simp only [List.length_append, List.length_nil, List.length_cons]; omega)); rw [u2] at hC; exact hC)) rfl (fun g11 g11q => ?_)
                            have hs := bad_s hs g11q
                            have hb := gd_bad hg (by first | omega | (simp only [List.length_append, List.length_nil, List.length_cons]; omega)) g11q
                            obtain ⟨nb, hnb, hnb2⟩ := g11q.1.2.2
                            have hI2 := em_P g11q.1 hI2
                            have hI3 := em_P g11q.1 hI3
                            refine xn_if_eq (tgt := 111) dX5_takeLaw_94 rfl (by omega) (fun c12 => ?_) (fun c12 => ?_)
                            · refine xe_iconst dX5_takeLaw_111 kc_0 ?_
                              refine xe_istore_n (i := 3) dX5_takeLaw_112 rfl (by decide) rfl ?_
                              refine xe_aload_n dX5_takeLaw_113 rfl ?_
                              refine xe_getP dX5_takeLaw_114 flX5_26 (st7 hs) (by decide) rfl hI3 ?_
                              refine xe_iconst dX5_takeLaw_117 kc_3 ?_
                              refine xe_iconst dX5_takeLaw_118 kc_0 ?_
                              refine xe_callVIn (d' := 0) (y' := mX3_emit) dX5_takeLaw_119 mlX5_150 mvX3_emit rfl (st22 hs) (by decide) rfl (by omega) (by decide) (Nat.le_of_ble_eq_true rfl) (b_emit22 l g _ hs hnb hnb2 _ _) rfl (fun g13v g13 g13q => ?_)
                              obtain ⟨⟨g13j, rfl, g13jl⟩, g13r⟩ := g13q
                              have hs : q_Stat g13 := q_Stat_2 g13r.1.1 hs
                              have hb := bad_em hb g13r
                              obtain ⟨nb, hnb, hnb2⟩ := g13r.1.2.2
                              have hI2 := em_P g13r.1 hI2
                              have hI3 := em_P g13r.1 hI3
                              refine xe_istore dX5_takeLaw_122 (by decide) rfl ?_
                              refine xe_iload_n dX5_takeLaw_124 rfl ?_
                              refine xn_if_eq (tgt := 150) dX5_takeLaw_125 rfl (by omega) (fun c14 => ?_) (fun c14 => ?_)
                              · refine xe_iconst dX5_takeLaw_150 kc_0 ?_
                                refine xe_istore_n (i := 3) dX5_takeLaw_151 rfl (by decide) rfl ?_
                                refine xe_aload_n dX5_takeLaw_152 rfl ?_
                                refine xe_getP dX5_takeLaw_153 flX5_26 (st7 hs) (by decide) rfl hI3 ?_
                                refine xe_iconst dX5_takeLaw_156 kc_2 ?_
                                refine xe_iconst dX5_takeLaw_157 kc_0 ?_
                                refine xe_callVIn (d' := 0) (y' := mX3_emit) dX5_takeLaw_158 mlX5_150 mvX3_emit rfl (st22 hs) (by decide) rfl (by omega) (by decide) (Nat.le_of_ble_eq_true rfl) (b_emit22 l g _ hs hnb hnb2 _ _) rfl (fun g15v g15 g15q => ?_)
                                obtain ⟨⟨g15j, rfl, g15jl⟩, g15r⟩ := g15q
                                have hs : q_Stat g15 := q_Stat_2 g15r.1.1 hs
                                have hb := bad_em hb g15r
                                obtain ⟨nb, hnb, hnb2⟩ := g15r.1.2.2
                                have hI2 := em_P g15r.1 hI2
                                have hI3 := em_P g15r.1 hI3
                                refine xe_pop dX5_takeLaw_161 rfl ?_
                                refine xe_aload_n dX5_takeLaw_162 rfl ?_
                                refine xe_getP dX5_takeLaw_163 flX5_26 (st7 hs) (by decide) rfl hI3 ?_
                                refine xe_getP dX5_takeLaw_166 flX5_154 (st22 hs) (by decide) rfl (sp22_1 hs) ?_
                                refine xe_iload dX5_takeLaw_169 rfl ?_
                                refine xe_aload_n dX5_takeLaw_171 rfl ?_
                                refine xe_getP dX5_takeLaw_172 flX5_26 (st7 hs) (by decide) rfl hI3 ?_
                                refine xe_getIv dX5_takeLaw_175 flX5_144 (st22 hs) (by decide) rfl (v := nI nb) (hnb) ?_
                                refine xn_iast dX5_takeLaw_178 (st24 hs) (by first | omega | (simp only [List.length_append, List.length_nil, List.length_cons]; omega)) (by decide) ?_
                                refine xn_iinc dX5_takeLaw_179 rfl kc_1 ?_
                                refine xe_goto (tgt := 30) dX5_takeLaw_182 rfl ?_
                                refine xe_locals (L' := [(0, .ref 7), (1, .ref wc), (2, .int wx), (3, .int (nI 0)), (4, .int (nI (i + 1)))]) (And.intro rfl (And.intro rfl (And.intro rfl (And.intro rfl (And.intro rfl trivial))))) ?_
                                exact lo30_22 l g _ (by exact hs) (by decide) (by omega) (bad_w (by decide : 22 = 10 ∨ 22 = 22) hb) (by exact hI3) (fun _ q => ⟨rfl, q⟩)
                              · omega
                            · omega
                    · omega
            | inr y =>
              obtain ⟨y1, y2, y3, y4, y5⟩ := tx_sum_ok K 6 _ _ u2
              have wfy := tx_sum_wf u2
              show q_Ex l g 22 mX5_takeLaw 30 _ _ h (q_lwA K m 22 n h (tx_b (tx_ck (tk_T K) 29 y.2) _))
              cases kc3 : tx_ck (tk_T K) 29 y.2 with
              | some er =>
                refine xe_iload dX5_takeLaw_30 rfl ?_
                refine xe_iconst dX5_takeLaw_32 kc_4 ?_
                refine xn_icmp_gt (tgt := 185) dX5_takeLaw_33 rfl (by omega) (by omega) (fun c1 => ?_) (fun c1 => ?_)
                · omega
                · refine xe_iload_n dX5_takeLaw_36 rfl ?_
                  refine xn_if_eq (tgt := 185) dX5_takeLaw_37 rfl (by omega) (fun c2 => ?_) (fun c2 => ?_)
                  · omega
                  · refine xe_aload_n dX5_takeLaw_40 rfl ?_
                    refine xe_getIv dX5_takeLaw_41 flX5_41 (st7 hs) (by decide) rfl (v := nI 264) (hk5) ?_
                    refine xe_sipush dX5_takeLaw_44 ks_264 ?_
                    refine xn_icmp_ne (tgt := 185) dX5_takeLaw_47 rfl (by omega) (by omega) (fun c3 => ?_) (fun c3 => ?_)
                    · omega
                    · refine xe_iload dX5_takeLaw_50 rfl ?_
                      refine xe_iconst dX5_takeLaw_52 kc_4 ?_
                      refine xn_icmp_ne (tgt := 62) dX5_takeLaw_53 rfl (by omega) (by omega) (fun c4 => ?_) (fun c4 => ?_)
                      · refine xe_aload_n dX5_takeLaw_62 rfl ?_
                        refine xe_sipush dX5_takeLaw_63 ks_264 ?_
                        refine xe_callVIq (d' := 0) (y' := mX5_take) dX5_takeLaw_66 mlX5_63 mvX5_take rfl (st7 hs) (by decide) rfl (by omega) (by decide) (Nat.le_of_ble_eq_true rfl) (g_take22 l g _ hs hR hn 28 264 rfl (by decide) (by decide) (by decide) kc1) rfl (fun g5 g5q => ?_)
                        have hR := gd_R (by decide : 22 = 10 ∨ 22 = 22) hR g5q
                        have hs := gd_s hs g5q
                        have hg := gd_tk hg g5q
                        have hn := gd_n hg
                        have h4 := hR.2.2.2.2.1
                        have hI2 := hR.1
                        have hI3 := hR.2.1
                        refine xn_if_eq (tgt := 111) dX5_takeLaw_69 rfl (by omega) (fun c6 => ?_) (fun c6 => ?_)
                        · omega
                        · refine xe_aload_n dX5_takeLaw_72 rfl ?_
                          refine xe_iconst dX5_takeLaw_73 kc_0 ?_
                          refine xe_callVIq (d' := 21) (y' := mX5_takeSum) dX5_takeLaw_74 mlX5_147 mvX5_takeSum rfl (st7 hs) (by decide) rfl (by omega) (by decide) (Nat.le_of_ble_eq_true rfl) ((show q_Ct l g 21 _ _ _ (fun r h1 => r = some (.int (nI 1)) ∧ q_gd K m 22 _ _ x h1) from by have hC := xc_sum22 l g (K := K) (m := m) _ hs _ _ hR hn (by first | omega | (simp only [List.length_append, List.length_nil, List.length_cons]; omega)); rw [u1] at hC; exact hC)) rfl (fun g7 g7q => ?_)
                          have hR := gd_R (by decide : 22 = 10 ∨ 22 = 22) hR g7q
                          have hs := gd_s hs g7q
                          have hg := gd_app hg g7q
                          have hn := gd_n hg
                          have h4 := hR.2.2.2.2.1
                          have hI2 := hR.1
                          have hI3 := hR.2.1
                          refine xn_if_eq (tgt := 111) dX5_takeLaw_77 rfl (by omega) (fun c8 => ?_) (fun c8 => ?_)
                          · omega
                          · refine xe_aload_n dX5_takeLaw_80 rfl ?_
                            refine xe_bipush dX5_takeLaw_81 kb_60 ?_
                            refine xe_callVIq (d' := 0) (y' := mX5_take) dX5_takeLaw_83 mlX5_63 mvX5_take rfl (st7 hs) (by decide) rfl (by omega) (by decide) (Nat.le_of_ble_eq_true rfl) (g_take22 l g _ hs hR hn 13 60 rfl (by decide) (by decide) (by decide) kc2) rfl (fun g9 g9q => ?_)
                            have hR := gd_R (by decide : 22 = 10 ∨ 22 = 22) hR g9q
                            have hs := gd_s hs g9q
                            have hg := gd_tk hg g9q
                            have hn := gd_n hg
                            have h4 := hR.2.2.2.2.1
                            have hI2 := hR.1
                            have hI3 := hR.2.1
                            refine xn_if_eq (tgt := 111) dX5_takeLaw_86 rfl (by omega) (fun c10 => ?_) (fun c10 => ?_)
                            · omega
                            · refine xe_aload_n dX5_takeLaw_89 rfl ?_
                              refine xe_iconst dX5_takeLaw_90 kc_0 ?_
                              refine xe_callVIq (d' := 21) (y' := mX5_takeSum) dX5_takeLaw_91 mlX5_147 mvX5_takeSum rfl (st7 hs) (by decide) rfl (by omega) (by decide) (Nat.le_of_ble_eq_true rfl) ((show q_Ct l g 21 _ _ _ (fun r h1 => r = some (.int (nI 1)) ∧ q_gd K m 22 _ _ y h1) from by have hC := xc_sum22 l g (K := K) (m := m) _ hs _ _ hR hn (by first | omega | (simp only [List.length_append, List.length_nil, List.length_cons]; omega)); rw [u2] at hC; exact hC)) rfl (fun g11 g11q => ?_)
                              have hR := gd_R (by decide : 22 = 10 ∨ 22 = 22) hR g11q
                              have hs := gd_s hs g11q
                              have hg := gd_app hg g11q
                              have hn := gd_n hg
                              have h4 := hR.2.2.2.2.1
                              have hI2 := hR.1
                              have hI3 := hR.2.1
                              refine xn_if_eq (tgt := 111) dX5_takeLaw_94 rfl (by omega) (fun c12 => ?_) (fun c12 => ?_)
                              · omega
                              · refine xe_aload_n dX5_takeLaw_97 rfl ?_
                                refine xe_sipush dX5_takeLaw_98 ks_265 ?_
                                refine xe_callVIq (d' := 0) (y' := mX5_take) dX5_takeLaw_101 mlX5_63 mvX5_take rfl (st7 hs) (by decide) rfl (by omega) (by decide) (Nat.le_of_ble_eq_true rfl) (b_take22 l g _ hs hR hn (by first | omega | (simp only [List.length_append, List.length_nil, List.length_cons]; omega)) 29 265 rfl (by decide) (by decide) kc3) rfl (fun g13 g13q => ?_)
                                have hs := bad_s hs g13q
                                have hb := gd_bad hg (by first | omega | (simp only [List.length_append, List.length_nil, List.length_cons]; omega)) g13q
                                obtain ⟨nb, hnb, hnb2⟩ := g13q.1.2.2
                                have hI2 := em_P g13q.1 hI2
                                have hI3 := em_P g13q.1 hI3
                                refine xn_if_eq (tgt := 111) dX5_takeLaw_104 rfl (by omega) (fun c14 => ?_) (fun c14 => ?_)
                                · refine xe_iconst dX5_takeLaw_111 kc_0 ?_
                                  refine xe_istore_n (i := 3) dX5_takeLaw_112 rfl (by decide) rfl ?_
                                  refine xe_aload_n dX5_takeLaw_113 rfl ?_
                                  refine xe_getP dX5_takeLaw_114 flX5_26 (st7 hs) (by decide) rfl hI3 ?_
                                  refine xe_iconst dX5_takeLaw_117 kc_3 ?_
                                  refine xe_iconst dX5_takeLaw_118 kc_0 ?_
                                  refine xe_callVIn (d' := 0) (y' := mX3_emit) dX5_takeLaw_119 mlX5_150 mvX3_emit rfl (st22 hs) (by decide) rfl (by omega) (by decide) (Nat.le_of_ble_eq_true rfl) (b_emit22 l g _ hs hnb hnb2 _ _) rfl (fun g15v g15 g15q => ?_)
                                  obtain ⟨⟨g15j, rfl, g15jl⟩, g15r⟩ := g15q
                                  have hs : q_Stat g15 := q_Stat_2 g15r.1.1 hs
                                  have hb := bad_em hb g15r
                                  obtain ⟨nb, hnb, hnb2⟩ := g15r.1.2.2
                                  have hI2 := em_P g15r.1 hI2
                                  have hI3 := em_P g15r.1 hI3
                                  refine xe_istore dX5_takeLaw_122 (by decide) rfl ?_
                                  refine xe_iload_n dX5_takeLaw_124 rfl ?_
                                  refine xn_if_eq (tgt := 150) dX5_takeLaw_125 rfl (by omega) (fun c16 => ?_) (fun c16 => ?_)
                                  · refine xe_iconst dX5_takeLaw_150 kc_0 ?_
                                    refine xe_istore_n (i := 3) dX5_takeLaw_151 rfl (by decide) rfl ?_
                                    refine xe_aload_n dX5_takeLaw_152 rfl ?_
                                    refine xe_getP dX5_takeLaw_153 flX5_26 (st7 hs) (by decide) rfl hI3 ?_
                                    refine xe_iconst dX5_takeLaw_156 kc_2 ?_
                                    refine xe_iconst dX5_takeLaw_157 kc_0 ?_
                                    refine xe_callVIn (d' := 0) (y' := mX3_emit) dX5_takeLaw_158 mlX5_150 mvX3_emit rfl (st22 hs) (by decide) rfl (by omega) (by decide) (Nat.le_of_ble_eq_true rfl) (b_emit22 l g _ hs hnb hnb2 _ _) rfl (fun g17v g17 g17q => ?_)
                                    obtain ⟨⟨g17j, rfl, g17jl⟩, g17r⟩ := g17q
                                    have hs : q_Stat g17 := q_Stat_2 g17r.1.1 hs
                                    have hb := bad_em hb g17r
                                    obtain ⟨nb, hnb, hnb2⟩ := g17r.1.2.2
                                    have hI2 := em_P g17r.1 hI2
                                    have hI3 := em_P g17r.1 hI3
                                    refine xe_pop dX5_takeLaw_161 rfl ?_
                                    refine xe_aload_n dX5_takeLaw_162 rfl ?_
                                    refine xe_getP dX5_takeLaw_163 flX5_26 (st7 hs) (by decide) rfl hI3 ?_
                                    refine xe_getP dX5_takeLaw_166 flX5_154 (st22 hs) (by decide) rfl (sp22_1 hs) ?_
                                    refine xe_iload dX5_takeLaw_169 rfl ?_
                                    refine xe_aload_n dX5_takeLaw_171 rfl ?_
                                    refine xe_getP dX5_takeLaw_172 flX5_26 (st7 hs) (by decide) rfl hI3 ?_
                                    refine xe_getIv dX5_takeLaw_175 flX5_144 (st22 hs) (by decide) rfl (v := nI nb) (hnb) ?_
                                    refine xn_iast dX5_takeLaw_178 (st24 hs) (by first | omega | (simp only [List.length_append, List.length_nil, List.length_cons]; omega)) (by decide) ?_
                                    refine xn_iinc dX5_takeLaw_179 rfl kc_1 ?_
                                    refine xe_goto (tgt := 30) dX5_takeLaw_182 rfl ?_
                                    refine xe_locals (L' := [(0, .ref 7), (1, .ref wc), (2, .int wx), (3, .int (nI 0)), (4, .int (nI (i + 1)))]) (And.intro rfl (And.intro rfl (And.intro rfl (And.intro rfl (And.intro rfl trivial))))) ?_
                                    exact lo30_22 l g _ (by exact hs) (by decide) (by omega) (bad_w (by decide : 22 = 10 ∨ 22 = 22) hb) (by exact hI3) (fun _ q => ⟨rfl, q⟩)
                                  · omega
                                · omega
                      · omega
              | none =>
                show q_Ex l g 22 mX5_takeLaw 30 _ _ h (q_lwA K m 22 n h (tx_r (tx_sum K 6 (y.2 + 1)) _))
                cases u3 : tx_sum K 6 (y.2 + 1) with
                | inl er =>
                  refine xe_iload dX5_takeLaw_30 rfl ?_
                  refine xe_iconst dX5_takeLaw_32 kc_4 ?_
                  refine xn_icmp_gt (tgt := 185) dX5_takeLaw_33 rfl (by omega) (by omega) (fun c1 => ?_) (fun c1 => ?_)
                  · omega
                  · refine xe_iload_n dX5_takeLaw_36 rfl ?_
                    refine xn_if_eq (tgt := 185) dX5_takeLaw_37 rfl (by omega) (fun c2 => ?_) (fun c2 => ?_)
                    · omega
                    · refine xe_aload_n dX5_takeLaw_40 rfl ?_
                      refine xe_getIv dX5_takeLaw_41 flX5_41 (st7 hs) (by decide) rfl (v := nI 264) (hk5) ?_
                      refine xe_sipush dX5_takeLaw_44 ks_264 ?_
                      refine xn_icmp_ne (tgt := 185) dX5_takeLaw_47 rfl (by omega) (by omega) (fun c3 => ?_) (fun c3 => ?_)
                      · omega
                      · refine xe_iload dX5_takeLaw_50 rfl ?_
                        refine xe_iconst dX5_takeLaw_52 kc_4 ?_
                        refine xn_icmp_ne (tgt := 62) dX5_takeLaw_53 rfl (by omega) (by omega) (fun c4 => ?_) (fun c4 => ?_)
                        · refine xe_aload_n dX5_takeLaw_62 rfl ?_
                          refine xe_sipush dX5_takeLaw_63 ks_264 ?_
                          refine xe_callVIq (d' := 0) (y' := mX5_take) dX5_takeLaw_66 mlX5_63 mvX5_take rfl (st7 hs) (by decide) rfl (by omega) (by decide) (Nat.le_of_ble_eq_true rfl) (g_take22 l g _ hs hR hn 28 264 rfl (by decide) (by decide) (by decide) kc1) rfl (fun g5 g5q => ?_)
                          have hR := gd_R (by decide : 22 = 10 ∨ 22 = 22) hR g5q
                          have hs := gd_s hs g5q
                          have hg := gd_tk hg g5q
                          have hn := gd_n hg
                          have h4 := hR.2.2.2.2.1
                          have hI2 := hR.1
                          have hI3 := hR.2.1
                          refine xn_if_eq (tgt := 111) dX5_takeLaw_69 rfl (by omega) (fun c6 => ?_) (fun c6 => ?_)
                          · omega
                          · refine xe_aload_n dX5_takeLaw_72 rfl ?_
                            refine xe_iconst dX5_takeLaw_73 kc_0 ?_
                            refine xe_callVIq (d' := 21) (y' := mX5_takeSum) dX5_takeLaw_74 mlX5_147 mvX5_takeSum rfl (st7 hs) (by decide) rfl (by omega) (by decide) (Nat.le_of_ble_eq_true rfl) ((show q_Ct l g 21 _ _ _ (fun r h1 => r = some (.int (nI 1)) ∧ q_gd K m 22 _ _ x h1) from by have hC := xc_sum22 l g (K := K) (m := m) _ hs _ _ hR hn (by first | omega | (simp only [List.length_append, List.length_nil, List.length_cons]; omega)); rw [u1] at hC; exact hC)) rfl (fun g7 g7q => ?_)
                            have hR := gd_R (by decide : 22 = 10 ∨ 22 = 22) hR g7q
                            have hs := gd_s hs g7q
                            have hg := gd_app hg g7q
                            have hn := gd_n hg
                            have h4 := hR.2.2.2.2.1
                            have hI2 := hR.1
                            have hI3 := hR.2.1
                            refine xn_if_eq (tgt := 111) dX5_takeLaw_77 rfl (by omega) (fun c8 => ?_) (fun c8 => ?_)
                            · omega
                            · refine xe_aload_n dX5_takeLaw_80 rfl ?_
                              refine xe_bipush dX5_takeLaw_81 kb_60 ?_
                              refine xe_callVIq (d' := 0) (y' := mX5_take) dX5_takeLaw_83 mlX5_63 mvX5_take rfl (st7 hs) (by decide) rfl (by omega) (by decide) (Nat.le_of_ble_eq_true rfl) (g_take22 l g _ hs hR hn 13 60 rfl (by decide) (by decide) (by decide) kc2) rfl (fun g9 g9q => ?_)
                              have hR := gd_R (by decide : 22 = 10 ∨ 22 = 22) hR g9q
                              have hs := gd_s hs g9q
                              have hg := gd_tk hg g9q
                              have hn := gd_n hg
                              have h4 := hR.2.2.2.2.1
                              have hI2 := hR.1
                              have hI3 := hR.2.1
                              refine xn_if_eq (tgt := 111) dX5_takeLaw_86 rfl (by omega) (fun c10 => ?_) (fun c10 => ?_)
                              · omega
                              · refine xe_aload_n dX5_takeLaw_89 rfl ?_
                                refine xe_iconst dX5_takeLaw_90 kc_0 ?_
                                refine xe_callVIq (d' := 21) (y' := mX5_takeSum) dX5_takeLaw_91 mlX5_147 mvX5_takeSum rfl (st7 hs) (by decide) rfl (by omega) (by decide) (Nat.le_of_ble_eq_true rfl) ((show q_Ct l g 21 _ _ _ (fun r h1 => r = some (.int (nI 1)) ∧ q_gd K m 22 _ _ y h1) from by have hC := xc_sum22 l g (K := K) (m := m) _ hs _ _ hR hn (by first | omega | (simp only [List.length_append, List.length_nil, List.length_cons]; omega)); rw [u2] at hC; exact hC)) rfl (fun g11 g11q => ?_)
                                have hR := gd_R (by decide : 22 = 10 ∨ 22 = 22) hR g11q
                                have hs := gd_s hs g11q
                                have hg := gd_app hg g11q
                                have hn := gd_n hg
                                have h4 := hR.2.2.2.2.1
                                have hI2 := hR.1
                                have hI3 := hR.2.1
                                refine xn_if_eq (tgt := 111) dX5_takeLaw_94 rfl (by omega) (fun c12 => ?_) (fun c12 => ?_)
                                · omega
                                · refine xe_aload_n dX5_takeLaw_97 rfl ?_
                                  refine xe_sipush dX5_takeLaw_98 ks_265 ?_
                                  refine xe_callVIq (d' := 0) (y' := mX5_take) dX5_takeLaw_101 mlX5_63 mvX5_take rfl (st7 hs) (by decide) rfl (by omega) (by decide) (Nat.le_of_ble_eq_true rfl) (g_take22 l g _ hs hR hn 29 265 rfl (by decide) (by decide) (by decide) kc3) rfl (fun g13 g13q => ?_)
                                  have hR := gd_R (by decide : 22 = 10 ∨ 22 = 22) hR g13q
                                  have hs := gd_s hs g13q
                                  have hg := gd_tk hg g13q
                                  have hn := gd_n hg
                                  have h4 := hR.2.2.2.2.1
                                  have hI2 := hR.1
                                  have hI3 := hR.2.1
                                  refine xn_if_eq (tgt := 111) dX5_takeLaw_104 rfl (by omega) (fun c14 => ?_) (fun c14 => ?_)
                                  · omega
                                  · refine xe_iconst dX5_takeLaw_107 kc_1 ?_
                                    refine xe_goto (tgt := 112) dX5_takeLaw_108 rfl ?_
                                    refine xe_istore_n (i := 3) dX5_takeLaw_112 rfl (by decide) rfl ?_
                                    refine xe_aload_n dX5_takeLaw_113 rfl ?_
                                    refine xe_getP dX5_takeLaw_114 flX5_26 (st7 hs) (by decide) rfl hI3 ?_
                                    refine xe_iconst dX5_takeLaw_117 kc_3 ?_
                                    refine xe_iconst dX5_takeLaw_118 kc_0 ?_
                                    refine xe_callVIq (d' := 0) (y' := mX3_emit) dX5_takeLaw_119 mlX5_150 mvX3_emit rfl (st22 hs) (by decide) rfl (by omega) (by decide) (Nat.le_of_ble_eq_true rfl) (g_emx22 l g _ hs hR hn (by first | omega | (simp only [List.length_append, List.length_nil, List.length_cons]; omega)) (nI 3) _) rfl (fun g15 g15q => ?_)
                                    have hU := g15q
                                    have hgAhU := hg
                                    have hR := gs_R (by decide : 22 = 10 ∨ 22 = 22) hR g15q.1
                                    have hs := gs_s hs g15q.1
                                    have hn := gs_n g15q.1
                                    have hg := gd_r hR hn
                                    have hn := gd_n hg
                                    have h4 := hR.2.2.2.2.1
                                    have hI2 := hR.1
                                    have hI3 := hR.2.1
                                    refine xe_istore dX5_takeLaw_122 (by decide) rfl ?_
                                    refine xe_iload_n dX5_takeLaw_124 rfl ?_
                                    refine xn_if_eq (tgt := 150) dX5_takeLaw_125 rfl (by omega) (fun c16 => ?_) (fun c16 => ?_)
                                    · omega
                                    · refine xe_aload_n dX5_takeLaw_128 rfl ?_
                                      refine xe_iconst dX5_takeLaw_129 kc_0 ?_
                                      refine xe_callVIq (d' := 21) (y' := mX5_takeSum) dX5_takeLaw_130 mlX5_147 mvX5_takeSum rfl (st7 hs) (by decide) rfl (by omega) (by decide) (Nat.le_of_ble_eq_true rfl) ((show q_Ct l g 21 _ _ _ (fun r h1 => r = some (.int (nI 0)) ∧ q_bad K 22 _ er h1) from by have hC := xc_sum22 l g (K := K) (m := m) _ hs _ _ hR hn (by first | omega | (simp only [List.length_append, List.length_nil, List.length_cons]; omega)); rw [u3] at hC; exact hC)) rfl (fun g17 g17q => ?_)
                                      have hs := bad_s hs g17q
                                      have hb := gd_bad hg (by first | omega | (simp only [List.length_append, List.length_nil, List.length_cons]; omega)) g17q
                                      obtain ⟨nb, hnb, hnb2⟩ := g17q.1.2.2
                                      have hI2 := em_P g17q.1 hI2
                                      have hI3 := em_P g17q.1 hI3
                                      refine xn_if_eq (tgt := 150) dX5_takeLaw_133 rfl (by omega) (fun c18 => ?_) (fun c18 => ?_)
                                      · refine xe_iconst dX5_takeLaw_150 kc_0 ?_
                                        refine xe_istore_n (i := 3) dX5_takeLaw_151 rfl (by decide) rfl ?_
                                        refine xe_aload_n dX5_takeLaw_152 rfl ?_
                                        refine xe_getP dX5_takeLaw_153 flX5_26 (st7 hs) (by decide) rfl hI3 ?_
                                        refine xe_iconst dX5_takeLaw_156 kc_2 ?_
                                        refine xe_iconst dX5_takeLaw_157 kc_0 ?_
                                        refine xe_callVIn (d' := 0) (y' := mX3_emit) dX5_takeLaw_158 mlX5_150 mvX3_emit rfl (st22 hs) (by decide) rfl (by omega) (by decide) (Nat.le_of_ble_eq_true rfl) (b_emit22 l g _ hs hnb hnb2 _ _) rfl (fun g19v g19 g19q => ?_)
                                        obtain ⟨⟨g19j, rfl, g19jl⟩, g19r⟩ := g19q
                                        have hs : q_Stat g19 := q_Stat_2 g19r.1.1 hs
                                        have hb := bad_em hb g19r
                                        obtain ⟨nb, hnb, hnb2⟩ := g19r.1.2.2
                                        have hI2 := em_P g19r.1 hI2
                                        have hI3 := em_P g19r.1 hI3
                                        refine xe_pop dX5_takeLaw_161 rfl ?_
                                        refine xe_aload_n dX5_takeLaw_162 rfl ?_
                                        refine xe_getP dX5_takeLaw_163 flX5_26 (st7 hs) (by decide) rfl hI3 ?_
                                        refine xe_getP dX5_takeLaw_166 flX5_154 (st22 hs) (by decide) rfl (sp22_1 hs) ?_
                                        refine xe_iload dX5_takeLaw_169 rfl ?_
                                        refine xe_aload_n dX5_takeLaw_171 rfl ?_
                                        refine xe_getP dX5_takeLaw_172 flX5_26 (st7 hs) (by decide) rfl hI3 ?_
                                        refine xe_getIv dX5_takeLaw_175 flX5_144 (st22 hs) (by decide) rfl (v := nI nb) (hnb) ?_
                                        refine xn_iast dX5_takeLaw_178 (st24 hs) (by first | omega | (simp only [List.length_append, List.length_nil, List.length_cons]; omega)) (by decide) ?_
                                        refine xn_iinc dX5_takeLaw_179 rfl kc_1 ?_
                                        refine xe_goto (tgt := 30) dX5_takeLaw_182 rfl ?_
                                        refine xe_locals (L' := [(0, .ref 7), (1, .ref wc), (2, .int wx), (3, .int (nI 0)), (4, .int (nI (i + 1)))]) (And.intro rfl (And.intro rfl (And.intro rfl (And.intro rfl (And.intro rfl trivial))))) ?_
                                        exact lo30_22 l g _ (by exact hs) (by decide) (by omega) (bad_w (by decide : 22 = 10 ∨ 22 = 22) (bad_t (gs_em (gs_t (gs_gd hgAhU) hU.1) (by first | omega | (simp only [List.length_append, List.length_nil, List.length_cons]; omega))) hb)) (by exact hI3) (fun _ q => ⟨rfl, q⟩)
                                      · omega
                        · omega
                | inr z =>
                  obtain ⟨z1, z2, z3, z4, z5⟩ := tx_sum_ok K 6 _ _ u3
                  have wfz := tx_sum_wf u3
                  show q_Ex l g 22 mX5_takeLaw 30 _ _ h (q_lwA K m 22 n h (tx_b (tx_ck (tk_T K) 30 z.2) _))
                  cases kc4 : tx_ck (tk_T K) 30 z.2 with
                  | some er =>
                    refine xe_iload dX5_takeLaw_30 rfl ?_
                    refine xe_iconst dX5_takeLaw_32 kc_4 ?_
                    refine xn_icmp_gt (tgt := 185) dX5_takeLaw_33 rfl (by omega) (by omega) (fun c1 => ?_) (fun c1 => ?_)
                    · omega
                    · refine xe_iload_n dX5_takeLaw_36 rfl ?_
                      refine xn_if_eq (tgt := 185) dX5_takeLaw_37 rfl (by omega) (fun c2 => ?_) (fun c2 => ?_)
                      · omega
                      · refine xe_aload_n dX5_takeLaw_40 rfl ?_
                        refine xe_getIv dX5_takeLaw_41 flX5_41 (st7 hs) (by decide) rfl (v := nI 264) (hk5) ?_
                        refine xe_sipush dX5_takeLaw_44 ks_264 ?_
                        refine xn_icmp_ne (tgt := 185) dX5_takeLaw_47 rfl (by omega) (by omega) (fun c3 => ?_) (fun c3 => ?_)
                        · omega
                        · refine xe_iload dX5_takeLaw_50 rfl ?_
                          refine xe_iconst dX5_takeLaw_52 kc_4 ?_
                          refine xn_icmp_ne (tgt := 62) dX5_takeLaw_53 rfl (by omega) (by omega) (fun c4 => ?_) (fun c4 => ?_)
                          · refine xe_aload_n dX5_takeLaw_62 rfl ?_
                            refine xe_sipush dX5_takeLaw_63 ks_264 ?_
                            refine xe_callVIq (d' := 0) (y' := mX5_take) dX5_takeLaw_66 mlX5_63 mvX5_take rfl (st7 hs) (by decide) rfl (by omega) (by decide) (Nat.le_of_ble_eq_true rfl) (g_take22 l g _ hs hR hn 28 264 rfl (by decide) (by decide) (by decide) kc1) rfl (fun g5 g5q => ?_)
                            have hR := gd_R (by decide : 22 = 10 ∨ 22 = 22) hR g5q
                            have hs := gd_s hs g5q
                            have hg := gd_tk hg g5q
                            have hn := gd_n hg
                            have h4 := hR.2.2.2.2.1
                            have hI2 := hR.1
                            have hI3 := hR.2.1
                            refine xn_if_eq (tgt := 111) dX5_takeLaw_69 rfl (by omega) (fun c6 => ?_) (fun c6 => ?_)
                            · omega
                            · refine xe_aload_n dX5_takeLaw_72 rfl ?_
                              refine xe_iconst dX5_takeLaw_73 kc_0 ?_
                              refine xe_callVIq (d' := 21) (y' := mX5_takeSum) dX5_takeLaw_74 mlX5_147 mvX5_takeSum rfl (st7 hs) (by decide) rfl (by omega) (by decide) (Nat.le_of_ble_eq_true rfl) ((show q_Ct l g 21 _ _ _ (fun r h1 => r = some (.int (nI 1)) ∧ q_gd K m 22 _ _ x h1) from by have hC := xc_sum22 l g (K := K) (m := m) _ hs _ _ hR hn (by first | omega | (simp only [List.length_append, List.length_nil, List.length_cons]; omega)); rw [u1] at hC; exact hC)) rfl (fun g7 g7q => ?_)
                              have hR := gd_R (by decide : 22 = 10 ∨ 22 = 22) hR g7q
                              have hs := gd_s hs g7q
                              have hg := gd_app hg g7q
                              have hn := gd_n hg
                              have h4 := hR.2.2.2.2.1
                              have hI2 := hR.1
                              have hI3 := hR.2.1
                              refine xn_if_eq (tgt := 111) dX5_takeLaw_77 rfl (by omega) (fun c8 => ?_) (fun c8 => ?_)
                              · omega
                              · refine xe_aload_n dX5_takeLaw_80 rfl ?_
                                refine xe_bipush dX5_takeLaw_81 kb_60 ?_
                                refine xe_callVIq (d' := 0) (y' := mX5_take) dX5_takeLaw_83 mlX5_63 mvX5_take rfl (st7 hs) (by decide) rfl (by omega) (by decide) (Nat.le_of_ble_eq_true rfl) (g_take22 l g _ hs hR hn 13 60 rfl (by decide) (by decide) (by decide) kc2) rfl (fun g9 g9q => ?_)
                                have hR := gd_R (by decide : 22 = 10 ∨ 22 = 22) hR g9q
                                have hs := gd_s hs g9q
                                have hg := gd_tk hg g9q
                                have hn := gd_n hg
                                have h4 := hR.2.2.2.2.1
                                have hI2 := hR.1
                                have hI3 := hR.2.1
                                refine xn_if_eq (tgt := 111) dX5_takeLaw_86 rfl (by omega) (fun c10 => ?_) (fun c10 => ?_)
                                · omega
                                · refine xe_aload_n dX5_takeLaw_89 rfl ?_
                                  refine xe_iconst dX5_takeLaw_90 kc_0 ?_
                                  refine xe_callVIq (d' := 21) (y' := mX5_takeSum) dX5_takeLaw_91 mlX5_147 mvX5_takeSum rfl (st7 hs) (by decide) rfl (by omega) (by decide) (Nat.le_of_ble_eq_true rfl) ((show q_Ct l g 21 _ _ _ (fun r h1 => r = some (.int (nI 1)) ∧ q_gd K m 22 _ _ y h1) from by have hC := xc_sum22 l g (K := K) (m := m) _ hs _ _ hR hn (by first | omega | (simp only [List.length_append, List.length_nil, List.length_cons]; omega)); rw [u2] at hC; exact hC)) rfl (fun g11 g11q => ?_)
                                  have hR := gd_R (by decide : 22 = 10 ∨ 22 = 22) hR g11q
                                  have hs := gd_s hs g11q
                                  have hg := gd_app hg g11q
                                  have hn := gd_n hg
                                  have h4 := hR.2.2.2.2.1
                                  have hI2 := hR.1
                                  have hI3 := hR.2.1
                                  refine xn_if_eq (tgt := 111) dX5_takeLaw_94 rfl (by omega) (fun c12 => ?_) (fun c12 => ?_)
                                  · omega
                                  · refine xe_aload_n dX5_takeLaw_97 rfl ?_
                                    refine xe_sipush dX5_takeLaw_98 ks_265 ?_
                                    refine xe_callVIq (d' := 0) (y' := mX5_take) dX5_takeLaw_101 mlX5_63 mvX5_take rfl (st7 hs) (by decide) rfl (by omega) (by decide) (Nat.le_of_ble_eq_true rfl) (g_take22 l g _ hs hR hn 29 265 rfl (by decide) (by decide) (by decide) kc3) rfl (fun g13 g13q => ?_)
                                    have hR := gd_R (by decide : 22 = 10 ∨ 22 = 22) hR g13q
                                    have hs := gd_s hs g13q
                                    have hg := gd_tk hg g13q
                                    have hn := gd_n hg
                                    have h4 := hR.2.2.2.2.1
                                    have hI2 := hR.1
                                    have hI3 := hR.2.1
                                    refine xn_if_eq (tgt := 111) dX5_takeLaw_104 rfl (by omega) (fun c14 => ?_) (fun c14 => ?_)
                                    · omega
                                    · refine xe_iconst dX5_takeLaw_107 kc_1 ?_
                                      refine xe_goto (tgt := 112) dX5_takeLaw_108 rfl ?_
                                      refine xe_istore_n (i := 3) dX5_takeLaw_112 rfl (by decide) rfl ?_
                                      refine xe_aload_n dX5_takeLaw_113 rfl ?_
                                      refine xe_getP dX5_takeLaw_114 flX5_26 (st7 hs) (by decide) rfl hI3 ?_
                                      refine xe_iconst dX5_takeLaw_117 kc_3 ?_
                                      refine xe_iconst dX5_takeLaw_118 kc_0 ?_
                                      refine xe_callVIq (d' := 0) (y' := mX3_emit) dX5_takeLaw_119 mlX5_150 mvX3_emit rfl (st22 hs) (by decide) rfl (by omega) (by decide) (Nat.le_of_ble_eq_true rfl) (g_emx22 l g _ hs hR hn (by first | omega | (simp only [List.length_append, List.length_nil, List.length_cons]; omega)) (nI 3) _) rfl (fun g15 g15q => ?_)
                                      have hU := g15q
                                      have hgAhU := hg
                                      have hR := gs_R (by decide : 22 = 10 ∨ 22 = 22) hR g15q.1
                                      have hs := gs_s hs g15q.1
                                      have hn := gs_n g15q.1
                                      have hg := gd_r hR hn
                                      have hn := gd_n hg
                                      have h4 := hR.2.2.2.2.1
                                      have hI2 := hR.1
                                      have hI3 := hR.2.1
                                      refine xe_istore dX5_takeLaw_122 (by decide) rfl ?_
                                      refine xe_iload_n dX5_takeLaw_124 rfl ?_
                                      refine xn_if_eq (tgt := 150) dX5_takeLaw_125 rfl (by omega) (fun c16 => ?_) (fun c16 => ?_)
                                      · omega
                                      · refine xe_aload_n dX5_takeLaw_128 rfl ?_
                                        refine xe_iconst dX5_takeLaw_129 kc_0 ?_
                                        refine xe_callVIq (d' := 21) (y' := mX5_takeSum) dX5_takeLaw_130 mlX5_147 mvX5_takeSum rfl (st7 hs) (by decide) rfl (by omega) (by decide) (Nat.le_of_ble_eq_true rfl) ((show q_Ct l g 21 _ _ _ (fun r h1 => r = some (.int (nI 1)) ∧ q_gd K m 22 _ _ z h1) from by have hC := xc_sum22 l g (K := K) (m := m) _ hs _ _ hR hn (by first | omega | (simp only [List.length_append, List.length_nil, List.length_cons]; omega)); rw [u3] at hC; exact hC)) rfl (fun g17 g17q => ?_)
                                        have hR := gd_R (by decide : 22 = 10 ∨ 22 = 22) hR g17q
                                        have hs := gd_s hs g17q
                                        have hg := gd_app hg g17q
                                        have hn := gd_n hg
                                        have h4 := hR.2.2.2.2.1
                                        have hI2 := hR.1
                                        have hI3 := hR.2.1
                                        refine xn_if_eq (tgt := 150) dX5_takeLaw_133 rfl (by omega) (fun c18 => ?_) (fun c18 => ?_)
                                        · omega
                                        · refine xe_aload_n dX5_takeLaw_136 rfl ?_
                                          refine xe_sipush dX5_takeLaw_137 ks_266 ?_
                                          refine xe_callVIq (d' := 0) (y' := mX5_take) dX5_takeLaw_140 mlX5_63 mvX5_take rfl (st7 hs) (by decide) rfl (by omega) (by decide) (Nat.le_of_ble_eq_true rfl) (b_take22 l g _ hs hR hn (by first | omega | (simp only [List.length_append, List.length_nil, List.length_cons]; omega)) 30 266 rfl (by decide) (by decide) kc4) rfl (fun g19 g19q => ?_)
                                          have hs := bad_s hs g19q
                                          have hb := gd_bad hg (by first | omega | (simp only [List.length_append, List.length_nil, List.length_cons]; omega)) g19q
                                          obtain ⟨nb, hnb, hnb2⟩ := g19q.1.2.2
                                          have hI2 := em_P g19q.1 hI2
                                          have hI3 := em_P g19q.1 hI3
                                          refine xn_if_eq (tgt := 150) dX5_takeLaw_143 rfl (by omega) (fun c20 => ?_) (fun c20 => ?_)
                                          · refine xe_iconst dX5_takeLaw_150 kc_0 ?_
                                            refine xe_istore_n (i := 3) dX5_takeLaw_151 rfl (by decide) rfl ?_
                                            refine xe_aload_n dX5_takeLaw_152 rfl ?_
                                            refine xe_getP dX5_takeLaw_153 flX5_26 (st7 hs) (by decide) rfl hI3 ?_
                                            refine xe_iconst dX5_takeLaw_156 kc_2 ?_
                                            refine xe_iconst dX5_takeLaw_157 kc_0 ?_
                                            refine xe_callVIn (d' := 0) (y' := mX3_emit) dX5_takeLaw_158 mlX5_150 mvX3_emit rfl (st22 hs) (by decide) rfl (by omega) (by decide) (Nat.le_of_ble_eq_true rfl) (b_emit22 l g _ hs hnb hnb2 _ _) rfl (fun g21v g21 g21q => ?_)
                                            obtain ⟨⟨g21j, rfl, g21jl⟩, g21r⟩ := g21q
                                            have hs : q_Stat g21 := q_Stat_2 g21r.1.1 hs
                                            have hb := bad_em hb g21r
                                            obtain ⟨nb, hnb, hnb2⟩ := g21r.1.2.2
                                            have hI2 := em_P g21r.1 hI2
                                            have hI3 := em_P g21r.1 hI3
                                            refine xe_pop dX5_takeLaw_161 rfl ?_
                                            refine xe_aload_n dX5_takeLaw_162 rfl ?_
                                            refine xe_getP dX5_takeLaw_163 flX5_26 (st7 hs) (by decide) rfl hI3 ?_
                                            refine xe_getP dX5_takeLaw_166 flX5_154 (st22 hs) (by decide) rfl (sp22_1 hs) ?_
                                            refine xe_iload dX5_takeLaw_169 rfl ?_
                                            refine xe_aload_n dX5_takeLaw_171 rfl ?_
                                            refine xe_getP dX5_takeLaw_172 flX5_26 (st7 hs) (by decide) rfl hI3 ?_
                                            refine xe_getIv dX5_takeLaw_175 flX5_144 (st22 hs) (by decide) rfl (v := nI nb) (hnb) ?_
                                            refine xn_iast dX5_takeLaw_178 (st24 hs) (by first | omega | (simp only [List.length_append, List.length_nil, List.length_cons]; omega)) (by decide) ?_
                                            refine xn_iinc dX5_takeLaw_179 rfl kc_1 ?_
                                            refine xe_goto (tgt := 30) dX5_takeLaw_182 rfl ?_
                                            refine xe_locals (L' := [(0, .ref 7), (1, .ref wc), (2, .int wx), (3, .int (nI 0)), (4, .int (nI (i + 1)))]) (And.intro rfl (And.intro rfl (And.intro rfl (And.intro rfl (And.intro rfl trivial))))) ?_
                                            exact lo30_22 l g _ (by exact hs) (by decide) (by omega) (bad_w (by decide : 22 = 10 ∨ 22 = 22) (bad_t (gs_em (gs_t (gs_gd hgAhU) hU.1) (by first | omega | (simp only [List.length_append, List.length_nil, List.length_cons]; omega))) hb)) (by exact hI3) (fun _ q => ⟨rfl, q⟩)
                                          · omega
                          · omega
                  | none =>
                    have hR0 := hR
                    have hs0 := hs
                    refine xe_iload dX5_takeLaw_30 rfl ?_
                    refine xe_iconst dX5_takeLaw_32 kc_4 ?_
                    refine xn_icmp_gt (tgt := 185) dX5_takeLaw_33 rfl (by omega) (by omega) (fun c1 => ?_) (fun c1 => ?_)
                    · omega
                    · refine xe_iload_n dX5_takeLaw_36 rfl ?_
                      refine xn_if_eq (tgt := 185) dX5_takeLaw_37 rfl (by omega) (fun c2 => ?_) (fun c2 => ?_)
                      · omega
                      · refine xe_aload_n dX5_takeLaw_40 rfl ?_
                        refine xe_getIv dX5_takeLaw_41 flX5_41 (st7 hs) (by decide) rfl (v := nI 264) (hk5) ?_
                        refine xe_sipush dX5_takeLaw_44 ks_264 ?_
                        refine xn_icmp_ne (tgt := 185) dX5_takeLaw_47 rfl (by omega) (by omega) (fun c3 => ?_) (fun c3 => ?_)
                        · omega
                        · refine xe_iload dX5_takeLaw_50 rfl ?_
                          refine xe_iconst dX5_takeLaw_52 kc_4 ?_
                          refine xn_icmp_ne (tgt := 62) dX5_takeLaw_53 rfl (by omega) (by omega) (fun c4 => ?_) (fun c4 => ?_)
                          · refine xe_aload_n dX5_takeLaw_62 rfl ?_
                            refine xe_sipush dX5_takeLaw_63 ks_264 ?_
                            refine xe_callVIq (d' := 0) (y' := mX5_take) dX5_takeLaw_66 mlX5_63 mvX5_take rfl (st7 hs) (by decide) rfl (by omega) (by decide) (Nat.le_of_ble_eq_true rfl) (g_take22 l g _ hs hR hn 28 264 rfl (by decide) (by decide) (by decide) kc1) rfl (fun g5 g5q => ?_)
                            have hR := gd_R (by decide : 22 = 10 ∨ 22 = 22) hR g5q
                            have hs := gd_s hs g5q
                            have hg := gd_tk hg g5q
                            have hn := gd_n hg
                            have h4 := hR.2.2.2.2.1
                            have hI2 := hR.1
                            have hI3 := hR.2.1
                            refine xn_if_eq (tgt := 111) dX5_takeLaw_69 rfl (by omega) (fun c6 => ?_) (fun c6 => ?_)
                            · omega
                            · refine xe_aload_n dX5_takeLaw_72 rfl ?_
                              refine xe_iconst dX5_takeLaw_73 kc_0 ?_
                              refine xe_callVIq (d' := 21) (y' := mX5_takeSum) dX5_takeLaw_74 mlX5_147 mvX5_takeSum rfl (st7 hs) (by decide) rfl (by omega) (by decide) (Nat.le_of_ble_eq_true rfl) ((show q_Ct l g 21 _ _ _ (fun r h1 => r = some (.int (nI 1)) ∧ q_gd K m 22 _ _ x h1) from by have hC := xc_sum22 l g (K := K) (m := m) _ hs _ _ hR hn (by first | omega | (simp only [List.length_append, List.length_nil, List.length_cons]; omega)); rw [u1] at hC; exact hC)) rfl (fun g7 g7q => ?_)
                              have hR := gd_R (by decide : 22 = 10 ∨ 22 = 22) hR g7q
                              have hs := gd_s hs g7q
                              have hg := gd_app hg g7q
                              have hn := gd_n hg
                              have h4 := hR.2.2.2.2.1
                              have hI2 := hR.1
                              have hI3 := hR.2.1
                              refine xn_if_eq (tgt := 111) dX5_takeLaw_77 rfl (by omega) (fun c8 => ?_) (fun c8 => ?_)
                              · omega
                              · refine xe_aload_n dX5_takeLaw_80 rfl ?_
                                refine xe_bipush dX5_takeLaw_81 kb_60 ?_
                                refine xe_callVIq (d' := 0) (y' := mX5_take) dX5_takeLaw_83 mlX5_63 mvX5_take rfl (st7 hs) (by decide) rfl (by omega) (by decide) (Nat.le_of_ble_eq_true rfl) (g_take22 l g _ hs hR hn 13 60 rfl (by decide) (by decide) (by decide) kc2) rfl (fun g9 g9q => ?_)
                                have hR := gd_R (by decide : 22 = 10 ∨ 22 = 22) hR g9q
                                have hs := gd_s hs g9q
                                have hg := gd_tk hg g9q
                                have hn := gd_n hg
                                have h4 := hR.2.2.2.2.1
                                have hI2 := hR.1
                                have hI3 := hR.2.1
                                refine xn_if_eq (tgt := 111) dX5_takeLaw_86 rfl (by omega) (fun c10 => ?_) (fun c10 => ?_)
                                · omega
                                · refine xe_aload_n dX5_takeLaw_89 rfl ?_
                                  refine xe_iconst dX5_takeLaw_90 kc_0 ?_
                                  refine xe_callVIq (d' := 21) (y' := mX5_takeSum) dX5_takeLaw_91 mlX5_147 mvX5_takeSum rfl (st7 hs) (by decide) rfl (by omega) (by decide) (Nat.le_of_ble_eq_true rfl) ((show q_Ct l g 21 _ _ _ (fun r h1 => r = some (.int (nI 1)) ∧ q_gd K m 22 _ _ y h1) from by have hC := xc_sum22 l g (K := K) (m := m) _ hs _ _ hR hn (by first | omega | (simp only [List.length_append, List.length_nil, List.length_cons]; omega)); rw [u2] at hC; exact hC)) rfl (fun g11 g11q => ?_)
                                  have hR := gd_R (by decide : 22 = 10 ∨ 22 = 22) hR g11q
                                  have hs := gd_s hs g11q
                                  have hg := gd_app hg g11q
                                  have hn := gd_n hg
                                  have h4 := hR.2.2.2.2.1
                                  have hI2 := hR.1
                                  have hI3 := hR.2.1
                                  refine xn_if_eq (tgt := 111) dX5_takeLaw_94 rfl (by omega) (fun c12 => ?_) (fun c12 => ?_)
                                  · omega
                                  · refine xe_aload_n dX5_takeLaw_97 rfl ?_
                                    refine xe_sipush dX5_takeLaw_98 ks_265 ?_
                                    refine xe_callVIq (d' := 0) (y' := mX5_take) dX5_takeLaw_101 mlX5_63 mvX5_take rfl (st7 hs) (by decide) rfl (by omega) (by decide) (Nat.le_of_ble_eq_true rfl) (g_take22 l g _ hs hR hn 29 265 rfl (by decide) (by decide) (by decide) kc3) rfl (fun g13 g13q => ?_)
                                    have hR := gd_R (by decide : 22 = 10 ∨ 22 = 22) hR g13q
                                    have hs := gd_s hs g13q
                                    have hg := gd_tk hg g13q
                                    have hn := gd_n hg
                                    have h4 := hR.2.2.2.2.1
                                    have hI2 := hR.1
                                    have hI3 := hR.2.1
                                    refine xn_if_eq (tgt := 111) dX5_takeLaw_104 rfl (by omega) (fun c14 => ?_) (fun c14 => ?_)
                                    · omega
                                    · refine xe_iconst dX5_takeLaw_107 kc_1 ?_
                                      refine xe_goto (tgt := 112) dX5_takeLaw_108 rfl ?_
                                      refine xe_istore_n (i := 3) dX5_takeLaw_112 rfl (by decide) rfl ?_
                                      refine xe_aload_n dX5_takeLaw_113 rfl ?_
                                      refine xe_getP dX5_takeLaw_114 flX5_26 (st7 hs) (by decide) rfl hI3 ?_
                                      refine xe_iconst dX5_takeLaw_117 kc_3 ?_
                                      refine xe_iconst dX5_takeLaw_118 kc_0 ?_
                                      refine xe_callVIq (d' := 0) (y' := mX3_emit) dX5_takeLaw_119 mlX5_150 mvX3_emit rfl (st22 hs) (by decide) rfl (by omega) (by decide) (Nat.le_of_ble_eq_true rfl) (g_emx22 l g _ hs hR hn (by first | omega | (simp only [List.length_append, List.length_nil, List.length_cons]; omega)) (nI 3) _) rfl (fun g15 g15q => ?_)
                                      have hU := g15q
                                      have hgAhU := hg
                                      have hR := gs_R (by decide : 22 = 10 ∨ 22 = 22) hR g15q.1
                                      have hs := gs_s hs g15q.1
                                      have hn := gs_n g15q.1
                                      have hg := gd_r hR hn
                                      have hn := gd_n hg
                                      have h4 := hR.2.2.2.2.1
                                      have hI2 := hR.1
                                      have hI3 := hR.2.1
                                      refine xe_istore dX5_takeLaw_122 (by decide) rfl ?_
                                      refine xe_iload_n dX5_takeLaw_124 rfl ?_
                                      refine xn_if_eq (tgt := 150) dX5_takeLaw_125 rfl (by omega) (fun c16 => ?_) (fun c16 => ?_)
                                      · omega
                                      · refine xe_aload_n dX5_takeLaw_128 rfl ?_
                                        refine xe_iconst dX5_takeLaw_129 kc_0 ?_
                                        refine xe_callVIq (d' := 21) (y' := mX5_takeSum) dX5_takeLaw_130 mlX5_147 mvX5_takeSum rfl (st7 hs) (by decide) rfl (by omega) (by decide) (Nat.le_of_ble_eq_true rfl) ((show q_Ct l g 21 _ _ _ (fun r h1 => r = some (.int (nI 1)) ∧ q_gd K m 22 _ _ z h1) from by have hC := xc_sum22 l g (K := K) (m := m) _ hs _ _ hR hn (by first | omega | (simp only [List.length_append, List.length_nil, List.length_cons]; omega)); rw [u3] at hC; exact hC)) rfl (fun g17 g17q => ?_)
                                        have hR := gd_R (by decide : 22 = 10 ∨ 22 = 22) hR g17q
                                        have hs := gd_s hs g17q
                                        have hg := gd_app hg g17q
                                        have hn := gd_n hg
                                        have h4 := hR.2.2.2.2.1
                                        have hI2 := hR.1
                                        have hI3 := hR.2.1
                                        refine xn_if_eq (tgt := 150) dX5_takeLaw_133 rfl (by omega) (fun c18 => ?_) (fun c18 => ?_)
                                        · omega
                                        · refine xe_aload_n dX5_takeLaw_136 rfl ?_
                                          refine xe_sipush dX5_takeLaw_137 ks_266 ?_
                                          refine xe_callVIq (d' := 0) (y' := mX5_take) dX5_takeLaw_140 mlX5_63 mvX5_take rfl (st7 hs) (by decide) rfl (by omega) (by decide) (Nat.le_of_ble_eq_true rfl) (g_take22 l g _ hs hR hn 30 266 rfl (by decide) (by decide) (by decide) kc4) rfl (fun g19 g19q => ?_)
                                          have hR := gd_R (by decide : 22 = 10 ∨ 22 = 22) hR g19q
                                          have hs := gd_s hs g19q
                                          have hg := gd_tk hg g19q
                                          have hn := gd_n hg
                                          have h4 := hR.2.2.2.2.1
                                          have hI2 := hR.1
                                          have hI3 := hR.2.1
                                          refine xn_if_eq (tgt := 150) dX5_takeLaw_143 rfl (by omega) (fun c20 => ?_) (fun c20 => ?_)
                                          · omega
                                          · refine xe_iconst dX5_takeLaw_146 kc_1 ?_
                                            refine xe_goto (tgt := 151) dX5_takeLaw_147 rfl ?_
                                            refine xe_istore_n (i := 3) dX5_takeLaw_151 rfl (by decide) rfl ?_
                                            refine xe_aload_n dX5_takeLaw_152 rfl ?_
                                            refine xe_getP dX5_takeLaw_153 flX5_26 (st7 hs) (by decide) rfl hI3 ?_
                                            refine xe_iconst dX5_takeLaw_156 kc_2 ?_
                                            refine xe_iconst dX5_takeLaw_157 kc_0 ?_
                                            refine xe_callVIq (d' := 0) (y' := mX3_emit) dX5_takeLaw_158 mlX5_150 mvX3_emit rfl (st22 hs) (by decide) rfl (by omega) (by decide) (Nat.le_of_ble_eq_true rfl) (g_emx22 l g _ hs hR hn (by first | omega | (simp only [List.length_append, List.length_nil, List.length_cons]; omega)) (nI 2) _) rfl (fun g21 g21q => ?_)
                                            have hE := g21q
                                            have hgAhE := hg
                                            have hR := gs_R (by decide : 22 = 10 ∨ 22 = 22) hR g21q.1
                                            have hs := gs_s hs g21q.1
                                            have hn := gs_n g21q.1
                                            have hg := gd_r hR hn
                                            have hn := gd_n hg
                                            have h4 := hR.2.2.2.2.1
                                            have hI2 := hR.1
                                            have hI3 := hR.2.1
                                            refine xe_pop dX5_takeLaw_161 rfl ?_
                                            refine xe_aload_n dX5_takeLaw_162 rfl ?_
                                            refine xe_getP dX5_takeLaw_163 flX5_26 (st7 hs) (by decide) rfl hI3 ?_
                                            refine xe_getP dX5_takeLaw_166 flX5_154 (st22 hs) (by decide) rfl (sp22_1 hs) ?_
                                            refine xe_iload dX5_takeLaw_169 rfl ?_
                                            refine xe_aload_n dX5_takeLaw_171 rfl ?_
                                            refine xe_getP dX5_takeLaw_172 flX5_26 (st7 hs) (by decide) rfl hI3 ?_
                                            refine xe_getIv dX5_takeLaw_175 flX5_144 (st22 hs) (by decide) rfl (v := nI (n + ([] ++ x.1 ++ y.1).length + 1 + ([] ++ z.1).length + 1 + ([] : List (Nat × Int32)).length)) (hn) ?_
                                            refine xn_iast dX5_takeLaw_178 (st24 hs) (by first | omega | (simp only [List.length_append, List.length_nil, List.length_cons]; omega)) (by decide) ?_
                                            refine xn_iinc dX5_takeLaw_179 rfl kc_1 ?_
                                            refine xe_goto (tgt := 30) dX5_takeLaw_182 rfl ?_
                                            refine xe_locals (L' := [(0, .ref 7), (1, .ref wc), (2, .int wx), (3, .int (nI 1)), (4, .int (nI (i + 1)))]) (And.intro rfl (And.intro rfl (And.intro rfl (And.intro rfl (And.intro rfl trivial))))) ?_
                                            have eA : n + ([] ++ x.1 ++ y.1).length = n + x.1.length + y.1.length := by rw [List.nil_append, List.length_append, Nat.add_assoc]
                                            have eB : n + ([] ++ x.1 ++ y.1).length + 1 + ([] ++ z.1).length = n + x.1.length + y.1.length + 1 + z.1.length := by rw [eA, List.nil_append]
                                            have gA := gs_gd hgAhU
                                            have gU := hU.1
                                            have gZ := gs_gd hgAhE
                                            have gE := hE.1
                                            have sA := hgAhU.2.2.2.2.2.2.2.2.2
                                            have sZ := hgAhE.2.2.2.2.2.2.2.2.2
                                            have sU := hU.2.1
                                            have sE := hE.2.1
                                            rw [eA] at gA gU sU
                                            rw [eB] at gE sE
                                            rw [eA] at gZ sZ
                                            rw [List.nil_append] at sA sZ gZ
                                            obtain ⟨sx, sy⟩ := q_sgC_of_app sA
                                            have kU := gU.2.2.2.2.2.2.2.2.2
                                            have kZ := gZ.2.2.2.2.2.2.2.2.2
                                            have kE := gE.2.2.2.2.2.2.2.2.2
                                            have kk : ∀ i, i < n + x.1.length + y.1.length → q_I g21 (22 + 1) i = q_I g13 (22 + 1) i ∧ q_I g21 (22 + 2) i = q_I g13 (22 + 2) i := fun i hi => ⟨((kE i (by omega)).1).trans (((kZ i (by omega)).1).trans (kU i hi).1), ((kE i (by omega)).2).trans (((kZ i (by omega)).2).trans (kU i hi).2)⟩
                                            have gT := gs_t gA (gs_t gU (gs_t gZ gE))
                                            have hs9 := hs
                                            have hh : ∀ i, i ≠ n + x.1.length + y.1.length → upd (q_I g21 (22 + 2)) (n + ([] ++ x.1 ++ y.1).length) (nI (n + ([] ++ x.1 ++ y.1).length + 1 + ([] ++ z.1).length + 1 + ([] : List (Nat × Int32)).length)) i = q_I g21 (22 + 2) i := fun i hi => pk_un (by rw [eA]; exact hi)
                                            have gW := gs_w22 gT (j := n + ([] ++ x.1 ++ y.1).length) (v := nI (n + ([] ++ x.1 ++ y.1).length + 1 + ([] ++ z.1).length + 1 + ([] : List (Nat × Int32)).length)) (by omega)
                                            have eC : n + ([] ++ x.1 ++ y.1).length + 1 + ([] ++ z.1).length + 1 + ([] : List (Nat × Int32)).length = n + x.1.length + y.1.length + 1 + z.1.length + 1 := by rw [eB]; rfl
                                            have hR9 := gs_R (by decide : 22 = 10 ∨ 22 = 22) hR0 gW
                                            have ih9 := ih (i + 1) _ _ _ (gs_s hs0 gW) hR9 (gs_n gW) (by omega) (by omega)
                                            rw [tx_ifs_acc]
                                            refine xe_post (fun r h1 q => lw_if (by decide : 22 = 10 ∨ 22 = 22) gW (by omega) ?_ wfx ?_ wfy ?_ ?_ ?_ wfz ?_ q) ih9
                                            · exact q_sgC_co (fun i h1 h2 => ⟨(kk i (by omega)).1, (hh i (by omega)).trans (kk i (by omega)).2⟩) sx
                                            · exact q_sgC_co (fun i h1 h2 => ⟨(kk i (by omega)).1, (hh i (by omega)).trans (kk i (by omega)).2⟩) sy
                                            · exact ((kE _ (by omega)).1).trans (((kZ _ (by omega)).1).trans sU)
                                            · show upd (q_I g21 (22 + 2)) (n + ([] ++ x.1 ++ y.1).length) _ (n + x.1.length + y.1.length) = _
                                              rw [eA]
                                              exact pk_us.trans (congrArg nI (by simp))
                                            · exact q_sgC_co (fun i h1 h2 => ⟨(kE i (by omega)).1, (hh i (by omega)).trans (kE i (by omega)).2⟩) sZ
                                            · exact sE
                          · omega
    · skip
      rw [if_neg h28]
      cases hu : tx_sum K 6 t with
      | inl er =>
        refine xe_iload dX5_takeLaw_30 rfl ?_
        refine xe_iconst dX5_takeLaw_32 kc_4 ?_
        refine xn_icmp_gt (tgt := 185) dX5_takeLaw_33 rfl (by omega) (by omega) (fun c1 => ?_) (fun c1 => ?_)
        · omega
        · refine xe_iload_n dX5_takeLaw_36 rfl ?_
          refine xn_if_eq (tgt := 185) dX5_takeLaw_37 rfl (by omega) (fun c2 => ?_) (fun c2 => ?_)
          · omega
          · refine xe_aload_n dX5_takeLaw_40 rfl ?_
            refine xe_getIv dX5_takeLaw_41 flX5_41 (st7 hs) (by decide) rfl (v := (q_kap (tk_T K t))) (h5) ?_
            refine xe_sipush dX5_takeLaw_44 ks_264 ?_
            refine xe_icmp_ne (tgt := 185) dX5_takeLaw_47 rfl (fun c3 => ?_) (fun c3 => ?_)
            · refine xe_iload_n dX5_takeLaw_185 rfl ?_
              refine xn_if_eq (tgt := 201) dX5_takeLaw_186 rfl (by omega) (fun c4 => ?_) (fun c4 => ?_)
              · omega
              · refine xe_aload_n dX5_takeLaw_189 rfl ?_
                refine xe_iconst dX5_takeLaw_190 kc_0 ?_
                refine xe_callVIq (d' := 21) (y' := mX5_takeSum) dX5_takeLaw_191 mlX5_147 mvX5_takeSum rfl (st7 hs) (by decide) rfl (by omega) (by decide) (Nat.le_of_ble_eq_true rfl) ((show q_Ct l g 21 _ _ _ (fun r h1 => r = some (.int (nI 0)) ∧ q_bad K 22 _ er h1) from by have hC := xc_sum22 l g (K := K) (m := m) _ hs _ _ hR hn (by first | omega | (simp only [List.length_append, List.length_nil, List.length_cons]; omega)); rw [hu] at hC; exact hC)) rfl (fun g5 g5q => ?_)
                have hs := bad_s hs g5q
                have hb := gd_bad hg (by first | omega | (simp only [List.length_append, List.length_nil, List.length_cons]; omega)) g5q
                obtain ⟨nb, hnb, hnb2⟩ := g5q.1.2.2
                have hI2 := em_P g5q.1 hI2
                have hI3 := em_P g5q.1 hI3
                refine xn_if_eq (tgt := 201) dX5_takeLaw_194 rfl (by omega) (fun c6 => ?_) (fun c6 => ?_)
                · refine xe_iconst dX5_takeLaw_201 kc_0 ?_
                  refine xe_istore_n (i := 3) dX5_takeLaw_202 rfl (by decide) rfl ?_
                  refine xe_aload_n dX5_takeLaw_203 rfl ?_
                  refine xe_getP dX5_takeLaw_204 flX5_26 (st7 hs) (by decide) rfl hI3 ?_
                  refine xe_iconst dX5_takeLaw_207 kc_2 ?_
                  refine xe_iconst dX5_takeLaw_208 kc_0 ?_
                  refine xe_callVIn (d' := 0) (y' := mX3_emit) dX5_takeLaw_209 mlX5_150 mvX3_emit rfl (st22 hs) (by decide) rfl (by omega) (by decide) (Nat.le_of_ble_eq_true rfl) (b_emit22 l g _ hs hnb hnb2 _ _) rfl (fun g7v g7 g7q => ?_)
                  have hs : q_Stat g7 := q_Stat_2 g7q.2.1.1 hs
                  have hb := bad_em hb g7q.2
                  have hI2 := em_P g7q.2.1 hI2
                  have hI3 := em_P g7q.2.1 hI3
                  refine xe_pop dX5_takeLaw_212 rfl ?_
                  refine xe_iload_n dX5_takeLaw_213 rfl ?_
                  refine xn_if_eq (tgt := 230) dX5_takeLaw_214 rfl (by omega) (fun c8 => ?_) (fun c8 => ?_)
                  · refine xe_iconst dX5_takeLaw_230 kc_0 ?_
                    refine xe_ireturn dX5_takeLaw_231 rfl (by first | rfl | decide +kernel) ?_
                    exact ⟨rfl, hb⟩
                  · omega
                · omega
            · exact absurd (q_kap_inj (b := 28) hok (by decide) (by decide) c3) h28
      | inr x =>
        obtain ⟨g1, g2, g3, g4, g5⟩ := tx_sum_ok K 6 _ _ hu
        have wfx := tx_sum_wf hu
        show q_Ex l g 22 mX5_takeLaw 30 _ _ h (q_lwA K m 22 n h (tx_b (tx_ck (tk_T K) 4 x.2) (.inr (([], x.1), x.2 + 1))))
        cases hc : tx_ck (tk_T K) 4 x.2 with
        | some er =>
          refine xe_iload dX5_takeLaw_30 rfl ?_
          refine xe_iconst dX5_takeLaw_32 kc_4 ?_
          refine xn_icmp_gt (tgt := 185) dX5_takeLaw_33 rfl (by omega) (by omega) (fun c1 => ?_) (fun c1 => ?_)
          · omega
          · refine xe_iload_n dX5_takeLaw_36 rfl ?_
            refine xn_if_eq (tgt := 185) dX5_takeLaw_37 rfl (by omega) (fun c2 => ?_) (fun c2 => ?_)
            · omega
            · refine xe_aload_n dX5_takeLaw_40 rfl ?_
              refine xe_getIv dX5_takeLaw_41 flX5_41 (st7 hs) (by decide) rfl (v := (q_kap (tk_T K t))) (h5) ?_
              refine xe_sipush dX5_takeLaw_44 ks_264 ?_
              refine xe_icmp_ne (tgt := 185) dX5_takeLaw_47 rfl (fun c3 => ?_) (fun c3 => ?_)
              · refine xe_iload_n dX5_takeLaw_185 rfl ?_
                refine xn_if_eq (tgt := 201) dX5_takeLaw_186 rfl (by omega) (fun c4 => ?_) (fun c4 => ?_)
                · omega
                · refine xe_aload_n dX5_takeLaw_189 rfl ?_
                  refine xe_iconst dX5_takeLaw_190 kc_0 ?_
                  refine xe_callVIq (d' := 21) (y' := mX5_takeSum) dX5_takeLaw_191 mlX5_147 mvX5_takeSum rfl (st7 hs) (by decide) rfl (by omega) (by decide) (Nat.le_of_ble_eq_true rfl) ((show q_Ct l g 21 _ _ _ (fun r h1 => r = some (.int (nI 1)) ∧ q_gd K m 22 _ _ x h1) from by have hC := xc_sum22 l g (K := K) (m := m) _ hs _ _ hR hn (by first | omega | (simp only [List.length_append, List.length_nil, List.length_cons]; omega)); rw [hu] at hC; exact hC)) rfl (fun g5 g5q => ?_)
                  have hR := gd_R (by decide : 22 = 10 ∨ 22 = 22) hR g5q
                  have hs := gd_s hs g5q
                  have hg := gd_app hg g5q
                  have hn := gd_n hg
                  have h4 := hR.2.2.2.2.1
                  have hI2 := hR.1
                  have hI3 := hR.2.1
                  refine xn_if_eq (tgt := 201) dX5_takeLaw_194 rfl (by omega) (fun c6 => ?_) (fun c6 => ?_)
                  · omega
                  · refine xe_iconst dX5_takeLaw_197 kc_1 ?_
                    refine xe_goto (tgt := 202) dX5_takeLaw_198 rfl ?_
                    refine xe_istore_n (i := 3) dX5_takeLaw_202 rfl (by decide) rfl ?_
                    refine xe_aload_n dX5_takeLaw_203 rfl ?_
                    refine xe_getP dX5_takeLaw_204 flX5_26 (st7 hs) (by decide) rfl hI3 ?_
                    refine xe_iconst dX5_takeLaw_207 kc_2 ?_
                    refine xe_iconst dX5_takeLaw_208 kc_0 ?_
                    refine xe_callVIq (d' := 0) (y' := mX3_emit) dX5_takeLaw_209 mlX5_150 mvX3_emit rfl (st22 hs) (by decide) rfl (by omega) (by decide) (Nat.le_of_ble_eq_true rfl) (g_emx22 l g _ hs hR hn (by first | omega | (simp only [List.length_append, List.length_nil, List.length_cons]; omega)) (nI 2) _) rfl (fun g7 g7q => ?_)
                    have hE := g7q
                    have hgAhE := hg
                    have hR := gs_R (by decide : 22 = 10 ∨ 22 = 22) hR g7q.1
                    have hs := gs_s hs g7q.1
                    have hn := gs_n g7q.1
                    have hg := gd_r hR hn
                    have hn := gd_n hg
                    have h4 := hR.2.2.2.2.1
                    have hI2 := hR.1
                    have hI3 := hR.2.1
                    refine xe_pop dX5_takeLaw_212 rfl ?_
                    refine xe_iload_n dX5_takeLaw_213 rfl ?_
                    refine xn_if_eq (tgt := 230) dX5_takeLaw_214 rfl (by omega) (fun c8 => ?_) (fun c8 => ?_)
                    · omega
                    · refine xe_aload_n dX5_takeLaw_217 rfl ?_
                      refine xe_bipush dX5_takeLaw_218 kb_59 ?_
                      refine xe_callVIq (d' := 0) (y' := mX5_take) dX5_takeLaw_220 mlX5_63 mvX5_take rfl (st7 hs) (by decide) rfl (by omega) (by decide) (Nat.le_of_ble_eq_true rfl) (b_take22 l g _ hs hR hn (by first | omega | (simp only [List.length_append, List.length_nil, List.length_cons]; omega)) 4 59 rfl (by decide) (by decide) hc) rfl (fun g9 g9q => ?_)
                      have hs := bad_s hs g9q
                      have hb := gd_bad hg (by first | omega | (simp only [List.length_append, List.length_nil, List.length_cons]; omega)) g9q
                      obtain ⟨nb, hnb, hnb2⟩ := g9q.1.2.2
                      have hI2 := em_P g9q.1 hI2
                      have hI3 := em_P g9q.1 hI3
                      refine xn_if_eq (tgt := 230) dX5_takeLaw_223 rfl (by omega) (fun c10 => ?_) (fun c10 => ?_)
                      · refine xe_iconst dX5_takeLaw_230 kc_0 ?_
                        refine xe_ireturn dX5_takeLaw_231 rfl (by first | rfl | decide +kernel) ?_
                        exact ⟨rfl, bad_t (gs_em (gs_t (gs_gd hgAhE) hE.1) (by first | omega | (simp only [List.length_append, List.length_nil, List.length_cons]; omega))) hb⟩
                      · omega
              · exact absurd (q_kap_inj (b := 28) hok (by decide) (by decide) c3) h28
        | none =>
          refine xe_iload dX5_takeLaw_30 rfl ?_
          refine xe_iconst dX5_takeLaw_32 kc_4 ?_
          refine xn_icmp_gt (tgt := 185) dX5_takeLaw_33 rfl (by omega) (by omega) (fun c1 => ?_) (fun c1 => ?_)
          · omega
          · refine xe_iload_n dX5_takeLaw_36 rfl ?_
            refine xn_if_eq (tgt := 185) dX5_takeLaw_37 rfl (by omega) (fun c2 => ?_) (fun c2 => ?_)
            · omega
            · refine xe_aload_n dX5_takeLaw_40 rfl ?_
              refine xe_getIv dX5_takeLaw_41 flX5_41 (st7 hs) (by decide) rfl (v := (q_kap (tk_T K t))) (h5) ?_
              refine xe_sipush dX5_takeLaw_44 ks_264 ?_
              refine xe_icmp_ne (tgt := 185) dX5_takeLaw_47 rfl (fun c3 => ?_) (fun c3 => ?_)
              · refine xe_iload_n dX5_takeLaw_185 rfl ?_
                refine xn_if_eq (tgt := 201) dX5_takeLaw_186 rfl (by omega) (fun c4 => ?_) (fun c4 => ?_)
                · omega
                · refine xe_aload_n dX5_takeLaw_189 rfl ?_
                  refine xe_iconst dX5_takeLaw_190 kc_0 ?_
                  refine xe_callVIq (d' := 21) (y' := mX5_takeSum) dX5_takeLaw_191 mlX5_147 mvX5_takeSum rfl (st7 hs) (by decide) rfl (by omega) (by decide) (Nat.le_of_ble_eq_true rfl) ((show q_Ct l g 21 _ _ _ (fun r h1 => r = some (.int (nI 1)) ∧ q_gd K m 22 _ _ x h1) from by have hC := xc_sum22 l g (K := K) (m := m) _ hs _ _ hR hn (by first | omega | (simp only [List.length_append, List.length_nil, List.length_cons]; omega)); rw [hu] at hC; exact hC)) rfl (fun g5 g5q => ?_)
                  have hR := gd_R (by decide : 22 = 10 ∨ 22 = 22) hR g5q
                  have hs := gd_s hs g5q
                  have hg := gd_app hg g5q
                  have hn := gd_n hg
                  have h4 := hR.2.2.2.2.1
                  have hI2 := hR.1
                  have hI3 := hR.2.1
                  refine xn_if_eq (tgt := 201) dX5_takeLaw_194 rfl (by omega) (fun c6 => ?_) (fun c6 => ?_)
                  · omega
                  · refine xe_iconst dX5_takeLaw_197 kc_1 ?_
                    refine xe_goto (tgt := 202) dX5_takeLaw_198 rfl ?_
                    refine xe_istore_n (i := 3) dX5_takeLaw_202 rfl (by decide) rfl ?_
                    refine xe_aload_n dX5_takeLaw_203 rfl ?_
                    refine xe_getP dX5_takeLaw_204 flX5_26 (st7 hs) (by decide) rfl hI3 ?_
                    refine xe_iconst dX5_takeLaw_207 kc_2 ?_
                    refine xe_iconst dX5_takeLaw_208 kc_0 ?_
                    refine xe_callVIq (d' := 0) (y' := mX3_emit) dX5_takeLaw_209 mlX5_150 mvX3_emit rfl (st22 hs) (by decide) rfl (by omega) (by decide) (Nat.le_of_ble_eq_true rfl) (g_emx22 l g _ hs hR hn (by first | omega | (simp only [List.length_append, List.length_nil, List.length_cons]; omega)) (nI 2) _) rfl (fun g7 g7q => ?_)
                    have hE := g7q
                    have hgAhE := hg
                    have hR := gs_R (by decide : 22 = 10 ∨ 22 = 22) hR g7q.1
                    have hs := gs_s hs g7q.1
                    have hn := gs_n g7q.1
                    have hg := gd_r hR hn
                    have hn := gd_n hg
                    have h4 := hR.2.2.2.2.1
                    have hI2 := hR.1
                    have hI3 := hR.2.1
                    refine xe_pop dX5_takeLaw_212 rfl ?_
                    refine xe_iload_n dX5_takeLaw_213 rfl ?_
                    refine xn_if_eq (tgt := 230) dX5_takeLaw_214 rfl (by omega) (fun c8 => ?_) (fun c8 => ?_)
                    · omega
                    · refine xe_aload_n dX5_takeLaw_217 rfl ?_
                      refine xe_bipush dX5_takeLaw_218 kb_59 ?_
                      refine xe_callVIq (d' := 0) (y' := mX5_take) dX5_takeLaw_220 mlX5_63 mvX5_take rfl (st7 hs) (by decide) rfl (by omega) (by decide) (Nat.le_of_ble_eq_true rfl) (g_take22 l g _ hs hR hn 4 59 rfl (by decide) (by decide) (by decide) hc) rfl (fun g9 g9q => ?_)
                      have hR := gd_R (by decide : 22 = 10 ∨ 22 = 22) hR g9q
                      have hs := gd_s hs g9q
                      have hg := gd_tk hg g9q
                      have hn := gd_n hg
                      have h4 := hR.2.2.2.2.1
                      have hI2 := hR.1
                      have hI3 := hR.2.1
                      refine xn_if_eq (tgt := 230) dX5_takeLaw_223 rfl (by omega) (fun c10 => ?_) (fun c10 => ?_)
                      · omega
                      · refine xe_iconst dX5_takeLaw_226 kc_1 ?_
                        refine xe_goto (tgt := 231) dX5_takeLaw_227 rfl ?_
                        refine xe_ireturn dX5_takeLaw_231 rfl (by first | rfl | decide +kernel) ?_
                        have hZ := gs_gd hg
                        have hX := hgAhE.2.2.2.2.2.2.2.2.2
                        rw [List.nil_append] at hX
                        have e0 : n + ([] ++ x.1).length = n + x.1.length := by rw [List.nil_append]
                        have hS := hE.2.1
                        rw [e0] at hS
                        have hZ2 := hZ.2.2.2.2.2.2.2.2.2
                        refine ⟨rfl, n + x.1.length + 1, ?_, (by first | omega | (simp only [List.length_append, List.length_nil, List.length_cons]; omega)), ?_⟩
                        · have := gs_t (gs_t (gs_gd hgAhE) hE.1) hZ
                          simpa using this
                        · have kp1 := hE.1.2.2.2.2.2.2.2.2.2
                          rw [e0] at kp1 hZ2
                          show q_cd _ _ (n + x.1.length + 1) n [] x.1
                          exact ⟨q_sgC_co (fun i h1 h2 => ⟨((hZ2 i (by omega)).1).trans (kp1 i (by omega)).1, ((hZ2 i (by omega)).2).trans (kp1 i (by omega)).2⟩) hX, wfx, (hZ2 _ (by omega)).1.trans hS, by omega⟩
              · exact absurd (q_kap_inj (b := 28) hok (by decide) (by decide) c3) h28
theorem law_20_22 (l : Launch) (g : q_GP) (h : q_H) (hs : q_Stat h) {K : q_TK} {m wc t n : Nat} {wx : Int32} (hR : ck_R h K m 22 t) (hn : q_I h 22 2 = nI n) (hnt : n ≤ 10 + t) : q_Ex l g 22 mX5_takeLaw 20 [(0, .ref 7), (1, .ref wc), (2, .int wx)] [] h (q_lwA K m 22 n h (tx_law K t)) := by
  have hg := gd_r hR hn
  have hn := gd_n hg
  have h4 := hR.2.2.2.2.1
  have hI2 := hR.1
  have hI3 := hR.2.1
  have h4m := hR.2.2.1.1
  have htm := hR.2.2.2.1
  unfold tx_law
  cases hc : tx_ck (tk_T K) 5 t with
  | some er =>
    refine xe_aload_n dX5_takeLaw_20 rfl ?_
    refine xe_bipush dX5_takeLaw_21 kb_61 ?_
    refine xe_callVIq (d' := 0) (y' := mX5_take) dX5_takeLaw_23 mlX5_63 mvX5_take rfl (st7 hs) (by decide) rfl (by omega) (by decide) (Nat.le_of_ble_eq_true rfl) (b_take22 l g _ hs hR hn (by first | omega | (simp only [List.length_append, List.length_nil, List.length_cons]; omega)) 5 61 rfl (by decide) (by decide) hc) rfl (fun g1 g1q => ?_)
    have hs := bad_s hs g1q
    have hb := gd_bad hg (by first | omega | (simp only [List.length_append, List.length_nil, List.length_cons]; omega)) g1q
    obtain ⟨nb, hnb, hnb2⟩ := g1q.1.2.2
    have hI2 := em_P g1q.1 hI2
    have hI3 := em_P g1q.1 hI3
    refine xe_istore_n (i := 3) dX5_takeLaw_26 rfl (by decide) rfl ?_
    refine xe_iconst dX5_takeLaw_27 kc_0 ?_
    refine xe_istore dX5_takeLaw_28 (by decide) rfl ?_
    refine xe_locals (L' := [(0, .ref 7), (1, .ref wc), (2, .int wx), (3, .int (nI 0)), (4, .int (nI 0))]) (And.intro rfl (And.intro rfl (And.intro rfl (And.intro rfl (And.intro rfl trivial))))) ?_
    exact lo30_22 l g _ hs (by decide) (by decide) hb hI3 (fun _ q => ⟨rfl, q⟩)
  | none =>
    refine xe_aload_n dX5_takeLaw_20 rfl ?_
    refine xe_bipush dX5_takeLaw_21 kb_61 ?_
    refine xe_callVIq (d' := 0) (y' := mX5_take) dX5_takeLaw_23 mlX5_63 mvX5_take rfl (st7 hs) (by decide) rfl (by omega) (by decide) (Nat.le_of_ble_eq_true rfl) (g_take22 l g _ hs hR hn 5 61 rfl (by decide) (by decide) (by decide) hc) rfl (fun g1 g1q => ?_)
    have hR := gd_R (by decide : 22 = 10 ∨ 22 = 22) hR g1q
    have hs := gd_s hs g1q
    have hg := gd_tk hg g1q
    have hn := gd_n hg
    have h4 := hR.2.2.2.2.1
    have hI2 := hR.1
    have hI3 := hR.2.1
    refine xe_istore_n (i := 3) dX5_takeLaw_26 rfl (by decide) rfl ?_
    refine xe_iconst dX5_takeLaw_27 kc_0 ?_
    refine xe_istore dX5_takeLaw_28 (by decide) rfl ?_
    refine xe_locals (L' := [(0, .ref 7), (1, .ref wc), (2, .int wx), (3, .int (nI 1)), (4, .int (nI 0))]) (And.intro rfl (And.intro rfl (And.intro rfl (And.intro rfl (And.intro rfl trivial))))) ?_
    refine xe_post (fun r h1 q => lw_st (by decide : 22 = 10 ∨ 22 = 22) hg (by first | omega | (simp only [List.length_append, List.length_nil, List.length_cons]; omega)) q) (law_ifs22 l g 4 0 _ _ _ hs hR hn (by simp only [List.length_nil]; omega) rfl)
theorem c_X5_takeLaw22_6 (l : Launch) (g : q_GP) (h : q_H) (hs : q_Stat h) {K : q_TK} {m t n : Nat} (hR : ck_R h K m 22 t) (hn : q_I h 22 2 = nI n) (hnt : n ≤ 10 + t) {j : Nat} (hj : j < 8) : q_Ct l g 22 mX5_takeLaw [.ref 7, .ref 28, .int (nI j)] h (q_lwA K m 22 n (q_wI h 28 (upd (q_I h 28) j (nI n))) (tx_law K t)) := by
  have h4 := hR.2.2.2.2.1
  have hI2 := hR.1
  have hI3 := hR.2.1
  refine q_CtV mvX5_takeLaw (Nat.le_of_ble_eq_true rfl) ?_
  refine xe_iload_n dX5_takeLaw_0 rfl ?_
  refine xn_if_lt (tgt := 20) dX5_takeLaw_1 rfl (by omega) ?_
  refine xe_iload_n dX5_takeLaw_4 rfl ?_
  refine xe_aload_n dX5_takeLaw_5 rfl ?_
  refine xe_alen dX5_takeLaw_6 (st28 hs) (by decide) ⟨0, _, rfl⟩ (v := nI 8) rfl ?_
  refine xn_icmp_ge (tgt := 20) dX5_takeLaw_7 rfl (by omega) (by omega) (fun c2 => ?_) (fun c2 => ?_)
  · omega
  · refine xe_aload_n dX5_takeLaw_10 rfl ?_
    refine xe_iload_n dX5_takeLaw_11 rfl ?_
    refine xe_aload_n dX5_takeLaw_12 rfl ?_
    refine xe_getP dX5_takeLaw_13 flX5_26 (st7 hs) (by decide) rfl hI3 ?_
    refine xe_getIv dX5_takeLaw_16 flX5_144 (st22 hs) (by decide) rfl (v := nI n) (hn) ?_
    refine xn_iast dX5_takeLaw_19 (st28 hs) (by omega) (by decide) ?_
    refine xe_locals (L' := [(0, .ref 7), (1, .ref 28), (2, .int (nI j))]) (And.intro rfl (And.intro rfl (And.intro rfl trivial))) ?_
    refine law_20_22 l g _ (by exact hs) ?_ ?_ hnt
    · exact ck_R_t hR rfl rfl rfl rfl hR.2.2.2.1 hR.2.2.2.2.1 hR.2.2.2.2.2
    · exact hn
theorem c_X5_takeLaw22_7 (l : Launch) (g : q_GP) (h : q_H) (hs : q_Stat h) {K : q_TK} {m t n : Nat} (hR : ck_R h K m 22 t) (hn : q_I h 22 2 = nI n) (hnt : n ≤ 10 + t) {j : Nat} (hj : j < 8) : q_Ct l g 22 mX5_takeLaw [.ref 7, .ref 29, .int (nI j)] h (q_lwA K m 22 n (q_wI h 29 (upd (q_I h 29) j (nI n))) (tx_law K t)) := by
  have h4 := hR.2.2.2.2.1
  have hI2 := hR.1
  have hI3 := hR.2.1
  refine q_CtV mvX5_takeLaw (Nat.le_of_ble_eq_true rfl) ?_
  refine xe_iload_n dX5_takeLaw_0 rfl ?_
  refine xn_if_lt (tgt := 20) dX5_takeLaw_1 rfl (by omega) ?_
  refine xe_iload_n dX5_takeLaw_4 rfl ?_
  refine xe_aload_n dX5_takeLaw_5 rfl ?_
  refine xe_alen dX5_takeLaw_6 (st29 hs) (by decide) ⟨0, _, rfl⟩ (v := nI 8) rfl ?_
  refine xn_icmp_ge (tgt := 20) dX5_takeLaw_7 rfl (by omega) (by omega) (fun c2 => ?_) (fun c2 => ?_)
  · omega
  · refine xe_aload_n dX5_takeLaw_10 rfl ?_
    refine xe_iload_n dX5_takeLaw_11 rfl ?_
    refine xe_aload_n dX5_takeLaw_12 rfl ?_
    refine xe_getP dX5_takeLaw_13 flX5_26 (st7 hs) (by decide) rfl hI3 ?_
    refine xe_getIv dX5_takeLaw_16 flX5_144 (st22 hs) (by decide) rfl (v := nI n) (hn) ?_
    refine xn_iast dX5_takeLaw_19 (st29 hs) (by omega) (by decide) ?_
    refine xe_locals (L' := [(0, .ref 7), (1, .ref 29), (2, .int (nI j))]) (And.intro rfl (And.intro rfl (And.intro rfl trivial))) ?_
    refine law_20_22 l g _ (by exact hs) ?_ ?_ hnt
    · exact ck_R_t hR rfl rfl rfl rfl hR.2.2.2.1 hR.2.2.2.2.1 hR.2.2.2.2.2
    · exact hn
theorem c_X5_takeLaw22_8 (l : Launch) (g : q_GP) (h : q_H) (hs : q_Stat h) {K : q_TK} {m t n : Nat} (hR : ck_R h K m 22 t) (hn : q_I h 22 2 = nI n) (hnt : n ≤ 10 + t)  : q_Ct l g 22 mX5_takeLaw [.ref 7, .ref 30, .int (nI 0)] h (q_lwA K m 22 n (q_wI h 30 (upd (q_I h 30) 0 (nI n))) (tx_law K t)) := by
  have h4 := hR.2.2.2.2.1
  have hI2 := hR.1
  have hI3 := hR.2.1
  refine q_CtV mvX5_takeLaw (Nat.le_of_ble_eq_true rfl) ?_
  refine xe_iload_n dX5_takeLaw_0 rfl ?_
  refine xn_if_lt (tgt := 20) dX5_takeLaw_1 rfl (by omega) ?_
  refine xe_iload_n dX5_takeLaw_4 rfl ?_
  refine xe_aload_n dX5_takeLaw_5 rfl ?_
  refine xe_alen dX5_takeLaw_6 (st30 hs) (by decide) ⟨0, _, rfl⟩ (v := nI 1) rfl ?_
  refine xn_icmp_ge (tgt := 20) dX5_takeLaw_7 rfl (by omega) (by omega) (fun c2 => ?_) (fun c2 => ?_)
  · omega
  · refine xe_aload_n dX5_takeLaw_10 rfl ?_
    refine xe_iload_n dX5_takeLaw_11 rfl ?_
    refine xe_aload_n dX5_takeLaw_12 rfl ?_
    refine xe_getP dX5_takeLaw_13 flX5_26 (st7 hs) (by decide) rfl hI3 ?_
    refine xe_getIv dX5_takeLaw_16 flX5_144 (st22 hs) (by decide) rfl (v := nI n) (hn) ?_
    refine xn_iast dX5_takeLaw_19 (st30 hs) (by omega) (by decide) ?_
    refine xe_locals (L' := [(0, .ref 7), (1, .ref 30), (2, .int (nI 0))]) (And.intro rfl (And.intro rfl (And.intro rfl trivial))) ?_
    refine law_20_22 l g _ (by exact hs) ?_ ?_ hnt
    · exact ck_R_t hR rfl rfl rfl rfl hR.2.2.2.1 hR.2.2.2.2.1 hR.2.2.2.2.2
    · exact hn
theorem c_X5_takeLaw22_9 (l : Launch) (g : q_GP) (h : q_H) (hs : q_Stat h) {K : q_TK} {m t n : Nat} (hR : ck_R h K m 22 t) (hn : q_I h 22 2 = nI n) (hnt : n ≤ 10 + t)  : q_Ct l g 22 mX5_takeLaw [.ref 7, .ref 31, .int (nI 0)] h (q_lwA K m 22 n (q_wI h 31 (upd (q_I h 31) 0 (nI n))) (tx_law K t)) := by
  have h4 := hR.2.2.2.2.1
  have hI2 := hR.1
  have hI3 := hR.2.1
  refine q_CtV mvX5_takeLaw (Nat.le_of_ble_eq_true rfl) ?_
  refine xe_iload_n dX5_takeLaw_0 rfl ?_
  refine xn_if_lt (tgt := 20) dX5_takeLaw_1 rfl (by omega) ?_
  refine xe_iload_n dX5_takeLaw_4 rfl ?_
  refine xe_aload_n dX5_takeLaw_5 rfl ?_
  refine xe_alen dX5_takeLaw_6 (st31 hs) (by decide) ⟨0, _, rfl⟩ (v := nI 1) rfl ?_
  refine xn_icmp_ge (tgt := 20) dX5_takeLaw_7 rfl (by omega) (by omega) (fun c2 => ?_) (fun c2 => ?_)
  · omega
  · refine xe_aload_n dX5_takeLaw_10 rfl ?_
    refine xe_iload_n dX5_takeLaw_11 rfl ?_
    refine xe_aload_n dX5_takeLaw_12 rfl ?_
    refine xe_getP dX5_takeLaw_13 flX5_26 (st7 hs) (by decide) rfl hI3 ?_
    refine xe_getIv dX5_takeLaw_16 flX5_144 (st22 hs) (by decide) rfl (v := nI n) (hn) ?_
    refine xn_iast dX5_takeLaw_19 (st31 hs) (by omega) (by decide) ?_
    refine xe_locals (L' := [(0, .ref 7), (1, .ref 31), (2, .int (nI 0))]) (And.intro rfl (And.intro rfl (And.intro rfl trivial))) ?_
    refine law_20_22 l g _ (by exact hs) ?_ ?_ hnt
    · exact ck_R_t hR rfl rfl rfl rfl hR.2.2.2.1 hR.2.2.2.2.1 hR.2.2.2.2.2
    · exact hn
theorem c_X5_takeLaw22_n (l : Launch) (g : q_GP) (h : q_H) (hs : q_Stat h) {K : q_TK} {m t n : Nat} (hR : ck_R h K m 22 t) (hn : q_I h 22 2 = nI n) (hnt : n ≤ 10 + t) (wc : Nat) : q_Ct l g 22 mX5_takeLaw [.ref 7, .ref wc, .int (-1)] h (q_lwA K m 22 n h (tx_law K t)) := by
  have h4 := hR.2.2.2.2.1
  have hI2 := hR.1
  have hI3 := hR.2.1
  refine q_CtV mvX5_takeLaw (Nat.le_of_ble_eq_true rfl) ?_
  refine xe_iload_n dX5_takeLaw_0 rfl ?_
  refine xe_if_lt (tgt := 20) dX5_takeLaw_1 rfl (fun c1 => ?_) (fun c1 => ?_)
  · refine xe_locals (L' := [(0, .ref 7), (1, .ref wc), (2, .int (-1))]) (And.intro rfl (And.intro rfl (And.intro rfl trivial))) ?_
    exact law_20_22 l g _ hs hR hn hnt
  · exact absurd (by decide) c1
