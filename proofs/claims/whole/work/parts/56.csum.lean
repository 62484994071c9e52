/-! the class: units, parts, sums of laws -/
/-- h0 has become h: the reader is at token x.2, the steps x.1 have come behind the n0-th -/
def q_gd (K : q_TK) (m p n0 : Nat) (h0 : q_H) (x : List (Nat × Int32) × Nat) (h : q_H) : Prop := x.2 ≤ m ∧ h.2 = h0.2 ∧ (∀ r, r ≠ 7 → r ≠ p → r ≠ p + 1 → r ≠ p + 2 → q_I h r = q_I h0 r) ∧ (∀ j, j ≠ 4 → j ≠ 5 → q_I h 7 j = q_I h0 7 j) ∧ q_I h 7 4 = nI x.2 ∧ q_I h 7 5 = q_kap (tk_T K x.2) ∧ (∀ j, j ≠ 2 → q_I h p j = q_I h0 p j) ∧ q_I h p 2 = nI (n0 + x.1.length) ∧ (∀ i, i < n0 → q_I h (p + 1) i = q_I h0 (p + 1) i ∧ q_I h (p + 2) i = q_I h0 (p + 2) i) ∧ q_sgC (q_I h (p + 1)) (q_I h (p + 2)) n0 x.1
/-- h0 has become h on the way to a fault -/
def q_em (p : Nat) (h0 h : q_H) : Prop := h.2 = h0.2 ∧ (∀ r, r ≠ 7 → r ≠ p → r ≠ p + 1 → r ≠ p + 2 → q_I h r = q_I h0 r) ∧ ∃ n, q_I h p 2 = nI n ∧ n ≤ 416
def q_bad (K : q_TK) (p : Nat) (h0 : q_H) (e : Nat × Nat) (h : q_H) : Prop := q_em p h0 h ∧ q_I h 7 7 = nI e.1 ∧ q_I h 7 8 = nI (tk_P K e.2)
def q_ans (K : q_TK) (m p n0 : Nat) (h0 : q_H) (o : q_XR) (r : Option Value) (h : q_H) : Prop := match o with
  | .inl e => r = some (.int (nI 0)) ∧ q_bad K p h0 e h
  | .inr x => r = some (.int (nI 1)) ∧ q_gd K m p n0 h0 x h
theorem q_sgC_co {S W S' W' : Nat → Int32} : ∀ {c : List (Nat × Int32)} {a : Nat}, (∀ i, a ≤ i → i < a + c.length → S' i = S i ∧ W' i = W i) → q_sgC S W a c → q_sgC S' W' a c
  | [], _, _, _ => trivial
  | x :: c, a, h, hc => by
    have h0 := h a (Nat.le_refl _) (by show a < a + (c.length + 1); omega)
    exact ⟨h0.1.trans hc.1, h0.2.trans hc.2.1, q_sgC_co (fun i h1 h2 => h i (by omega) (by show i < a + (c.length + 1); omega)) hc.2.2⟩
theorem q_sgC_app {S W : Nat → Int32} : ∀ {c c' : List (Nat × Int32)} {a : Nat}, q_sgC S W a c → q_sgC S W (a + c.length) c' → q_sgC S W a (c ++ c')
  | [], _, _, _, h => h
  | x :: c, c', a, h, h' => ⟨h.1, h.2.1, q_sgC_app h.2.2 (by rw [show a + 1 + c.length = a + (c.length + 1) by omega]; exact h')⟩
theorem gd_r {K : q_TK} {m p t n : Nat} {h : q_H} (hR : ck_R h K m p t) (hn : q_I h p 2 = nI n) : q_gd K m p n h ([], t) h := ⟨hR.2.2.2.1, rfl, fun _ _ _ _ _ => rfl, fun _ _ _ => rfl, hR.2.2.2.2.1, hR.2.2.2.2.2, fun _ _ => rfl, hn, fun _ _ => ⟨rfl, rfl⟩, trivial⟩
theorem gd_app {K : q_TK} {m p n : Nat} {h0 h h1 : q_H} {c c' : List (Nat × Int32)} {t t' : Nat} (a : q_gd K m p n h0 (c, t) h) (b : q_gd K m p (n + c.length) h (c', t') h1) : q_gd K m p n h0 (c ++ c', t') h1 := by
  obtain ⟨a0, a1, a2, a3, a4, a5, a6, a7, a8, a9⟩ := a
  obtain ⟨b0, b1, b2, b3, b4, b5, b6, b7, b8, b9⟩ := b
  refine ⟨b0, b1.trans a1, fun r h1 h2 h3 h4 => (b2 r h1 h2 h3 h4).trans (a2 r h1 h2 h3 h4), fun j h1 h2 => (b3 j h1 h2).trans (a3 j h1 h2), b4, b5, fun j h1 => (b6 j h1).trans (a6 j h1), ?_, fun i hi => ⟨((b8 i (by omega)).1).trans (a8 i hi).1, ((b8 i (by omega)).2).trans (a8 i hi).2⟩, q_sgC_app (q_sgC_co (fun i h1 h2 => b8 i h2) a9) b9⟩
  rw [b7]
  show nI (n + c.length + c'.length) = nI (n + (c ++ c').length)
  rw [List.length_append, Nat.add_assoc]
theorem gd_R {K : q_TK} {m p n t : Nat} {h0 h : q_H} {x : List (Nat × Int32) × Nat} (hp : p = 10 ∨ p = 22) (hR : ck_R h0 K m p t) (a : q_gd K m p n h0 x h) : ck_R h K m p x.2 := by
  obtain ⟨a0, a1, a2, a3, a4, a5, a6, a7, a8, a9⟩ := a
  have eP : q_P h = q_P h0 := congrArg (fun z => z.2.1) a1
  have eJ : q_J h = q_J h0 := congrArg (fun z => z.1) a1
  refine ck_R_t hR (by rw [eP]) (a2 3 (by omega) (by omega) (by omega) (by omega)) (a2 4 (by omega) (by omega) (by omega) (by omega)) (by rw [eJ]) a0 a4 a5
theorem gd_n {K : q_TK} {m p n t : Nat} {c : List (Nat × Int32)} {h0 h : q_H} (a : q_gd K m p n h0 (c, t) h) : q_I h p 2 = nI (n + c.length) := a.2.2.2.2.2.2.2.1
theorem gd_tk {K : q_TK} {m p n : Nat} {h0 h h1 : q_H} {c : List (Nat × Int32)} {t t' : Nat} (a : q_gd K m p n h0 (c, t) h) (b : q_gd K m p (n + c.length) h ([], t') h1) : q_gd K m p n h0 (c, t') h1 := by
  have := gd_app a b
  rwa [List.append_nil] at this
theorem gd_s {K : q_TK} {m p n : Nat} {h0 h : q_H} {x : List (Nat × Int32) × Nat} (hs : q_Stat h0) (a : q_gd K m p n h0 x h) : q_Stat h := q_Stat_2 a.2.1 hs
theorem em_t {p : Nat} {h0 h h1 : q_H} (a : q_em p h0 h) (b : q_em p h h1) : q_em p h0 h1 := ⟨b.1.trans a.1, fun r h1 h2 h3 h4 => (b.2.1 r h1 h2 h3 h4).trans (a.2.1 r h1 h2 h3 h4), b.2.2⟩
theorem gd_em {K : q_TK} {m p n t : Nat} {h0 h : q_H} {c : List (Nat × Int32)} (a : q_gd K m p n h0 (c, t) h) (hn : n + c.length ≤ 416) : q_em p h0 h := ⟨a.2.1, a.2.2.1, _, gd_n a, hn⟩
theorem em_P {p : Nat} {h0 h : q_H} (a : q_em p h0 h) {r k : Nat} {v : Option Nat} (e : q_P h0 r k = v) : q_P h r k = v := (congrArg (fun z => z.2.1 r k) a.1).trans e
theorem gd_P {K : q_TK} {m p n : Nat} {h0 h : q_H} {x : List (Nat × Int32) × Nat} (a : q_gd K m p n h0 x h) {r k : Nat} {v : Option Nat} (e : q_P h0 r k = v) : q_P h r k = v := (congrArg (fun z => z.2.1 r k) a.2.1).trans e
theorem gd_bad {K : q_TK} {m p n t : Nat} {h0 h h1 : q_H} {c : List (Nat × Int32)} {e : Nat × Nat} (a : q_gd K m p n h0 (c, t) h) (hn : n + c.length ≤ 416) (b : q_bad K p h e h1) : q_bad K p h0 e h1 := ⟨em_t (gd_em a hn) b.1, b.2⟩
theorem bad_s {K : q_TK} {p : Nat} {h0 h : q_H} {e : Nat × Nat} (hs : q_Stat h0) (a : q_bad K p h0 e h) : q_Stat h := q_Stat_2 a.1.1 hs
/-- steps that come behind a fault -/
def q_emz (p : Nat) (h0 h : q_H) : Prop := q_em p h0 h ∧ q_I h 7 = q_I h0 7
theorem bad_em {K : q_TK} {p : Nat} {h0 h h1 : q_H} {e : Nat × Nat} (a : q_bad K p h0 e h) (b : q_emz p h h1) : q_bad K p h0 e h1 := ⟨em_t a.1 b.1, (congrFun b.2 7).trans a.2.1, (congrFun b.2 8).trans a.2.2⟩
def q_XC (l : Launch) (g : q_GP) (y : q_MI) (p : Nat) (K : q_TK) (m d dep : Nat) (f : Nat → q_XR) : Prop := ∀ (h : q_H), q_Stat h → ∀ t n : Nat, ck_R h K m p t → q_I h p 2 = nI n → n ≤ 10 + t → q_Ct l g d y [.ref 7, .int (nI dep)] h (q_ans K m p n h (f t))
theorem q_kap_v : ∀ a : Fin 37, tk_ok a.1 = true → ¬ q_kap a.1 < nI 267 → ¬ nI 272 < q_kap a.1 → 31 ≤ a.1 ∧ a.1 ≤ 36 := by decide +kernel
theorem q_kn_v {a : Nat} (h : 31 ≤ a ∧ a ≤ 36) : q_kn a = a + 236 := by
  unfold q_kn
  repeat (first | split | omega)
theorem g_take10 (l : Launch) (g : q_GP) (h : q_H) (hs : q_Stat h) {K : q_TK} {m t n : Nat} (hR : ck_R h K m 10 t) (hn : q_I h 10 2 = nI n) (k w : Nat) (hw : q_kn k = w) (hok : tk_ok k = true) (hk3 : ¬ k = 3) (hk0 : ¬ k = 0) (hck : tx_ck (tk_T K) k t = none) : q_Ct l g 0 mX5_take [.ref 7, .int (nI w)] h (fun r h1 => r = some (.int (nI 1)) ∧ q_gd K m 10 n h ([], t + 1) h1) := by
  subst hw
  obtain ⟨hk, ht4⟩ := tx_ck_none hck
  have hgo : t + 1 ≤ m := ck_go hR.2.2.1 hR.2.2.2.1 ht4 (by rw [hk]; exact hk0) (by rw [hk]; exact hk3)
  refine q_Ct_post (fun r h1 q => ?_) (c_X5_take_t l g h hs hR hok hk3 hk0 hck)
  obtain ⟨rfl, rfl⟩ := q
  exact ⟨rfl, hgo, rfl, fun r h1 _ _ _ => q_Ine h1, fun j h1 h2 => (congrFun q_Iw j).trans ((pk_un h2).trans (pk_un h1)), rfl, rfl, fun j _ => rfl, hn, fun i _ => ⟨rfl, rfl⟩, trivial⟩
theorem b_take10 (l : Launch) (g : q_GP) (h : q_H) (hs : q_Stat h) {K : q_TK} {m t n : Nat} (hR : ck_R h K m 10 t) (hn : q_I h 10 2 = nI n) (hn2 : n ≤ 416) (k w : Nat) (hw : q_kn k = w) (hok : tk_ok k = true) (hk3 : ¬ k = 3) {e : Nat × Nat} (hck : tx_ck (tk_T K) k t = some e) : q_Ct l g 0 mX5_take [.ref 7, .int (nI w)] h (fun r h1 => r = some (.int (nI 0)) ∧ q_bad K 10 h e h1) := by
  subst hw
  obtain ⟨f, u⟩ := e
  refine q_Ct_post (fun r h1 q => ?_) (c_X5_take_f l g h hs hR hok hk3 hck)
  obtain ⟨rfl, rfl⟩ := q
  exact ⟨rfl, ⟨rfl, fun r h1 _ _ _ => q_Ine h1, n, hn, hn2⟩, rfl, rfl⟩
theorem b_fail10 (l : Launch) (g : q_GP) (h : q_H) (hs : q_Stat h) {K : q_TK} {m t n : Nat} (hR : ck_R h K m 10 t) (hn : q_I h 10 2 = nI n) (hn2 : n ≤ 416) (f : Nat) : q_Ct l g 0 mX5_fail [.ref 7, .int (nI f)] h (fun r h1 => r = some (.int (nI 0)) ∧ q_bad K 10 h (f, t) h1) := by
  refine q_Ct_post (fun r h1 q => ?_) (c_X5_fail l g h hs hR (nI f))
  obtain ⟨rfl, rfl⟩ := q
  exact ⟨rfl, ⟨rfl, fun r h1 _ _ _ => q_Ine h1, n, hn, hn2⟩, rfl, rfl⟩
theorem g_emit10 (l : Launch) (g : q_GP) (h : q_H) (hs : q_Stat h) {K : q_TK} {m t n : Nat} (hR : ck_R h K m 10 t) (hn : q_I h 10 2 = nI n) (hn2 : n < 416) (o : Nat) (kv v v' : Int32) (hk : q_opc o = kv) (hv : v' = v) : q_Ct l g 0 mX3_emit [.ref 10, .int kv, .int v'] h (fun r h1 => r = some (.int (nI n)) ∧ q_gd K m 10 n h ([(o, v)], t) h1) := by
  subst hk hv
  refine q_Ct_post (fun r h1 q => ?_) (c_X3_emit10 l g h hs hn hn2 (q_opc o) v')
  obtain ⟨rfl, rfl⟩ := q
  refine ⟨rfl, hR.2.2.2.1, rfl, fun r _ h1 h2 h3 => (q_Ine h3).trans ((q_Ine h2).trans (q_Ine h1)), fun j _ _ => rfl, hR.2.2.2.2.1, hR.2.2.2.2.2, fun j hj => ?_, rfl, fun i hi => ⟨?_, ?_⟩, ?_, ?_, trivial⟩
  · show upd (q_I h 10) 2 _ j = _
    exact pk_un hj
  · show upd (q_I h (10 + 1)) n _ i = _
    exact pk_un (by omega)
  · show upd (q_I h (10 + 2)) n _ i = _
    exact pk_un (by omega)
  · show upd (q_I h (10 + 1)) n _ n = _
    exact pk_us
  · show upd (q_I h (10 + 2)) n _ n = _
    exact pk_us
theorem b_emit10 (l : Launch) (g : q_GP) (h : q_H) (hs : q_Stat h) {n : Nat} (hn : q_I h 10 2 = nI n) (hn2 : n ≤ 416) (k v : Int32) : q_Ct l g 0 mX3_emit [.ref 10, .int k, .int v] h (fun r h1 => ∃ x, r = some (.int x) ∧ ((∃ j, x = nI j ∧ j < 416) ∧ q_emz 10 h h1)) := by
  rcases Nat.lt_or_ge n 416 with q4 | q4
  · refine q_Ct_post (fun r h1 q => ?_) (c_X3_emit10 l g h hs hn q4 k v)
    obtain ⟨rfl, rfl⟩ := q
    exact ⟨_, rfl, ⟨n, rfl, q4⟩, ⟨rfl, fun r _ h1 h2 h3 => (q_Ine h3).trans ((q_Ine h2).trans (q_Ine h1)), n + 1, rfl, by omega⟩, rfl⟩
  · refine q_Ct_post (fun r h1 q => ?_) (c_X3_emitF10 l g h hs hn (by omega) k v)
    obtain ⟨rfl, rfl⟩ := q
    exact ⟨_, rfl, ⟨0, rfl, by decide⟩, ⟨rfl, fun _ _ _ _ _ => rfl, n, hn, hn2⟩, rfl⟩
theorem g_take22 (l : Launch) (g : q_GP) (h : q_H) (hs : q_Stat h) {K : q_TK} {m t n : Nat} (hR : ck_R h K m 22 t) (hn : q_I h 22 2 = nI n) (k w : Nat) (hw : q_kn k = w) (hok : tk_ok k = true) (hk3 : ¬ k = 3) (hk0 : ¬ k = 0) (hck : tx_ck (tk_T K) k t = none) : q_Ct l g 0 mX5_take [.ref 7, .int (nI w)] h (fun r h1 => r = some (.int (nI 1)) ∧ q_gd K m 22 n h ([], t + 1) h1) := by
  subst hw
  obtain ⟨hk, ht4⟩ := tx_ck_none hck
  have hgo : t + 1 ≤ m := ck_go hR.2.2.1 hR.2.2.2.1 ht4 (by rw [hk]; exact hk0) (by rw [hk]; exact hk3)
  refine q_Ct_post (fun r h1 q => ?_) (c_X5_take_t l g h hs hR hok hk3 hk0 hck)
  obtain ⟨rfl, rfl⟩ := q
  exact ⟨rfl, hgo, rfl, fun r h1 _ _ _ => q_Ine h1, fun j h1 h2 => (congrFun q_Iw j).trans ((pk_un h2).trans (pk_un h1)), rfl, rfl, fun j _ => rfl, hn, fun i _ => ⟨rfl, rfl⟩, trivial⟩
theorem b_take22 (l : Launch) (g : q_GP) (h : q_H) (hs : q_Stat h) {K : q_TK} {m t n : Nat} (hR : ck_R h K m 22 t) (hn : q_I h 22 2 = nI n) (hn2 : n ≤ 416) (k w : Nat) (hw : q_kn k = w) (hok : tk_ok k = true) (hk3 : ¬ k = 3) {e : Nat × Nat} (hck : tx_ck (tk_T K) k t = some e) : q_Ct l g 0 mX5_take [.ref 7, .int (nI w)] h (fun r h1 => r = some (.int (nI 0)) ∧ q_bad K 22 h e h1) := by
  subst hw
  obtain ⟨f, u⟩ := e
  refine q_Ct_post (fun r h1 q => ?_) (c_X5_take_f l g h hs hR hok hk3 hck)
  obtain ⟨rfl, rfl⟩ := q
  exact ⟨rfl, ⟨rfl, fun r h1 _ _ _ => q_Ine h1, n, hn, hn2⟩, rfl, rfl⟩
theorem b_fail22 (l : Launch) (g : q_GP) (h : q_H) (hs : q_Stat h) {K : q_TK} {m t n : Nat} (hR : ck_R h K m 22 t) (hn : q_I h 22 2 = nI n) (hn2 : n ≤ 416) (f : Nat) : q_Ct l g 0 mX5_fail [.ref 7, .int (nI f)] h (fun r h1 => r = some (.int (nI 0)) ∧ q_bad K 22 h (f, t) h1) := by
  refine q_Ct_post (fun r h1 q => ?_) (c_X5_fail l g h hs hR (nI f))
  obtain ⟨rfl, rfl⟩ := q
  exact ⟨rfl, ⟨rfl, fun r h1 _ _ _ => q_Ine h1, n, hn, hn2⟩, rfl, rfl⟩
theorem g_emit22 (l : Launch) (g : q_GP) (h : q_H) (hs : q_Stat h) {K : q_TK} {m t n : Nat} (hR : ck_R h K m 22 t) (hn : q_I h 22 2 = nI n) (hn2 : n < 416) (o : Nat) (kv v v' : Int32) (hk : q_opc o = kv) (hv : v' = v) : q_Ct l g 0 mX3_emit [.ref 22, .int kv, .int v'] h (fun r h1 => r = some (.int (nI n)) ∧ q_gd K m 22 n h ([(o, v)], t) h1) := by
  subst hk hv
  refine q_Ct_post (fun r h1 q => ?_) (c_X3_emit22 l g h hs hn hn2 (q_opc o) v')
  obtain ⟨rfl, rfl⟩ := q
  refine ⟨rfl, hR.2.2.2.1, rfl, fun r _ h1 h2 h3 => (q_Ine h3).trans ((q_Ine h2).trans (q_Ine h1)), fun j _ _ => rfl, hR.2.2.2.2.1, hR.2.2.2.2.2, fun j hj => ?_, rfl, fun i hi => ⟨?_, ?_⟩, ?_, ?_, trivial⟩
  · show upd (q_I h 22) 2 _ j = _
    exact pk_un hj
  · show upd (q_I h (22 + 1)) n _ i = _
    exact pk_un (by omega)
  · show upd (q_I h (22 + 2)) n _ i = _
    exact pk_un (by omega)
  · show upd (q_I h (22 + 1)) n _ n = _
    exact pk_us
  · show upd (q_I h (22 + 2)) n _ n = _
    exact pk_us
theorem b_emit22 (l : Launch) (g : q_GP) (h : q_H) (hs : q_Stat h) {n : Nat} (hn : q_I h 22 2 = nI n) (hn2 : n ≤ 416) (k v : Int32) : q_Ct l g 0 mX3_emit [.ref 22, .int k, .int v] h (fun r h1 => ∃ x, r = some (.int x) ∧ ((∃ j, x = nI j ∧ j < 416) ∧ q_emz 22 h h1)) := by
  rcases Nat.lt_or_ge n 416 with q4 | q4
  · refine q_Ct_post (fun r h1 q => ?_) (c_X3_emit22 l g h hs hn q4 k v)
    obtain ⟨rfl, rfl⟩ := q
    exact ⟨_, rfl, ⟨n, rfl, q4⟩, ⟨rfl, fun r _ h1 h2 h3 => (q_Ine h3).trans ((q_Ine h2).trans (q_Ine h1)), n + 1, rfl, by omega⟩, rfl⟩
  · refine q_Ct_post (fun r h1 q => ?_) (c_X3_emitF22 l g h hs hn (by omega) k v)
    obtain ⟨rfl, rfl⟩ := q
    exact ⟨_, rfl, ⟨0, rfl, by decide⟩, ⟨rfl, fun _ _ _ _ _ => rfl, n, hn, hn2⟩, rfl⟩
theorem po_takePart10 (l : Launch) (g : q_GP) (h : q_H) (hs : q_Stat h) {d dep i : Nat} (hi : i < 2 ^ 30) {Q : Option Value → q_H → Prop} (q : Q (some (.int (nI 0))) h) : q_Ex l g d mX5_takePart 8 [(0, .ref 7), (1, .int (nI dep)), (2, .int (nI 0)), (3, .int (nI i))] [] h Q := by
  refine xe_iload_n dX5_takePart_8 rfl ?_
  refine xe_sipush dX5_takePart_9 ks_400 ?_
  refine xn_icmp_ge (tgt := 83) dX5_takePart_12 rfl (by omega) (by omega) (fun c1 => ?_) (fun c1 => ?_)
  · refine xe_iload_n dX5_takePart_83 rfl ?_
    refine xe_ireturn dX5_takePart_84 rfl (by first | rfl | decide +kernel) ?_
    exact q
  · refine xe_iload_n dX5_takePart_15 rfl ?_
    refine xn_if_eq (tgt := 83) dX5_takePart_16 rfl (by omega) (fun c2 => ?_) (fun c2 => ?_)
    · refine xe_iload_n dX5_takePart_83 rfl ?_
      refine xe_ireturn dX5_takePart_84 rfl (by first | rfl | decide +kernel) ?_
      exact q
    · omega
theorem pl_takePart10 (l : Launch) (g : q_GP) {K : q_TK} {m d dep e : Nat} {U : Nat → q_XR} (hU : q_XC l g mX5_takeUnit 10 K m d dep U) (hG : tx_good e U) {h0 : q_H} {n0 : Nat} : ∀ (f i : Nat) (c : List (Nat × Int32)) (t : Nat) (h : q_H), q_Stat h → q_gd K m 10 n0 h0 (c, t) h → ck_R h K m 10 t → n0 + c.length ≤ 10 + t → i + f = 401 → 2 * i + 1 ≤ t → q_Ex l g (d + 1) mX5_takePart 8 [(0, .ref 7), (1, .int (nI dep)), (2, .int (nI 1)), (3, .int (nI i))] [] h (q_ans K m 10 n0 h0 (tx_pl (tk_T K) 10 15 U f c t)) := by
  intro f
  induction f with
  | zero =>
    intro i c t h hs hg hR hnt hif hit
    have h4m := hR.2.2.1.1
    have htm := hR.2.2.2.1
    omega
  | succ f ih =>
    intro i c t h hs hg hR hnt hif hit
    have h4m := hR.2.2.1.1
    have htm := hR.2.2.2.1
    have hn : q_I h 10 2 = nI (n0 + c.length) := gd_n hg
    have h4 := hR.2.2.2.2.1
    have hI2 := hR.1
    have hI3 := hR.2.1
    have h5 := hR.2.2.2.2.2
    have hok := (hR.2.2.1.2.2 t htm).1
    rw [tx_pl]
    by_cases ha : tk_T K t = 10
    · rw [if_pos (Or.inl ha)]
      have hk5 : q_I h 7 5 = nI 42 := h5.trans (by rw [ha]; rfl)
      by_cases h400 : 400 ≤ t
      · rw [if_pos h400]
        refine xe_iload_n dX5_takePart_8 rfl ?_
        refine xe_sipush dX5_takePart_9 ks_400 ?_
        refine xn_icmp_ge (tgt := 83) dX5_takePart_12 rfl (by omega) (by omega) (fun c1 => ?_) (fun c1 => ?_)
        · omega
        · refine xe_iload_n dX5_takePart_15 rfl ?_
          refine xn_if_eq (tgt := 83) dX5_takePart_16 rfl (by omega) (fun c2 => ?_) (fun c2 => ?_)
          · omega
          · refine xe_aload_n dX5_takePart_19 rfl ?_
            refine xe_getIv dX5_takePart_20 flX5_41 (st7 hs) (by decide) rfl (v := nI 42) (hk5) ?_
            refine xe_bipush dX5_takePart_23 kb_42 ?_
            refine xn_icmp_eq (tgt := 37) dX5_takePart_25 rfl (by omega) (by omega) (fun c3 => ?_) (fun c3 => ?_)
            · refine xe_aload_n dX5_takePart_37 rfl ?_
              refine xe_getIv dX5_takePart_38 flX5_41 (st7 hs) (by decide) rfl (v := nI 42) (hk5) ?_
              refine xe_istore dX5_takePart_41 (by decide) rfl ?_
              refine xe_aload_n dX5_takePart_43 rfl ?_
              refine xe_iload dX5_takePart_44 rfl ?_
              refine xe_callVIq (d' := 0) (y' := mX5_take) dX5_takePart_46 mlX5_63 mvX5_take rfl (st7 hs) (by decide) rfl (by omega) (by decide) (Nat.le_of_ble_eq_true rfl) (b_take10 l g _ hs hR hn (by first | omega | (simp only [List.length_append, List.length_nil, List.length_cons]; omega)) 10 42 rfl (by decide) (by decide) (tx_ck_2 ha h400)) rfl (fun g4 g4q => ?_)
              have hs := bad_s hs g4q
              have hb := gd_bad hg (by first | omega | (simp only [List.length_append, List.length_nil, List.length_cons]; omega)) g4q
              obtain ⟨nb, hnb, hnb2⟩ := g4q.1.2.2
              have hI2 := em_P g4q.1 hI2
              have hI3 := em_P g4q.1 hI3
              refine xn_if_eq (tgt := 64) dX5_takePart_49 rfl (by omega) (fun c5 => ?_) (fun c5 => ?_)
              · refine xe_iconst dX5_takePart_64 kc_0 ?_
                refine xe_istore_n (i := 2) dX5_takePart_65 rfl (by decide) rfl ?_
                refine xe_aload_n dX5_takePart_66 rfl ?_
                refine xe_getP dX5_takePart_67 flX5_26 (st7 hs) (by decide) rfl hI3 ?_
                refine xe_iload dX5_takePart_70 rfl ?_
                refine xe_iconst dX5_takePart_72 kc_0 ?_
                refine xe_callVIn (d' := 0) (y' := mX3_emit) dX5_takePart_73 mlX5_150 mvX3_emit rfl (st10 hs) (by decide) rfl (by omega) (by decide) (Nat.le_of_ble_eq_true rfl) (b_emit10 l g _ hs hnb hnb2 _ _) rfl (fun g6v g6 g6q => ?_)
                have hs : q_Stat g6 := q_Stat_2 g6q.2.1.1 hs
                have hb := bad_em hb g6q.2
                have hI2 := em_P g6q.2.1 hI2
                have hI3 := em_P g6q.2.1 hI3
                refine xe_pop dX5_takePart_76 rfl ?_
                refine xn_iinc dX5_takePart_77 rfl kc_1 ?_
                refine xe_goto (tgt := 8) dX5_takePart_80 rfl ?_
                refine xe_locals (L' := [(0, .ref 7), (1, .int (nI dep)), (2, .int (nI 0)), (3, .int (nI (i + 1)))]) (And.intro rfl (And.intro rfl (And.intro rfl (And.intro rfl trivial)))) ?_
                exact po_takePart10 l g _ hs (by omega) ⟨rfl, hb⟩
              · omega
            · omega
      · rw [if_neg h400]
        cases hu : U (t + 1) with
        | inl er =>
          refine xe_iload_n dX5_takePart_8 rfl ?_
          refine xe_sipush dX5_takePart_9 ks_400 ?_
          refine xn_icmp_ge (tgt := 83) dX5_takePart_12 rfl (by omega) (by omega) (fun c1 => ?_) (fun c1 => ?_)
          · omega
          · refine xe_iload_n dX5_takePart_15 rfl ?_
            refine xn_if_eq (tgt := 83) dX5_takePart_16 rfl (by omega) (fun c2 => ?_) (fun c2 => ?_)
            · omega
            · refine xe_aload_n dX5_takePart_19 rfl ?_
              refine xe_getIv dX5_takePart_20 flX5_41 (st7 hs) (by decide) rfl (v := nI 42) (hk5) ?_
              refine xe_bipush dX5_takePart_23 kb_42 ?_
              refine xn_icmp_eq (tgt := 37) dX5_takePart_25 rfl (by omega) (by omega) (fun c3 => ?_) (fun c3 => ?_)
              · refine xe_aload_n dX5_takePart_37 rfl ?_
                refine xe_getIv dX5_takePart_38 flX5_41 (st7 hs) (by decide) rfl (v := nI 42) (hk5) ?_
                refine xe_istore dX5_takePart_41 (by decide) rfl ?_
                refine xe_aload_n dX5_takePart_43 rfl ?_
                refine xe_iload dX5_takePart_44 rfl ?_
                refine xe_callVIq (d' := 0) (y' := mX5_take) dX5_takePart_46 mlX5_63 mvX5_take rfl (st7 hs) (by decide) rfl (by omega) (by decide) (Nat.le_of_ble_eq_true rfl) (g_take10 l g _ hs hR hn 10 42 rfl (by decide) (by decide) (by decide) (tx_ck_0 ha (by omega))) rfl (fun g4 g4q => ?_)
                have hR := gd_R (by decide : 10 = 10 ∨ 10 = 22) hR g4q
                have hs := gd_s hs g4q
                have hg := gd_tk hg g4q
                have hn := gd_n hg
                have h4 := hR.2.2.2.2.1
                have hI2 := hR.1
                have hI3 := hR.2.1
                refine xn_if_eq (tgt := 64) dX5_takePart_49 rfl (by omega) (fun c5 => ?_) (fun c5 => ?_)
                · omega
                · refine xe_aload_n dX5_takePart_52 rfl ?_
                  refine xe_iload_n dX5_takePart_53 rfl ?_
                  refine xe_callVIq (d' := d) (y' := mX5_takeUnit) dX5_takePart_54 mlX5_160 mvX5_takeUnit rfl (st7 hs) (by decide) rfl (by omega) (by decide) (Nat.le_of_ble_eq_true rfl) ((show q_Ct l g d _ _ _ (fun r h1 => r = some (.int (nI 0)) ∧ q_bad K 10 _ er h1) from by have hC := hU _ hs _ _ hR hn (by first | omega | (simp only [List.length_append, List.length_nil, List.length_cons]; omega)); rw [hu] at hC; exact hC)) rfl (fun g6 g6q => ?_)
                  have hs := bad_s hs g6q
                  have hb := gd_bad hg (by first | omega | (simp only [List.length_append, List.length_nil, List.length_cons]; omega)) g6q
                  obtain ⟨nb, hnb, hnb2⟩ := g6q.1.2.2
                  have hI2 := em_P g6q.1 hI2
                  have hI3 := em_P g6q.1 hI3
                  refine xn_if_eq (tgt := 64) dX5_takePart_57 rfl (by omega) (fun c7 => ?_) (fun c7 => ?_)
                  · refine xe_iconst dX5_takePart_64 kc_0 ?_
                    refine xe_istore_n (i := 2) dX5_takePart_65 rfl (by decide) rfl ?_
                    refine xe_aload_n dX5_takePart_66 rfl ?_
                    refine xe_getP dX5_takePart_67 flX5_26 (st7 hs) (by decide) rfl hI3 ?_
                    refine xe_iload dX5_takePart_70 rfl ?_
                    refine xe_iconst dX5_takePart_72 kc_0 ?_
                    refine xe_callVIn (d' := 0) (y' := mX3_emit) dX5_takePart_73 mlX5_150 mvX3_emit rfl (st10 hs) (by decide) rfl (by omega) (by decide) (Nat.le_of_ble_eq_true rfl) (b_emit10 l g _ hs hnb hnb2 _ _) rfl (fun g8v g8 g8q => ?_)
                    have hs : q_Stat g8 := q_Stat_2 g8q.2.1.1 hs
                    have hb := bad_em hb g8q.2
                    have hI2 := em_P g8q.2.1 hI2
                    have hI3 := em_P g8q.2.1 hI3
                    refine xe_pop dX5_takePart_76 rfl ?_
                    refine xn_iinc dX5_takePart_77 rfl kc_1 ?_
                    refine xe_goto (tgt := 8) dX5_takePart_80 rfl ?_
                    refine xe_locals (L' := [(0, .ref 7), (1, .int (nI dep)), (2, .int (nI 0)), (3, .int (nI (i + 1)))]) (And.intro rfl (And.intro rfl (And.intro rfl (And.intro rfl trivial)))) ?_
                    exact po_takePart10 l g _ hs (by omega) ⟨rfl, hb⟩
                  · omega
              · omega
        | inr x =>
          obtain ⟨g1, g2, g3, g4, g5⟩ := hG _ _ hu
          refine xe_iload_n dX5_takePart_8 rfl ?_
          refine xe_sipush dX5_takePart_9 ks_400 ?_
          refine xn_icmp_ge (tgt := 83) dX5_takePart_12 rfl (by omega) (by omega) (fun c1 => ?_) (fun c1 => ?_)
          · omega
          · refine xe_iload_n dX5_takePart_15 rfl ?_
            refine xn_if_eq (tgt := 83) dX5_takePart_16 rfl (by omega) (fun c2 => ?_) (fun c2 => ?_)
            · omega
            · refine xe_aload_n dX5_takePart_19 rfl ?_
              refine xe_getIv dX5_takePart_20 flX5_41 (st7 hs) (by decide) rfl (v := nI 42) (hk5) ?_
              refine xe_bipush dX5_takePart_23 kb_42 ?_
              refine xn_icmp_eq (tgt := 37) dX5_takePart_25 rfl (by omega) (by omega) (fun c3 => ?_) (fun c3 => ?_)
              · refine xe_aload_n dX5_takePart_37 rfl ?_
                refine xe_getIv dX5_takePart_38 flX5_41 (st7 hs) (by decide) rfl (v := nI 42) (hk5) ?_
                refine xe_istore dX5_takePart_41 (by decide) rfl ?_
                refine xe_aload_n dX5_takePart_43 rfl ?_
                refine xe_iload dX5_takePart_44 rfl ?_
                refine xe_callVIq (d' := 0) (y' := mX5_take) dX5_takePart_46 mlX5_63 mvX5_take rfl (st7 hs) (by decide) rfl (by omega) (by decide) (Nat.le_of_ble_eq_true rfl) (g_take10 l g _ hs hR hn 10 42 rfl (by decide) (by decide) (by decide) (tx_ck_0 ha (by omega))) rfl (fun g4 g4q => ?_)
                have hR := gd_R (by decide : 10 = 10 ∨ 10 = 22) hR g4q
                have hs := gd_s hs g4q
                have hg := gd_tk hg g4q
                have hn := gd_n hg
                have h4 := hR.2.2.2.2.1
                have hI2 := hR.1
                have hI3 := hR.2.1
                refine xn_if_eq (tgt := 64) dX5_takePart_49 rfl (by omega) (fun c5 => ?_) (fun c5 => ?_)
                · omega
                · refine xe_aload_n dX5_takePart_52 rfl ?_
                  refine xe_iload_n dX5_takePart_53 rfl ?_
                  refine xe_callVIq (d' := d) (y' := mX5_takeUnit) dX5_takePart_54 mlX5_160 mvX5_takeUnit rfl (st7 hs) (by decide) rfl (by omega) (by decide) (Nat.le_of_ble_eq_true rfl) ((show q_Ct l g d _ _ _ (fun r h1 => r = some (.int (nI 1)) ∧ q_gd K m 10 _ _ x h1) from by have hC := hU _ hs _ _ hR hn (by first | omega | (simp only [List.length_append, List.length_nil, List.length_cons]; omega)); rw [hu] at hC; exact hC)) rfl (fun g6 g6q => ?_)
                  have hR := gd_R (by decide : 10 = 10 ∨ 10 = 22) hR g6q
                  have hs := gd_s hs g6q
                  have hg := gd_app hg g6q
                  have hn := gd_n hg
                  have h4 := hR.2.2.2.2.1
                  have hI2 := hR.1
                  have hI3 := hR.2.1
                  refine xn_if_eq (tgt := 64) dX5_takePart_57 rfl (by omega) (fun c7 => ?_) (fun c7 => ?_)
                  · omega
                  · refine xe_iconst dX5_takePart_60 kc_1 ?_
                    refine xe_goto (tgt := 65) dX5_takePart_61 rfl ?_
                    refine xe_istore_n (i := 2) dX5_takePart_65 rfl (by decide) rfl ?_
                    refine xe_aload_n dX5_takePart_66 rfl ?_
                    refine xe_getP dX5_takePart_67 flX5_26 (st7 hs) (by decide) rfl hI3 ?_
                    refine xe_iload dX5_takePart_70 rfl ?_
                    refine xe_iconst dX5_takePart_72 kc_0 ?_
                    refine xe_callVIq (d' := 0) (y' := mX3_emit) dX5_takePart_73 mlX5_150 mvX3_emit rfl (st10 hs) (by decide) rfl (by omega) (by decide) (Nat.le_of_ble_eq_true rfl) (g_emit10 l g _ hs hR hn (by first | omega | (simp only [List.length_append, List.length_nil, List.length_cons]; omega)) (tx_op (tk_T K t)) _ (nI 0) _ (by rw [ha]; rfl) rfl) rfl (fun g8 g8q => ?_)
                    have hR := gd_R (by decide : 10 = 10 ∨ 10 = 22) hR g8q
                    have hs := gd_s hs g8q
                    have hg := gd_app hg g8q
                    have hn := gd_n hg
                    have h4 := hR.2.2.2.2.1
                    have hI2 := hR.1
                    have hI3 := hR.2.1
                    refine xe_pop dX5_takePart_76 rfl ?_
                    refine xn_iinc dX5_takePart_77 rfl kc_1 ?_
                    refine xe_goto (tgt := 8) dX5_takePart_80 rfl ?_
                    refine xe_locals (L' := [(0, .ref 7), (1, .int (nI dep)), (2, .int (nI 1)), (3, .int (nI (i + 1)))]) (And.intro rfl (And.intro rfl (And.intro rfl (And.intro rfl trivial)))) ?_
                    refine ih (i + 1) (c ++ x.1 ++ [(tx_op (tk_T K t), nI 0)]) x.2 _ hs (by simpa using hg) hR ?_ (by omega) (by omega)
                    rw [List.length_append, List.length_append]
                    show n0 + (c.length + x.1.length + 1) ≤ _
                    omega
              · omega
    by_cases hb : tk_T K t = 15
    · rw [if_pos (Or.inr hb)]
      have hk5 : q_I h 7 5 = nI 47 := h5.trans (by rw [hb]; rfl)
      by_cases h400 : 400 ≤ t
      · rw [if_pos h400]
        refine xe_iload_n dX5_takePart_8 rfl ?_
        refine xe_sipush dX5_takePart_9 ks_400 ?_
        refine xn_icmp_ge (tgt := 83) dX5_takePart_12 rfl (by omega) (by omega) (fun c1 => ?_) (fun c1 => ?_)
        · omega
        · refine xe_iload_n dX5_takePart_15 rfl ?_
          refine xn_if_eq (tgt := 83) dX5_takePart_16 rfl (by omega) (fun c2 => ?_) (fun c2 => ?_)
          · omega
          · refine xe_aload_n dX5_takePart_19 rfl ?_
            refine xe_getIv dX5_takePart_20 flX5_41 (st7 hs) (by decide) rfl (v := nI 47) (hk5) ?_
            refine xe_bipush dX5_takePart_23 kb_42 ?_
            refine xn_icmp_eq (tgt := 37) dX5_takePart_25 rfl (by omega) (by omega) (fun c3 => ?_) (fun c3 => ?_)
            · omega
            · refine xe_aload_n dX5_takePart_28 rfl ?_
              refine xe_getIv dX5_takePart_29 flX5_41 (st7 hs) (by decide) rfl (v := nI 47) (hk5) ?_
              refine xe_bipush dX5_takePart_32 kb_47 ?_
              refine xn_icmp_ne (tgt := 83) dX5_takePart_34 rfl (by omega) (by omega) (fun c4 => ?_) (fun c4 => ?_)
              · omega
              · refine xe_aload_n dX5_takePart_37 rfl ?_
                refine xe_getIv dX5_takePart_38 flX5_41 (st7 hs) (by decide) rfl (v := nI 47) (hk5) ?_
                refine xe_istore dX5_takePart_41 (by decide) rfl ?_
                refine xe_aload_n dX5_takePart_43 rfl ?_
                refine xe_iload dX5_takePart_44 rfl ?_
                refine xe_callVIq (d' := 0) (y' := mX5_take) dX5_takePart_46 mlX5_63 mvX5_take rfl (st7 hs) (by decide) rfl (by omega) (by decide) (Nat.le_of_ble_eq_true rfl) (b_take10 l g _ hs hR hn (by first | omega | (simp only [List.length_append, List.length_nil, List.length_cons]; omega)) 15 47 rfl (by decide) (by decide) (tx_ck_2 hb h400)) rfl (fun g5 g5q => ?_)
                have hs := bad_s hs g5q
                have hb := gd_bad hg (by first | omega | (simp only [List.length_append, List.length_nil, List.length_cons]; omega)) g5q
                obtain ⟨nb, hnb, hnb2⟩ := g5q.1.2.2
                have hI2 := em_P g5q.1 hI2
                have hI3 := em_P g5q.1 hI3
                refine xn_if_eq (tgt := 64) dX5_takePart_49 rfl (by omega) (fun c6 => ?_) (fun c6 => ?_)
                · refine xe_iconst dX5_takePart_64 kc_0 ?_
                  refine xe_istore_n (i := 2) dX5_takePart_65 rfl (by decide) rfl ?_
                  refine xe_aload_n dX5_takePart_66 rfl ?_
                  refine xe_getP dX5_takePart_67 flX5_26 (st7 hs) (by decide) rfl hI3 ?_
                  refine xe_iload dX5_takePart_70 rfl ?_
                  refine xe_iconst dX5_takePart_72 kc_0 ?_
                  refine xe_callVIn (d' := 0) (y' := mX3_emit) dX5_takePart_73 mlX5_150 mvX3_emit rfl (st10 hs) (by decide) rfl (by omega) (by decide) (Nat.le_of_ble_eq_true rfl) (b_emit10 l g _ hs hnb hnb2 _ _) rfl (fun g7v g7 g7q => ?_)
                  have hs : q_Stat g7 := q_Stat_2 g7q.2.1.1 hs
                  have hb := bad_em hb g7q.2
                  have hI2 := em_P g7q.2.1 hI2
                  have hI3 := em_P g7q.2.1 hI3
                  refine xe_pop dX5_takePart_76 rfl ?_
                  refine xn_iinc dX5_takePart_77 rfl kc_1 ?_
                  refine xe_goto (tgt := 8) dX5_takePart_80 rfl ?_
                  refine xe_locals (L' := [(0, .ref 7), (1, .int (nI dep)), (2, .int (nI 0)), (3, .int (nI (i + 1)))]) (And.intro rfl (And.intro rfl (And.intro rfl (And.intro rfl trivial)))) ?_
                  exact po_takePart10 l g _ hs (by omega) ⟨rfl, hb⟩
                · omega
      · rw [if_neg h400]
        cases hu : U (t + 1) with
        | inl er =>
          refine xe_iload_n dX5_takePart_8 rfl ?_
          refine xe_sipush dX5_takePart_9 ks_400 ?_
          refine xn_icmp_ge (tgt := 83) dX5_takePart_12 rfl (by omega) (by omega) (fun c1 => ?_) (fun c1 => ?_)
          · omega
          · refine xe_iload_n dX5_takePart_15 rfl ?_
            refine xn_if_eq (tgt := 83) dX5_takePart_16 rfl (by omega) (fun c2 => ?_) (fun c2 => ?_)
            · omega
            · refine xe_aload_n dX5_takePart_19 rfl ?_
              refine xe_getIv dX5_takePart_20 flX5_41 (st7 hs) (by decide) rfl (v := nI 47) (hk5) ?_
              refine xe_bipush dX5_takePart_23 kb_42 ?_
              refine xn_icmp_eq (tgt := 37) dX5_takePart_25 rfl (by omega) (by omega) (fun c3 => ?_) (fun c3 => ?_)
              · omega
              · refine xe_aload_n dX5_takePart_28 rfl ?_
                refine xe_getIv dX5_takePart_29 flX5_41 (st7 hs) (by decide) rfl (v := nI 47) (hk5) ?_
                refine xe_bipush dX5_takePart_32 kb_47 ?_
                refine xn_icmp_ne (tgt := 83) dX5_takePart_34 rfl (by omega) (by omega) (fun c4 => ?_) (fun c4 => ?_)
                · omega
                · refine xe_aload_n dX5_takePart_37 rfl ?_
                  refine xe_getIv dX5_takePart_38 flX5_41 (st7 hs) (by decide) rfl (v := nI 47) (hk5) ?_
                  refine xe_istore dX5_takePart_41 (by decide) rfl ?_
                  refine xe_aload_n dX5_takePart_43 rfl ?_
                  refine xe_iload dX5_takePart_44 rfl ?_
                  refine xe_callVIq (d' := 0) (y' := mX5_take) dX5_takePart_46 mlX5_63 mvX5_take rfl (st7 hs) (by decide) rfl (by omega) (by decide) (Nat.le_of_ble_eq_true rfl) (g_take10 l g _ hs hR hn 15 47 rfl (by decide) (by decide) (by decide) (tx_ck_0 hb (by omega))) rfl (fun g5 g5q => ?_)
                  have hR := gd_R (by decide : 10 = 10 ∨ 10 = 22) hR g5q
                  have hs := gd_s hs g5q
                  have hg := gd_tk hg g5q
                  have hn := gd_n hg
                  have h4 := hR.2.2.2.2.1
                  have hI2 := hR.1
                  have hI3 := hR.2.1
                  refine xn_if_eq (tgt := 64) dX5_takePart_49 rfl (by omega) (fun c6 => ?_) (fun c6 => ?_)
                  · omega
                  · refine xe_aload_n dX5_takePart_52 rfl ?_
                    refine xe_iload_n dX5_takePart_53 rfl ?_
                    refine xe_callVIq (d' := d) (y' := mX5_takeUnit) dX5_takePart_54 mlX5_160 mvX5_takeUnit rfl (st7 hs) (by decide) rfl (by omega) (by decide) (Nat.le_of_ble_eq_true rfl) ((show q_Ct l g d _ _ _ (fun r h1 => r = some (.int (nI 0)) ∧ q_bad K 10 _ er h1) from by have hC := hU _ hs _ _ hR hn (by first | omega | (simp only [List.length_append, List.length_nil, List.length_cons]; omega)); rw [hu] at hC; exact hC)) rfl (fun g7 g7q => ?_)
                    have hs := bad_s hs g7q
                    have hb := gd_bad hg (by first | omega | (simp only [List.length_append, List.length_nil, List.length_cons]; omega)) g7q
                    obtain ⟨nb, hnb, hnb2⟩ := g7q.1.2.2
                    have hI2 := em_P g7q.1 hI2
                    have hI3 := em_P g7q.1 hI3
                    refine xn_if_eq (tgt := 64) dX5_takePart_57 rfl (by omega) (fun c8 => ?_) (fun c8 => ?_)
                    · refine xe_iconst dX5_takePart_64 kc_0 ?_
                      refine xe_istore_n (i := 2) dX5_takePart_65 rfl (by decide) rfl ?_
                      refine xe_aload_n dX5_takePart_66 rfl ?_
                      refine xe_getP dX5_takePart_67 flX5_26 (st7 hs) (by decide) rfl hI3 ?_
                      refine xe_iload dX5_takePart_70 rfl ?_
                      refine xe_iconst dX5_takePart_72 kc_0 ?_
                      refine xe_callVIn (d' := 0) (y' := mX3_emit) dX5_takePart_73 mlX5_150 mvX3_emit rfl (st10 hs) (by decide) rfl (by omega) (by decide) (Nat.le_of_ble_eq_true rfl) (b_emit10 l g _ hs hnb hnb2 _ _) rfl (fun g9v g9 g9q => ?_)
                      have hs : q_Stat g9 := q_Stat_2 g9q.2.1.1 hs
                      have hb := bad_em hb g9q.2
                      have hI2 := em_P g9q.2.1 hI2
                      have hI3 := em_P g9q.2.1 hI3
                      refine xe_pop dX5_takePart_76 rfl ?_
                      refine xn_iinc dX5_takePart_77 rfl kc_1 ?_
                      refine xe_goto (tgt := 8) dX5_takePart_80 rfl ?_
                      refine xe_locals (L' := [(0, .ref 7), (1, .int (nI dep)), (2, .int (nI 0)), (3, .int (nI (i + 1)))]) (And.intro rfl (And.intro rfl (And.intro rfl (And.intro rfl trivial)))) ?_
                      exact po_takePart10 l g _ hs (by omega) ⟨rfl, hb⟩
                    · omega
        | inr x =>
          obtain ⟨g1, g2, g3, g4, g5⟩ := hG _ _ hu
          refine xe_iload_n dX5_takePart_8 rfl ?_
          refine xe_sipush dX5_takePart_9 ks_400 ?_
          refine xn_icmp_ge (tgt := 83) dX5_takePart_12 rfl (by omega) (by omega) (fun c1 => ?_) (fun c1 => ?_)
          · omega
          · refine xe_iload_n dX5_takePart_15 rfl ?_
            refine xn_if_eq (tgt := 83) dX5_takePart_16 rfl (by omega) (fun c2 => ?_) (fun c2 => ?_)
            · omega
            · refine xe_aload_n dX5_takePart_19 rfl ?_
              refine xe_getIv dX5_takePart_20 flX5_41 (st7 hs) (by decide) rfl (v := nI 47) (hk5) ?_
              refine xe_bipush dX5_takePart_23 kb_42 ?_
              refine xn_icmp_eq (tgt := 37) dX5_takePart_25 rfl (by omega) (by omega) (fun c3 => ?_) (fun c3 => ?_)
              · omega
              · refine xe_aload_n dX5_takePart_28 rfl ?_
                refine xe_getIv dX5_takePart_29 flX5_41 (st7 hs) (by decide) rfl (v := nI 47) (hk5) ?_
                refine xe_bipush dX5_takePart_32 kb_47 ?_
                refine xn_icmp_ne (tgt := 83) dX5_takePart_34 rfl (by omega) (by omega) (fun c4 => ?_) (fun c4 => ?_)
                · omega
                · refine xe_aload_n dX5_takePart_37 rfl ?_
                  refine xe_getIv dX5_takePart_38 flX5_41 (st7 hs) (by decide) rfl (v := nI 47) (hk5) ?_
                  refine xe_istore dX5_takePart_41 (by decide) rfl ?_
                  refine xe_aload_n dX5_takePart_43 rfl ?_
                  refine xe_iload dX5_takePart_44 rfl ?_
                  refine xe_callVIq (d' := 0) (y' := mX5_take) dX5_takePart_46 mlX5_63 mvX5_take rfl (st7 hs) (by decide) rfl (by omega) (by decide) (Nat.le_of_ble_eq_true rfl) (g_take10 l g _ hs hR hn 15 47 rfl (by decide) (by decide) (by decide) (tx_ck_0 hb (by omega))) rfl (fun g5 g5q => ?_)
                  have hR := gd_R (by decide : 10 = 10 ∨ 10 = 22) hR g5q
                  have hs := gd_s hs g5q
                  have hg := gd_tk hg g5q
                  have hn := gd_n hg
                  have h4 := hR.2.2.2.2.1
                  have hI2 := hR.1
                  have hI3 := hR.2.1
                  refine xn_if_eq (tgt := 64) dX5_takePart_49 rfl (by omega) (fun c6 => ?_) (fun c6 => ?_)
                  · omega
                  · refine xe_aload_n dX5_takePart_52 rfl ?_
                    refine xe_iload_n dX5_takePart_53 rfl ?_
                    refine xe_callVIq (d' := d) (y' := mX5_takeUnit) dX5_takePart_54 mlX5_160 mvX5_takeUnit rfl (st7 hs) (by decide) rfl (by omega) (by decide) (Nat.le_of_ble_eq_true rfl) ((show q_Ct l g d _ _ _ (fun r h1 => r = some (.int (nI 1)) ∧ q_gd K m 10 _ _ x h1) from by have hC := hU _ hs _ _ hR hn (by first | omega | (simp only [List.length_append, List.length_nil, List.length_cons]; omega)); rw [hu] at hC; exact hC)) rfl (fun g7 g7q => ?_)
                    have hR := gd_R (by decide : 10 = 10 ∨ 10 = 22) hR g7q
                    have hs := gd_s hs g7q
                    have hg := gd_app hg g7q
                    have hn := gd_n hg
                    have h4 := hR.2.2.2.2.1
                    have hI2 := hR.1
                    have hI3 := hR.2.1
                    refine xn_if_eq (tgt := 64) dX5_takePart_57 rfl (by omega) (fun c8 => ?_) (fun c8 => ?_)
                    · omega
                    · refine xe_iconst dX5_takePart_60 kc_1 ?_
                      refine xe_goto (tgt := 65) dX5_takePart_61 rfl ?_
                      refine xe_istore_n (i := 2) dX5_takePart_65 rfl (by decide) rfl ?_
                      refine xe_aload_n dX5_takePart_66 rfl ?_
                      refine xe_getP dX5_takePart_67 flX5_26 (st7 hs) (by decide) rfl hI3 ?_
                      refine xe_iload dX5_takePart_70 rfl ?_
                      refine xe_iconst dX5_takePart_72 kc_0 ?_
                      refine xe_callVIq (d' := 0) (y' := mX3_emit) dX5_takePart_73 mlX5_150 mvX3_emit rfl (st10 hs) (by decide) rfl (by omega) (by decide) (Nat.le_of_ble_eq_true rfl) (g_emit10 l g _ hs hR hn (by first | omega | (simp only [List.length_append, List.length_nil, List.length_cons]; omega)) (tx_op (tk_T K t)) _ (nI 0) _ (by rw [hb]; rfl) rfl) rfl (fun g9 g9q => ?_)
                      have hR := gd_R (by decide : 10 = 10 ∨ 10 = 22) hR g9q
                      have hs := gd_s hs g9q
                      have hg := gd_app hg g9q
                      have hn := gd_n hg
                      have h4 := hR.2.2.2.2.1
                      have hI2 := hR.1
                      have hI3 := hR.2.1
                      refine xe_pop dX5_takePart_76 rfl ?_
                      refine xn_iinc dX5_takePart_77 rfl kc_1 ?_
                      refine xe_goto (tgt := 8) dX5_takePart_80 rfl ?_
                      refine xe_locals (L' := [(0, .ref 7), (1, .int (nI dep)), (2, .int (nI 1)), (3, .int (nI (i + 1)))]) (And.intro rfl (And.intro rfl (And.intro rfl (And.intro rfl trivial)))) ?_
                      refine ih (i + 1) (c ++ x.1 ++ [(tx_op (tk_T K t), nI 0)]) x.2 _ hs (by simpa using hg) hR ?_ (by omega) (by omega)
                      rw [List.length_append, List.length_append]
                      show n0 + (c.length + x.1.length + 1) ≤ _
                      omega
    · rw [if_neg (fun q => q.elim ha hb)]
      refine xe_iload_n dX5_takePart_8 rfl ?_
      refine xe_sipush dX5_takePart_9 ks_400 ?_
      refine xn_icmp_ge (tgt := 83) dX5_takePart_12 rfl (by omega) (by omega) (fun c1 => ?_) (fun c1 => ?_)
      · omega
      · refine xe_iload_n dX5_takePart_15 rfl ?_
        refine xn_if_eq (tgt := 83) dX5_takePart_16 rfl (by omega) (fun c2 => ?_) (fun c2 => ?_)
        · omega
        · refine xe_aload_n dX5_takePart_19 rfl ?_
          refine xe_getIv dX5_takePart_20 flX5_41 (st7 hs) (by decide) rfl (v := (q_kap (tk_T K t))) (h5) ?_
          refine xe_bipush dX5_takePart_23 kb_42 ?_
          refine xe_icmp_eq (tgt := 37) dX5_takePart_25 rfl (fun c3 => ?_) (fun c3 => ?_)
          · exact absurd (q_kap_inj (b := 10) hok (by decide) (by decide) c3) ha
          · refine xe_aload_n dX5_takePart_28 rfl ?_
            refine xe_getIv dX5_takePart_29 flX5_41 (st7 hs) (by decide) rfl (v := (q_kap (tk_T K t))) (h5) ?_
            refine xe_bipush dX5_takePart_32 kb_47 ?_
            refine xe_icmp_ne (tgt := 83) dX5_takePart_34 rfl (fun c4 => ?_) (fun c4 => ?_)
            · refine xe_iload_n dX5_takePart_83 rfl ?_
              refine xe_ireturn dX5_takePart_84 rfl (by first | rfl | decide +kernel) ?_
              exact ⟨rfl, hg⟩
            · exact absurd (q_kap_inj (b := 15) hok (by decide) (by decide) c4) hb
theorem xc_takePart10 (l : Launch) (g : q_GP) {K : q_TK} {m d dep e : Nat} {U : Nat → q_XR} (hU : q_XC l g mX5_takeUnit 10 K m d dep U) (hG : tx_good e U) : q_XC l g mX5_takePart 10 K m (d + 1) dep (tx_seq (tk_T K) 10 15 U) := by
  intro h hs t n hR hn hnt
  have hg := gd_r hR hn
  have hn := gd_n hg
  have h4 := hR.2.2.2.2.1
  have hI2 := hR.1
  have hI3 := hR.2.1
  have h4m := hR.2.2.1.1
  have htm := hR.2.2.2.1
  unfold tx_seq
  cases hu : U t with
  | inl er =>
    refine q_CtV mvX5_takePart (Nat.le_of_ble_eq_true rfl) ?_
    refine xe_aload_n dX5_takePart_0 rfl ?_
    refine xe_iload_n dX5_takePart_1 rfl ?_
    refine xe_callVIq (d' := d) (y' := mX5_takeUnit) dX5_takePart_2 mlX5_160 mvX5_takeUnit rfl (st7 hs) (by decide) rfl (by omega) (by decide) (Nat.le_of_ble_eq_true rfl) ((show q_Ct l g d _ _ _ (fun r h1 => r = some (.int (nI 0)) ∧ q_bad K 10 _ er h1) from by have hC := hU _ hs _ _ hR hn (by first | omega | (simp only [List.length_append, List.length_nil, List.length_cons]; omega)); rw [hu] at hC; exact hC)) rfl (fun g1 g1q => ?_)
    have hs := bad_s hs g1q
    have hb := gd_bad hg (by first | omega | (simp only [List.length_append, List.length_nil, List.length_cons]; omega)) g1q
    obtain ⟨nb, hnb, hnb2⟩ := g1q.1.2.2
    have hI2 := em_P g1q.1 hI2
    have hI3 := em_P g1q.1 hI3
    refine xe_istore_n (i := 2) dX5_takePart_5 rfl (by decide) rfl ?_
    refine xe_iconst dX5_takePart_6 kc_0 ?_
    refine xe_istore_n (i := 3) dX5_takePart_7 rfl (by decide) rfl ?_
    refine xe_locals (L' := [(0, .ref 7), (1, .int (nI dep)), (2, .int (nI 0)), (3, .int (nI 0))]) (And.intro rfl (And.intro rfl (And.intro rfl (And.intro rfl trivial)))) ?_
    exact po_takePart10 l g _ hs (by decide) ⟨rfl, hb⟩
  | inr x =>
    obtain ⟨g1, g2, g3, g4, g5⟩ := hG _ _ hu
    refine q_CtV mvX5_takePart (Nat.le_of_ble_eq_true rfl) ?_
    refine xe_aload_n dX5_takePart_0 rfl ?_
    refine xe_iload_n dX5_takePart_1 rfl ?_
    refine xe_callVIq (d' := d) (y' := mX5_takeUnit) dX5_takePart_2 mlX5_160 mvX5_takeUnit rfl (st7 hs) (by decide) rfl (by omega) (by decide) (Nat.le_of_ble_eq_true rfl) ((show q_Ct l g d _ _ _ (fun r h1 => r = some (.int (nI 1)) ∧ q_gd K m 10 _ _ x h1) from by have hC := hU _ hs _ _ hR hn (by first | omega | (simp only [List.length_append, List.length_nil, List.length_cons]; omega)); rw [hu] at hC; exact hC)) rfl (fun g1 g1q => ?_)
    have hR := gd_R (by decide : 10 = 10 ∨ 10 = 22) hR g1q
    have hs := gd_s hs g1q
    have hg := gd_app hg g1q
    have hn := gd_n hg
    have h4 := hR.2.2.2.2.1
    have hI2 := hR.1
    have hI3 := hR.2.1
    refine xe_istore_n (i := 2) dX5_takePart_5 rfl (by decide) rfl ?_
    refine xe_iconst dX5_takePart_6 kc_0 ?_
    refine xe_istore_n (i := 3) dX5_takePart_7 rfl (by decide) rfl ?_
    refine xe_locals (L' := [(0, .ref 7), (1, .int (nI dep)), (2, .int (nI 1)), (3, .int (nI 0))]) (And.intro rfl (And.intro rfl (And.intro rfl (And.intro rfl trivial)))) ?_
    exact pl_takePart10 l g hU hG 401 0 x.1 x.2 _ hs hg hR (by omega) rfl (by omega)
theorem po_takeSum10 (l : Launch) (g : q_GP) (h : q_H) (hs : q_Stat h) {d dep i : Nat} (hi : i < 2 ^ 30) {Q : Option Value → q_H → Prop} (q : Q (some (.int (nI 0))) h) : q_Ex l g d mX5_takeSum 8 [(0, .ref 7), (1, .int (nI dep)), (2, .int (nI 0)), (3, .int (nI i))] [] h Q := by
  refine xe_iload_n dX5_takeSum_8 rfl ?_
  refine xe_sipush dX5_takeSum_9 ks_400 ?_
  refine xn_icmp_ge (tgt := 83) dX5_takeSum_12 rfl (by omega) (by omega) (fun c1 => ?_) (fun c1 => ?_)
  · refine xe_iload_n dX5_takeSum_83 rfl ?_
    refine xe_ireturn dX5_takeSum_84 rfl (by first | rfl | decide +kernel) ?_
    exact q
  · refine xe_iload_n dX5_takeSum_15 rfl ?_
    refine xn_if_eq (tgt := 83) dX5_takeSum_16 rfl (by omega) (fun c2 => ?_) (fun c2 => ?_)
    · refine xe_iload_n dX5_takeSum_83 rfl ?_
      refine xe_ireturn dX5_takeSum_84 rfl (by first | rfl | decide +kernel) ?_
      exact q
    · omega
theorem pl_takeSum10 (l : Launch) (g : q_GP) {K : q_TK} {m d dep e : Nat} {U : Nat → q_XR} (hU : q_XC l g mX5_takePart 10 K m d dep U) (hG : tx_good e U) {h0 : q_H} {n0 : Nat} : ∀ (f i : Nat) (c : List (Nat × Int32)) (t : Nat) (h : q_H), q_Stat h → q_gd K m 10 n0 h0 (c, t) h → ck_R h K m 10 t → n0 + c.length ≤ 10 + t → i + f = 401 → 2 * i + 1 ≤ t → q_Ex l g (d + 1) mX5_takeSum 8 [(0, .ref 7), (1, .int (nI dep)), (2, .int (nI 1)), (3, .int (nI i))] [] h (q_ans K m 10 n0 h0 (tx_pl (tk_T K) 8 9 U f c t)) := by
  intro f
  induction f with
  | zero =>
    intro i c t h hs hg hR hnt hif hit
    have h4m := hR.2.2.1.1
    have htm := hR.2.2.2.1
    omega
  | succ f ih =>
    intro i c t h hs hg hR hnt hif hit
    have h4m := hR.2.2.1.1
    have htm := hR.2.2.2.1
    have hn : q_I h 10 2 = nI (n0 + c.length) := gd_n hg
    have h4 := hR.2.2.2.2.1
    have hI2 := hR.1
    have hI3 := hR.2.1
    have h5 := hR.2.2.2.2.2
    have hok := (hR.2.2.1.2.2 t htm).1
    rw [tx_pl]
    by_cases ha : tk_T K t = 8
    · rw [if_pos (Or.inl ha)]
      have hk5 : q_I h 7 5 = nI 43 := h5.trans (by rw [ha]; rfl)
      by_cases h400 : 400 ≤ t
      · rw [if_pos h400]
        refine xe_iload_n dX5_takeSum_8 rfl ?_
        refine xe_sipush dX5_takeSum_9 ks_400 ?_
        refine xn_icmp_ge (tgt := 83) dX5_takeSum_12 rfl (by omega) (by omega) (fun c1 => ?_) (fun c1 => ?_)
        · omega
        · refine xe_iload_n dX5_takeSum_15 rfl ?_
          refine xn_if_eq (tgt := 83) dX5_takeSum_16 rfl (by omega) (fun c2 => ?_) (fun c2 => ?_)
          · omega
          · refine xe_aload_n dX5_takeSum_19 rfl ?_
            refine xe_getIv dX5_takeSum_20 flX5_41 (st7 hs) (by decide) rfl (v := nI 43) (hk5) ?_
            refine xe_bipush dX5_takeSum_23 kb_43 ?_
            refine xn_icmp_eq (tgt := 37) dX5_takeSum_25 rfl (by omega) (by omega) (fun c3 => ?_) (fun c3 => ?_)
            · refine xe_aload_n dX5_takeSum_37 rfl ?_
              refine xe_getIv dX5_takeSum_38 flX5_41 (st7 hs) (by decide) rfl (v := nI 43) (hk5) ?_
              refine xe_istore dX5_takeSum_41 (by decide) rfl ?_
              refine xe_aload_n dX5_takeSum_43 rfl ?_
              refine xe_iload dX5_takeSum_44 rfl ?_
              refine xe_callVIq (d' := 0) (y' := mX5_take) dX5_takeSum_46 mlX5_63 mvX5_take rfl (st7 hs) (by decide) rfl (by omega) (by decide) (Nat.le_of_ble_eq_true rfl) (b_take10 l g _ hs hR hn (by first | omega | (simp only [List.length_append, List.length_nil, List.length_cons]; omega)) 8 43 rfl (by decide) (by decide) (tx_ck_2 ha h400)) rfl (fun g4 g4q => ?_)
              have hs := bad_s hs g4q
              have hb := gd_bad hg (by first | omega | (simp only [List.length_append, List.length_nil, List.length_cons]; omega)) g4q
              obtain ⟨nb, hnb, hnb2⟩ := g4q.1.2.2
              have hI2 := em_P g4q.1 hI2
              have hI3 := em_P g4q.1 hI3
              refine xn_if_eq (tgt := 64) dX5_takeSum_49 rfl (by omega) (fun c5 => ?_) (fun c5 => ?_)
              · refine xe_iconst dX5_takeSum_64 kc_0 ?_
                refine xe_istore_n (i := 2) dX5_takeSum_65 rfl (by decide) rfl ?_
                refine xe_aload_n dX5_takeSum_66 rfl ?_
                refine xe_getP dX5_takeSum_67 flX5_26 (st7 hs) (by decide) rfl hI3 ?_
                refine xe_iload dX5_takeSum_70 rfl ?_
                refine xe_iconst dX5_takeSum_72 kc_0 ?_
                refine xe_callVIn (d' := 0) (y' := mX3_emit) dX5_takeSum_73 mlX5_150 mvX3_emit rfl (st10 hs) (by decide) rfl (by omega) (by decide) (Nat.le_of_ble_eq_true rfl) (b_emit10 l g _ hs hnb hnb2 _ _) rfl (fun g6v g6 g6q => ?_)
                have hs : q_Stat g6 := q_Stat_2 g6q.2.1.1 hs
                have hb := bad_em hb g6q.2
                have hI2 := em_P g6q.2.1 hI2
                have hI3 := em_P g6q.2.1 hI3
                refine xe_pop dX5_takeSum_76 rfl ?_
                refine xn_iinc dX5_takeSum_77 rfl kc_1 ?_
                refine xe_goto (tgt := 8) dX5_takeSum_80 rfl ?_
                refine xe_locals (L' := [(0, .ref 7), (1, .int (nI dep)), (2, .int (nI 0)), (3, .int (nI (i + 1)))]) (And.intro rfl (And.intro rfl (And.intro rfl (And.intro rfl trivial)))) ?_
                exact po_takeSum10 l g _ hs (by omega) ⟨rfl, hb⟩
              · omega
            · omega
      · rw [if_neg h400]
        cases hu : U (t + 1) with
        | inl er =>
          refine xe_iload_n dX5_takeSum_8 rfl ?_
          refine xe_sipush dX5_takeSum_9 ks_400 ?_
          refine xn_icmp_ge (tgt := 83) dX5_takeSum_12 rfl (by omega) (by omega) (fun c1 => ?_) (fun c1 => ?_)
          · omega
          · refine xe_iload_n dX5_takeSum_15 rfl ?_
            refine xn_if_eq (tgt := 83) dX5_takeSum_16 rfl (by omega) (fun c2 => ?_) (fun c2 => ?_)
            · omega
            · refine xe_aload_n dX5_takeSum_19 rfl ?_
              refine xe_getIv dX5_takeSum_20 flX5_41 (st7 hs) (by decide) rfl (v := nI 43) (hk5) ?_
              refine xe_bipush dX5_takeSum_23 kb_43 ?_
              refine xn_icmp_eq (tgt := 37) dX5_takeSum_25 rfl (by omega) (by omega) (fun c3 => ?_) (fun c3 => ?_)
              · refine xe_aload_n dX5_takeSum_37 rfl ?_
                refine xe_getIv dX5_takeSum_38 flX5_41 (st7 hs) (by decide) rfl (v := nI 43) (hk5) ?_
                refine xe_istore dX5_takeSum_41 (by decide) rfl ?_
                refine xe_aload_n dX5_takeSum_43 rfl ?_
                refine xe_iload dX5_takeSum_44 rfl ?_
                refine xe_callVIq (d' := 0) (y' := mX5_take) dX5_takeSum_46 mlX5_63 mvX5_take rfl (st7 hs) (by decide) rfl (by omega) (by decide) (Nat.le_of_ble_eq_true rfl) (g_take10 l g _ hs hR hn 8 43 rfl (by decide) (by decide) (by decide) (tx_ck_0 ha (by omega))) rfl (fun g4 g4q => ?_)
                have hR := gd_R (by decide : 10 = 10 ∨ 10 = 22) hR g4q
                have hs := gd_s hs g4q
                have hg := gd_tk hg g4q
                have hn := gd_n hg
                have h4 := hR.2.2.2.2.1
                have hI2 := hR.1
                have hI3 := hR.2.1
                refine xn_if_eq (tgt := 64) dX5_takeSum_49 rfl (by omega) (fun c5 => ?_) (fun c5 => ?_)
                · omega
                · refine xe_aload_n dX5_takeSum_52 rfl ?_
                  refine xe_iload_n dX5_takeSum_53 rfl ?_
                  refine xe_callVIq (d' := d) (y' := mX5_takePart) dX5_takeSum_54 mlX5_157 mvX5_takePart rfl (st7 hs) (by decide) rfl (by omega) (by decide) (Nat.le_of_ble_eq_true rfl) ((show q_Ct l g d _ _ _ (fun r h1 => r = some (.int (nI 0)) ∧ q_bad K 10 _ er h1) from by have hC := hU _ hs _ _ hR hn (by first | omega | (simp only [List.length_append, List.length_nil, List.length_cons]; omega)); rw [hu] at hC; exact hC)) rfl (fun g6 g6q => ?_)
                  have hs := bad_s hs g6q
                  have hb := gd_bad hg (by first | omega | (simp only [List.length_append, List.length_nil, List.length_cons]; omega)) g6q
                  obtain ⟨nb, hnb, hnb2⟩ := g6q.1.2.2
                  have hI2 := em_P g6q.1 hI2
                  have hI3 := em_P g6q.1 hI3
                  refine xn_if_eq (tgt := 64) dX5_takeSum_57 rfl (by omega) (fun c7 => ?_) (fun c7 => ?_)
                  · refine xe_iconst dX5_takeSum_64 kc_0 ?_
                    refine xe_istore_n (i := 2) dX5_takeSum_65 rfl (by decide) rfl ?_
                    refine xe_aload_n dX5_takeSum_66 rfl ?_
                    refine xe_getP dX5_takeSum_67 flX5_26 (st7 hs) (by decide) rfl hI3 ?_
                    refine xe_iload dX5_takeSum_70 rfl ?_
                    refine xe_iconst dX5_takeSum_72 kc_0 ?_
                    refine xe_callVIn (d' := 0) (y' := mX3_emit) dX5_takeSum_73 mlX5_150 mvX3_emit rfl (st10 hs) (by decide) rfl (by omega) (by decide) (Nat.le_of_ble_eq_true rfl) (b_emit10 l g _ hs hnb hnb2 _ _) rfl (fun g8v g8 g8q => ?_)
                    have hs : q_Stat g8 := q_Stat_2 g8q.2.1.1 hs
                    have hb := bad_em hb g8q.2
                    have hI2 := em_P g8q.2.1 hI2
                    have hI3 := em_P g8q.2.1 hI3
                    refine xe_pop dX5_takeSum_76 rfl ?_
                    refine xn_iinc dX5_takeSum_77 rfl kc_1 ?_
                    refine xe_goto (tgt := 8) dX5_takeSum_80 rfl ?_
                    refine xe_locals (L' := [(0, .ref 7), (1, .int (nI dep)), (2, .int (nI 0)), (3, .int (nI (i + 1)))]) (And.intro rfl (And.intro rfl (And.intro rfl (And.intro rfl trivial)))) ?_
                    exact po_takeSum10 l g _ hs (by omega) ⟨rfl, hb⟩
                  · omega
              · omega
        | inr x =>
          obtain ⟨g1, g2, g3, g4, g5⟩ := hG _ _ hu
          refine xe_iload_n dX5_takeSum_8 rfl ?_
          refine xe_sipush dX5_takeSum_9 ks_400 ?_
          refine xn_icmp_ge (tgt := 83) dX5_takeSum_12 rfl (by omega) (by omega) (fun c1 => ?_) (fun c1 => ?_)
          · omega
          · refine xe_iload_n dX5_takeSum_15 rfl ?_
            refine xn_if_eq (tgt := 83) dX5_takeSum_16 rfl (by omega) (fun c2 => ?_) (fun c2 => ?_)
            · omega
            · refine xe_aload_n dX5_takeSum_19 rfl ?_
              refine xe_getIv dX5_takeSum_20 flX5_41 (st7 hs) (by decide) rfl (v := nI 43) (hk5) ?_
              refine xe_bipush dX5_takeSum_23 kb_43 ?_
              refine xn_icmp_eq (tgt := 37) dX5_takeSum_25 rfl (by omega) (by omega) (fun c3 => ?_) (fun c3 => ?_)
              · refine xe_aload_n dX5_takeSum_37 rfl ?_
                refine xe_getIv dX5_takeSum_38 flX5_41 (st7 hs) (by decide) rfl (v := nI 43) (hk5) ?_
                refine xe_istore dX5_takeSum_41 (by decide) rfl ?_
                refine xe_aload_n dX5_takeSum_43 rfl ?_
                refine xe_iload dX5_takeSum_44 rfl ?_
                refine xe_callVIq (d' := 0) (y' := mX5_take) dX5_takeSum_46 mlX5_63 mvX5_take rfl (st7 hs) (by decide) rfl (by omega) (by decide) (Nat.le_of_ble_eq_true rfl) (g_take10 l g _ hs hR hn 8 43 rfl (by decide) (by decide) (by decide) (tx_ck_0 ha (by omega))) rfl (fun g4 g4q => ?_)
                have hR := gd_R (by decide : 10 = 10 ∨ 10 = 22) hR g4q
                have hs := gd_s hs g4q
                have hg := gd_tk hg g4q
                have hn := gd_n hg
                have h4 := hR.2.2.2.2.1
                have hI2 := hR.1
                have hI3 := hR.2.1
                refine xn_if_eq (tgt := 64) dX5_takeSum_49 rfl (by omega) (fun c5 => ?_) (fun c5 => ?_)
                · omega
                · refine xe_aload_n dX5_takeSum_52 rfl ?_
                  refine xe_iload_n dX5_takeSum_53 rfl ?_
                  refine xe_callVIq (d' := d) (y' := mX5_takePart) dX5_takeSum_54 mlX5_157 mvX5_takePart rfl (st7 hs) (by decide) rfl (by omega) (by decide) (Nat.le_of_ble_eq_true rfl) ((show q_Ct l g d _ _ _ (fun r h1 => r = some (.int (nI 1)) ∧ q_gd K m 10 _ _ x h1) from by have hC := hU _ hs _ _ hR hn (by first | omega | (simp only [List.length_append, List.length_nil, List.length_cons]; omega)); rw [hu] at hC; exact hC)) rfl (fun g6 g6q => ?_)
                  have hR := gd_R (by decide : 10 = 10 ∨ 10 = 22) hR g6q
                  have hs := gd_s hs g6q
                  have hg := gd_app hg g6q
                  have hn := gd_n hg
                  have h4 := hR.2.2.2.2.1
                  have hI2 := hR.1
                  have hI3 := hR.2.1
                  refine xn_if_eq (tgt := 64) dX5_takeSum_57 rfl (by omega) (fun c7 => ?_) (fun c7 => ?_)
                  · omega
                  · refine xe_iconst dX5_takeSum_60 kc_1 ?_
                    refine xe_goto (tgt := 65) dX5_takeSum_61 rfl ?_
                    refine xe_istore_n (i := 2) dX5_takeSum_65 rfl (by decide) rfl ?_
                    refine xe_aload_n dX5_takeSum_66 rfl ?_
                    refine xe_getP dX5_takeSum_67 flX5_26 (st7 hs) (by decide) rfl hI3 ?_
                    refine xe_iload dX5_takeSum_70 rfl ?_
                    refine xe_iconst dX5_takeSum_72 kc_0 ?_
                    refine xe_callVIq (d' := 0) (y' := mX3_emit) dX5_takeSum_73 mlX5_150 mvX3_emit rfl (st10 hs) (by decide) rfl (by omega) (by decide) (Nat.le_of_ble_eq_true rfl) (g_emit10 l g _ hs hR hn (by first | omega | (simp only [List.length_append, List.length_nil, List.length_cons]; omega)) (tx_op (tk_T K t)) _ (nI 0) _ (by rw [ha]; rfl) rfl) rfl (fun g8 g8q => ?_)
                    have hR := gd_R (by decide : 10 = 10 ∨ 10 = 22) hR g8q
                    have hs := gd_s hs g8q
                    have hg := gd_app hg g8q
                    have hn := gd_n hg
                    have h4 := hR.2.2.2.2.1
                    have hI2 := hR.1
                    have hI3 := hR.2.1
                    refine xe_pop dX5_takeSum_76 rfl ?_
                    refine xn_iinc dX5_takeSum_77 rfl kc_1 ?_
                    refine xe_goto (tgt := 8) dX5_takeSum_80 rfl ?_
                    refine xe_locals (L' := [(0, .ref 7), (1, .int (nI dep)), (2, .int (nI 1)), (3, .int (nI (i + 1)))]) (And.intro rfl (And.intro rfl (And.intro rfl (And.intro rfl trivial)))) ?_
                    refine ih (i + 1) (c ++ x.1 ++ [(tx_op (tk_T K t), nI 0)]) x.2 _ hs (by simpa using hg) hR ?_ (by omega) (by omega)
                    rw [List.length_append, List.length_append]
                    show n0 + (c.length + x.1.length + 1) ≤ _
                    omega
              · omega
    by_cases hb : tk_T K t = 9
    · rw [if_pos (Or.inr hb)]
      have hk5 : q_I h 7 5 = nI 45 := h5.trans (by rw [hb]; rfl)
      by_cases h400 : 400 ≤ t
      · rw [if_pos h400]
        refine xe_iload_n dX5_takeSum_8 rfl ?_
        refine xe_sipush dX5_takeSum_9 ks_400 ?_
        refine xn_icmp_ge (tgt := 83) dX5_takeSum_12 rfl (by omega) (by omega) (fun c1 => ?_) (fun c1 => ?_)
        · omega
        · refine xe_iload_n dX5_takeSum_15 rfl ?_
          refine xn_if_eq (tgt := 83) dX5_takeSum_16 rfl (by omega) (fun c2 => ?_) (fun c2 => ?_)
          · omega
          · refine xe_aload_n dX5_takeSum_19 rfl ?_
            refine xe_getIv dX5_takeSum_20 flX5_41 (st7 hs) (by decide) rfl (v := nI 45) (hk5) ?_
            refine xe_bipush dX5_takeSum_23 kb_43 ?_
            refine xn_icmp_eq (tgt := 37) dX5_takeSum_25 rfl (by omega) (by omega) (fun c3 => ?_) (fun c3 => ?_)
            · omega
            · refine xe_aload_n dX5_takeSum_28 rfl ?_
              refine xe_getIv dX5_takeSum_29 flX5_41 (st7 hs) (by decide) rfl (v := nI 45) (hk5) ?_
              refine xe_bipush dX5_takeSum_32 kb_45 ?_
              refine xn_icmp_ne (tgt := 83) dX5_takeSum_34 rfl (by omega) (by omega) (fun c4 => ?_) (fun c4 => ?_)
              · omega
              · refine xe_aload_n dX5_takeSum_37 rfl ?_
                refine xe_getIv dX5_takeSum_38 flX5_41 (st7 hs) (by decide) rfl (v := nI 45) (hk5) ?_
                refine xe_istore dX5_takeSum_41 (by decide) rfl ?_
                refine xe_aload_n dX5_takeSum_43 rfl ?_
                refine xe_iload dX5_takeSum_44 rfl ?_
                refine xe_callVIq (d' := 0) (y' := mX5_take) dX5_takeSum_46 mlX5_63 mvX5_take rfl (st7 hs) (by decide) rfl (by omega) (by decide) (Nat.le_of_ble_eq_true rfl) (b_take10 l g _ hs hR hn (by first | omega | (simp only [List.length_append, List.length_nil, List.length_cons]; omega)) 9 45 rfl (by decide) (by decide) (tx_ck_2 hb h400)) rfl (fun g5 g5q => ?_)
                have hs := bad_s hs g5q
                have hb := gd_bad hg (by first | omega | (simp only [List.length_append, List.length_nil, List.length_cons]; omega)) g5q
                obtain ⟨nb, hnb, hnb2⟩ := g5q.1.2.2
                have hI2 := em_P g5q.1 hI2
                have hI3 := em_P g5q.1 hI3
                refine xn_if_eq (tgt := 64) dX5_takeSum_49 rfl (by omega) (fun c6 => ?_) (fun c6 => ?_)
                · refine xe_iconst dX5_takeSum_64 kc_0 ?_
                  refine xe_istore_n (i := 2) dX5_takeSum_65 rfl (by decide) rfl ?_
                  refine xe_aload_n dX5_takeSum_66 rfl ?_
                  refine xe_getP dX5_takeSum_67 flX5_26 (st7 hs) (by decide) rfl hI3 ?_
                  refine xe_iload dX5_takeSum_70 rfl ?_
                  refine xe_iconst dX5_takeSum_72 kc_0 ?_
                  refine xe_callVIn (d' := 0) (y' := mX3_emit) dX5_takeSum_73 mlX5_150 mvX3_emit rfl (st10 hs) (by decide) rfl (by omega) (by decide) (Nat.le_of_ble_eq_true rfl) (b_emit10 l g _ hs hnb hnb2 _ _) rfl (fun g7v g7 g7q => ?_)
                  have hs : q_Stat g7 := q_Stat_2 g7q.2.1.1 hs
                  have hb := bad_em hb g7q.2
                  have hI2 := em_P g7q.2.1 hI2
                  have hI3 := em_P g7q.2.1 hI3
                  refine xe_pop dX5_takeSum_76 rfl ?_
                  refine xn_iinc dX5_takeSum_77 rfl kc_1 ?_
                  refine xe_goto (tgt := 8) dX5_takeSum_80 rfl ?_
                  refine xe_locals (L' := [(0, .ref 7), (1, .int (nI dep)), (2, .int (nI 0)), (3, .int (nI (i + 1)))]) (And.intro rfl (And.intro rfl (And.intro rfl (And.intro rfl trivial)))) ?_
                  exact po_takeSum10 l g _ hs (by omega) ⟨rfl, hb⟩
                · omega
      · rw [if_neg h400]
        cases hu : U (t + 1) with
        | inl er =>
          refine xe_iload_n dX5_takeSum_8 rfl ?_
          refine xe_sipush dX5_takeSum_9 ks_400 ?_
          refine xn_icmp_ge (tgt := 83) dX5_takeSum_12 rfl (by omega) (by omega) (fun c1 => ?_) (fun c1 => ?_)
          · omega
          · refine xe_iload_n dX5_takeSum_15 rfl ?_
            refine xn_if_eq (tgt := 83) dX5_takeSum_16 rfl (by omega) (fun c2 => ?_) (fun c2 => ?_)
            · omega
            · refine xe_aload_n dX5_takeSum_19 rfl ?_
              refine xe_getIv dX5_takeSum_20 flX5_41 (st7 hs) (by decide) rfl (v := nI 45) (hk5) ?_
              refine xe_bipush dX5_takeSum_23 kb_43 ?_
              refine xn_icmp_eq (tgt := 37) dX5_takeSum_25 rfl (by omega) (by omega) (fun c3 => ?_) (fun c3 => ?_)
              · omega
              · refine xe_aload_n dX5_takeSum_28 rfl ?_
                refine xe_getIv dX5_takeSum_29 flX5_41 (st7 hs) (by decide) rfl (v := nI 45) (hk5) ?_
                refine xe_bipush dX5_takeSum_32 kb_45 ?_
                refine xn_icmp_ne (tgt := 83) dX5_takeSum_34 rfl (by omega) (by omega) (fun c4 => ?_) (fun c4 => ?_)
                · omega
                · refine xe_aload_n dX5_takeSum_37 rfl ?_
                  refine xe_getIv dX5_takeSum_38 flX5_41 (st7 hs) (by decide) rfl (v := nI 45) (hk5) ?_
                  refine xe_istore dX5_takeSum_41 (by decide) rfl ?_
                  refine xe_aload_n dX5_takeSum_43 rfl ?_
                  refine xe_iload dX5_takeSum_44 rfl ?_
                  refine xe_callVIq (d' := 0) (y' := mX5_take) dX5_takeSum_46 mlX5_63 mvX5_take rfl (st7 hs) (by decide) rfl (by omega) (by decide) (Nat.le_of_ble_eq_true rfl) (g_take10 l g _ hs hR hn 9 45 rfl (by decide) (by decide) (by decide) (tx_ck_0 hb (by omega))) rfl (fun g5 g5q => ?_)
                  have hR := gd_R (by decide : 10 = 10 ∨ 10 = 22) hR g5q
                  have hs := gd_s hs g5q
                  have hg := gd_tk hg g5q
                  have hn := gd_n hg
                  have h4 := hR.2.2.2.2.1
                  have hI2 := hR.1
                  have hI3 := hR.2.1
                  refine xn_if_eq (tgt := 64) dX5_takeSum_49 rfl (by omega) (fun c6 => ?_) (fun c6 => ?_)
                  · omega
                  · refine xe_aload_n dX5_takeSum_52 rfl ?_
                    refine xe_iload_n dX5_takeSum_53 rfl ?_
                    refine xe_callVIq (d' := d) (y' := mX5_takePart) dX5_takeSum_54 mlX5_157 mvX5_takePart rfl (st7 hs) (by decide) rfl (by omega) (by decide) (Nat.le_of_ble_eq_true rfl) ((show q_Ct l g d _ _ _ (fun r h1 => r = some (.int (nI 0)) ∧ q_bad K 10 _ er h1) from by have hC := hU _ hs _ _ hR hn (by first | omega | (simp only [List.length_append, List.length_nil, List.length_cons]; omega)); rw [hu] at hC; exact hC)) rfl (fun g7 g7q => ?_)
                    have hs := bad_s hs g7q
                    have hb := gd_bad hg (by first | omega | (simp only [List.length_append, List.length_nil, List.length_cons]; omega)) g7q
                    obtain ⟨nb, hnb, hnb2⟩ := g7q.1.2.2
                    have hI2 := em_P g7q.1 hI2
                    have hI3 := em_P g7q.1 hI3
                    refine xn_if_eq (tgt := 64) dX5_takeSum_57 rfl (by omega) (fun c8 => ?_) (fun c8 => ?_)
                    · refine xe_iconst dX5_takeSum_64 kc_0 ?_
                      refine xe_istore_n (i := 2) dX5_takeSum_65 rfl (by decide) rfl ?_
                      refine xe_aload_n dX5_takeSum_66 rfl ?_
                      refine xe_getP dX5_takeSum_67 flX5_26 (st7 hs) (by decide) rfl hI3 ?_
                      refine xe_iload dX5_takeSum_70 rfl ?_
                      refine xe_iconst dX5_takeSum_72 kc_0 ?_
                      refine xe_callVIn (d' := 0) (y' := mX3_emit) dX5_takeSum_73 mlX5_150 mvX3_emit rfl (st10 hs) (by decide) rfl (by omega) (by decide) (Nat.le_of_ble_eq_true rfl) (b_emit10 l g _ hs hnb hnb2 _ _) rfl (fun g9v g9 g9q => ?_)
                      have hs : q_Stat g9 := q_Stat_2 g9q.2.1.1 hs
                      have hb := bad_em hb g9q.2
                      have hI2 := em_P g9q.2.1 hI2
                      have hI3 := em_P g9q.2.1 hI3
                      refine xe_pop dX5_takeSum_76 rfl ?_
                      refine xn_iinc dX5_takeSum_77 rfl kc_1 ?_
                      refine xe_goto (tgt := 8) dX5_takeSum_80 rfl ?_
                      refine xe_locals (L' := [(0, .ref 7), (1, .int (nI dep)), (2, .int (nI 0)), (3, .int (nI (i + 1)))]) (And.intro rfl (And.intro rfl (And.intro rfl (And.intro rfl trivial)))) ?_
                      exact po_takeSum10 l g _ hs (by omega) ⟨rfl, hb⟩
                    · omega
        | inr x =>
          obtain ⟨g1, g2, g3, g4, g5⟩ := hG _ _ hu
          refine xe_iload_n dX5_takeSum_8 rfl ?_
          refine xe_sipush dX5_takeSum_9 ks_400 ?_
          refine xn_icmp_ge (tgt := 83) dX5_takeSum_12 rfl (by omega) (by omega) (fun c1 => ?_) (fun c1 => ?_)
          · omega
          · refine xe_iload_n dX5_takeSum_15 rfl ?_
            refine xn_if_eq (tgt := 83) dX5_takeSum_16 rfl (by omega) (fun c2 => ?_) (fun c2 => ?_)
            · omega
            · refine xe_aload_n dX5_takeSum_19 rfl ?_
              refine xe_getIv dX5_takeSum_20 flX5_41 (st7 hs) (by decide) rfl (v := nI 45) (hk5) ?_
              refine xe_bipush dX5_takeSum_23 kb_43 ?_
              refine xn_icmp_eq (tgt := 37) dX5_takeSum_25 rfl (by omega) (by omega) (fun c3 => ?_) (fun c3 => ?_)
              · omega
              · refine xe_aload_n dX5_takeSum_28 rfl ?_
                refine xe_getIv dX5_takeSum_29 flX5_41 (st7 hs) (by decide) rfl (v := nI 45) (hk5) ?_
                refine xe_bipush dX5_takeSum_32 kb_45 ?_
                refine xn_icmp_ne (tgt := 83) dX5_takeSum_34 rfl (by omega) (by omega) (fun c4 => ?_) (fun c4 => ?_)
                · omega
                · refine xe_aload_n dX5_takeSum_37 rfl ?_
                  refine xe_getIv dX5_takeSum_38 flX5_41 (st7 hs) (by decide) rfl (v := nI 45) (hk5) ?_
                  refine xe_istore dX5_takeSum_41 (by decide) rfl ?_
                  refine xe_aload_n dX5_takeSum_43 rfl ?_
                  refine xe_iload dX5_takeSum_44 rfl ?_
                  refine xe_callVIq (d' := 0) (y' := mX5_take) dX5_takeSum_46 mlX5_63 mvX5_take rfl (st7 hs) (by decide) rfl (by omega) (by decide) (Nat.le_of_ble_eq_true rfl) (g_take10 l g _ hs hR hn 9 45 rfl (by decide) (by decide) (by decide) (tx_ck_0 hb (by omega))) rfl (fun g5 g5q => ?_)
                  have hR := gd_R (by decide : 10 = 10 ∨ 10 = 22) hR g5q
                  have hs := gd_s hs g5q
                  have hg := gd_tk hg g5q
                  have hn := gd_n hg
                  have h4 := hR.2.2.2.2.1
                  have hI2 := hR.1
                  have hI3 := hR.2.1
                  refine xn_if_eq (tgt := 64) dX5_takeSum_49 rfl (by omega) (fun c6 => ?_) (fun c6 => ?_)
                  · omega
                  · refine xe_aload_n dX5_takeSum_52 rfl ?_
                    refine xe_iload_n dX5_takeSum_53 rfl ?_
                    refine xe_callVIq (d' := d) (y' := mX5_takePart) dX5_takeSum_54 mlX5_157 mvX5_takePart rfl (st7 hs) (by decide) rfl (by omega) (by decide) (Nat.le_of_ble_eq_true rfl) ((show q_Ct l g d _ _ _ (fun r h1 => r = some (.int (nI 1)) ∧ q_gd K m 10 _ _ x h1) from by have hC := hU _ hs _ _ hR hn (by first | omega | (simp only [List.length_append, List.length_nil, List.length_cons]; omega)); rw [hu] at hC; exact hC)) rfl (fun g7 g7q => ?_)
                    have hR := gd_R (by decide : 10 = 10 ∨ 10 = 22) hR g7q
                    have hs := gd_s hs g7q
                    have hg := gd_app hg g7q
                    have hn := gd_n hg
                    have h4 := hR.2.2.2.2.1
                    have hI2 := hR.1
                    have hI3 := hR.2.1
                    refine xn_if_eq (tgt := 64) dX5_takeSum_57 rfl (by omega) (fun c8 => ?_) (fun c8 => ?_)
                    · omega
                    · refine xe_iconst dX5_takeSum_60 kc_1 ?_
                      refine xe_goto (tgt := 65) dX5_takeSum_61 rfl ?_
                      refine xe_istore_n (i := 2) dX5_takeSum_65 rfl (by decide) rfl ?_
                      refine xe_aload_n dX5_takeSum_66 rfl ?_
                      refine xe_getP dX5_takeSum_67 flX5_26 (st7 hs) (by decide) rfl hI3 ?_
                      refine xe_iload dX5_takeSum_70 rfl ?_
                      refine xe_iconst dX5_takeSum_72 kc_0 ?_
                      refine xe_callVIq (d' := 0) (y' := mX3_emit) dX5_takeSum_73 mlX5_150 mvX3_emit rfl (st10 hs) (by decide) rfl (by omega) (by decide) (Nat.le_of_ble_eq_true rfl) (g_emit10 l g _ hs hR hn (by first | omega | (simp only [List.length_append, List.length_nil, List.length_cons]; omega)) (tx_op (tk_T K t)) _ (nI 0) _ (by rw [hb]; rfl) rfl) rfl (fun g9 g9q => ?_)
                      have hR := gd_R (by decide : 10 = 10 ∨ 10 = 22) hR g9q
                      have hs := gd_s hs g9q
                      have hg := gd_app hg g9q
                      have hn := gd_n hg
                      have h4 := hR.2.2.2.2.1
                      have hI2 := hR.1
                      have hI3 := hR.2.1
                      refine xe_pop dX5_takeSum_76 rfl ?_
                      refine xn_iinc dX5_takeSum_77 rfl kc_1 ?_
                      refine xe_goto (tgt := 8) dX5_takeSum_80 rfl ?_
                      refine xe_locals (L' := [(0, .ref 7), (1, .int (nI dep)), (2, .int (nI 1)), (3, .int (nI (i + 1)))]) (And.intro rfl (And.intro rfl (And.intro rfl (And.intro rfl trivial)))) ?_
                      refine ih (i + 1) (c ++ x.1 ++ [(tx_op (tk_T K t), nI 0)]) x.2 _ hs (by simpa using hg) hR ?_ (by omega) (by omega)
                      rw [List.length_append, List.length_append]
                      show n0 + (c.length + x.1.length + 1) ≤ _
                      omega
    · rw [if_neg (fun q => q.elim ha hb)]
      refine xe_iload_n dX5_takeSum_8 rfl ?_
      refine xe_sipush dX5_takeSum_9 ks_400 ?_
      refine xn_icmp_ge (tgt := 83) dX5_takeSum_12 rfl (by omega) (by omega) (fun c1 => ?_) (fun c1 => ?_)
      · omega
      · refine xe_iload_n dX5_takeSum_15 rfl ?_
        refine xn_if_eq (tgt := 83) dX5_takeSum_16 rfl (by omega) (fun c2 => ?_) (fun c2 => ?_)
        · omega
        · refine xe_aload_n dX5_takeSum_19 rfl ?_
          refine xe_getIv dX5_takeSum_20 flX5_41 (st7 hs) (by decide) rfl (v := (q_kap (tk_T K t))) (h5) ?_
          refine xe_bipush dX5_takeSum_23 kb_43 ?_
          refine xe_icmp_eq (tgt := 37) dX5_takeSum_25 rfl (fun c3 => ?_) (fun c3 => ?_)
          · exact absurd (q_kap_inj (b := 8) hok (by decide) (by decide) c3) ha
          · refine xe_aload_n dX5_takeSum_28 rfl ?_
            refine xe_getIv dX5_takeSum_29 flX5_41 (st7 hs) (by decide) rfl (v := (q_kap (tk_T K t))) (h5) ?_
            refine xe_bipush dX5_takeSum_32 kb_45 ?_
            refine xe_icmp_ne (tgt := 83) dX5_takeSum_34 rfl (fun c4 => ?_) (fun c4 => ?_)
            · refine xe_iload_n dX5_takeSum_83 rfl ?_
              refine xe_ireturn dX5_takeSum_84 rfl (by first | rfl | decide +kernel) ?_
              exact ⟨rfl, hg⟩
            · exact absurd (q_kap_inj (b := 9) hok (by decide) (by decide) c4) hb
theorem xc_takeSum10 (l : Launch) (g : q_GP) {K : q_TK} {m d dep e : Nat} {U : Nat → q_XR} (hU : q_XC l g mX5_takePart 10 K m d dep U) (hG : tx_good e U) : q_XC l g mX5_takeSum 10 K m (d + 1) dep (tx_seq (tk_T K) 8 9 U) := by
  intro h hs t n hR hn hnt
  have hg := gd_r hR hn
  have hn := gd_n hg
  have h4 := hR.2.2.2.2.1
  have hI2 := hR.1
  have hI3 := hR.2.1
  have h4m := hR.2.2.1.1
  have htm := hR.2.2.2.1
  unfold tx_seq
  cases hu : U t with
  | inl er =>
    refine q_CtV mvX5_takeSum (Nat.le_of_ble_eq_true rfl) ?_
    refine xe_aload_n dX5_takeSum_0 rfl ?_
    refine xe_iload_n dX5_takeSum_1 rfl ?_
    refine xe_callVIq (d' := d) (y' := mX5_takePart) dX5_takeSum_2 mlX5_157 mvX5_takePart rfl (st7 hs) (by decide) rfl (by omega) (by decide) (Nat.le_of_ble_eq_true rfl) ((show q_Ct l g d _ _ _ (fun r h1 => r = some (.int (nI 0)) ∧ q_bad K 10 _ er h1) from by have hC := hU _ hs _ _ hR hn (by first | omega | (simp only [List.length_append, List.length_nil, List.length_cons]; omega)); rw [hu] at hC; exact hC)) rfl (fun g1 g1q => ?_)
    have hs := bad_s hs g1q
    have hb := gd_bad hg (by first | omega | (simp only [List.length_append, List.length_nil, List.length_cons]; omega)) g1q
    obtain ⟨nb, hnb, hnb2⟩ := g1q.1.2.2
    have hI2 := em_P g1q.1 hI2
    have hI3 := em_P g1q.1 hI3
    refine xe_istore_n (i := 2) dX5_takeSum_5 rfl (by decide) rfl ?_
    refine xe_iconst dX5_takeSum_6 kc_0 ?_
    refine xe_istore_n (i := 3) dX5_takeSum_7 rfl (by decide) rfl ?_
    refine xe_locals (L' := [(0, .ref 7), (1, .int (nI dep)), (2, .int (nI 0)), (3, .int (nI 0))]) (And.intro rfl (And.intro rfl (And.intro rfl (And.intro rfl trivial)))) ?_
    exact po_takeSum10 l g _ hs (by decide) ⟨rfl, hb⟩
  | inr x =>
    obtain ⟨g1, g2, g3, g4, g5⟩ := hG _ _ hu
    refine q_CtV mvX5_takeSum (Nat.le_of_ble_eq_true rfl) ?_
    refine xe_aload_n dX5_takeSum_0 rfl ?_
    refine xe_iload_n dX5_takeSum_1 rfl ?_
    refine xe_callVIq (d' := d) (y' := mX5_takePart) dX5_takeSum_2 mlX5_157 mvX5_takePart rfl (st7 hs) (by decide) rfl (by omega) (by decide) (Nat.le_of_ble_eq_true rfl) ((show q_Ct l g d _ _ _ (fun r h1 => r = some (.int (nI 1)) ∧ q_gd K m 10 _ _ x h1) from by have hC := hU _ hs _ _ hR hn (by first | omega | (simp only [List.length_append, List.length_nil, List.length_cons]; omega)); rw [hu] at hC; exact hC)) rfl (fun g1 g1q => ?_)
    have hR := gd_R (by decide : 10 = 10 ∨ 10 = 22) hR g1q
    have hs := gd_s hs g1q
    have hg := gd_app hg g1q
    have hn := gd_n hg
    have h4 := hR.2.2.2.2.1
    have hI2 := hR.1
    have hI3 := hR.2.1
    refine xe_istore_n (i := 2) dX5_takeSum_5 rfl (by decide) rfl ?_
    refine xe_iconst dX5_takeSum_6 kc_0 ?_
    refine xe_istore_n (i := 3) dX5_takeSum_7 rfl (by decide) rfl ?_
    refine xe_locals (L' := [(0, .ref 7), (1, .int (nI dep)), (2, .int (nI 1)), (3, .int (nI 0))]) (And.intro rfl (And.intro rfl (And.intro rfl (And.intro rfl trivial)))) ?_
    exact pl_takeSum10 l g hU hG 401 0 x.1 x.2 _ hs hg hR (by omega) rfl (by omega)
theorem xc_un010 (l : Launch) (g : q_GP) {K : q_TK} {m : Nat} : q_XC l g mX5_takeUnit 10 K m 1 6 (tx_un (tk_T K) (tk_V K) 0) := by
  intro h hs t n hR hn hnt
  have hg := gd_r hR hn
  have hn := gd_n hg
  have h4 := hR.2.2.2.2.1
  have hI2 := hR.1
  have hI3 := hR.2.1
  have h5 := hR.2.2.2.2.2
  have h4m := hR.2.2.1.1
  have htm := hR.2.2.2.1
  have hok := (hR.2.2.1.2.2 t htm).1
  rw [tx_un_0]
  by_cases h2 : tk_T K t = 2
  · rw [if_pos h2]
    have hk5 : q_I h 7 5 = nI 2 := h5.trans (by rw [h2]; rfl)
    have hv := (hR.2.2.1.2.2 t htm).2.2.2.2.2 h2
    by_cases h400 : 400 ≤ t
    · rw [if_pos h400]
      refine q_CtV mvX5_takeUnit (Nat.le_of_ble_eq_true rfl) ?_
      refine xe_aload_n dX5_takeUnit_0 rfl ?_
      refine xe_getIv dX5_takeUnit_1 flX5_41 (st7 hs) (by decide) rfl (v := nI 2) (hk5) ?_
      refine xe_iconst dX5_takeUnit_4 kc_2 ?_
      refine xn_icmp_ne (tgt := 36) dX5_takeUnit_5 rfl (by omega) (by omega) (fun c1 => ?_) (fun c1 => ?_)
      · omega
      · refine xe_aload_n dX5_takeUnit_8 rfl ?_
        refine xe_getP dX5_takeUnit_9 flX5_26 (st7 hs) (by decide) rfl hI3 ?_
        refine xe_iconst dX5_takeUnit_12 kc_0 ?_
        refine xe_aload_n dX5_takeUnit_13 rfl ?_
        refine xe_getP dX5_takeUnit_14 flX5_22 (st7 hs) (by decide) rfl hI2 ?_
        refine xe_getP dX5_takeUnit_17 flX5_67 (st1 hs) (by decide) rfl (sp1_4 hs) ?_
        refine xe_aload_n dX5_takeUnit_20 rfl ?_
        refine xe_getIv dX5_takeUnit_21 flX5_33 (st7 hs) (by decide) rfl (v := nI t) (h4) ?_
        refine xn_laldv dX5_takeUnit_24 (st5 hs) (by omega) (by decide) (v := (q_J h 5 t)) (rfl) ?_
        refine xe_l2i dX5_takeUnit_25 rfl ?_
        refine xe_callVIq (d' := 0) (y' := mX3_emit) dX5_takeUnit_26 mlX5_150 mvX3_emit rfl (st10 hs) (by decide) rfl (by omega) (by decide) (Nat.le_of_ble_eq_true rfl) (g_emit10 l g _ hs hR hn (by first | omega | (simp only [List.length_append, List.length_nil, List.length_cons]; omega)) 0 _ (nI (tk_V K t)) _ rfl hv.1) rfl (fun g2 g2q => ?_)
        have hR := gd_R (by decide : 10 = 10 ∨ 10 = 22) hR g2q
        have hs := gd_s hs g2q
        have hg := gd_app hg g2q
        have hn := gd_n hg
        have h4 := hR.2.2.2.2.1
        have hI2 := hR.1
        have hI3 := hR.2.1
        refine xe_pop dX5_takeUnit_29 rfl ?_
        refine xe_aload_n dX5_takeUnit_30 rfl ?_
        refine xe_iconst dX5_takeUnit_31 kc_2 ?_
        refine xe_callVIq (d' := 0) (y' := mX5_take) dX5_takeUnit_32 mlX5_63 mvX5_take rfl (st7 hs) (by decide) rfl (by omega) (by decide) (Nat.le_of_ble_eq_true rfl) (b_take10 l g _ hs hR hn (by first | omega | (simp only [List.length_append, List.length_nil, List.length_cons]; omega)) 2 2 rfl (by decide) (by decide) (tx_ck_2 h2 h400)) rfl (fun g3 g3q => ?_)
        have hs := bad_s hs g3q
        have hb := gd_bad hg (by first | omega | (simp only [List.length_append, List.length_nil, List.length_cons]; omega)) g3q
        obtain ⟨nb, hnb, hnb2⟩ := g3q.1.2.2
        have hI2 := em_P g3q.1 hI2
        have hI3 := em_P g3q.1 hI3
        refine xe_ireturn dX5_takeUnit_35 rfl (by first | rfl | decide +kernel) ?_
        exact ⟨rfl, hb⟩
    · rw [if_neg h400]
      refine q_CtV mvX5_takeUnit (Nat.le_of_ble_eq_true rfl) ?_
      refine xe_aload_n dX5_takeUnit_0 rfl ?_
      refine xe_getIv dX5_takeUnit_1 flX5_41 (st7 hs) (by decide) rfl (v := nI 2) (hk5) ?_
      refine xe_iconst dX5_takeUnit_4 kc_2 ?_
      refine xn_icmp_ne (tgt := 36) dX5_takeUnit_5 rfl (by omega) (by omega) (fun c1 => ?_) (fun c1 => ?_)
      · omega
      · refine xe_aload_n dX5_takeUnit_8 rfl ?_
        refine xe_getP dX5_takeUnit_9 flX5_26 (st7 hs) (by decide) rfl hI3 ?_
        refine xe_iconst dX5_takeUnit_12 kc_0 ?_
        refine xe_aload_n dX5_takeUnit_13 rfl ?_
        refine xe_getP dX5_takeUnit_14 flX5_22 (st7 hs) (by decide) rfl hI2 ?_
        refine xe_getP dX5_takeUnit_17 flX5_67 (st1 hs) (by decide) rfl (sp1_4 hs) ?_
        refine xe_aload_n dX5_takeUnit_20 rfl ?_
        refine xe_getIv dX5_takeUnit_21 flX5_33 (st7 hs) (by decide) rfl (v := nI t) (h4) ?_
        refine xn_laldv dX5_takeUnit_24 (st5 hs) (by omega) (by decide) (v := (q_J h 5 t)) (rfl) ?_
        refine xe_l2i dX5_takeUnit_25 rfl ?_
        refine xe_callVIq (d' := 0) (y' := mX3_emit) dX5_takeUnit_26 mlX5_150 mvX3_emit rfl (st10 hs) (by decide) rfl (by omega) (by decide) (Nat.le_of_ble_eq_true rfl) (g_emit10 l g _ hs hR hn (by first | omega | (simp only [List.length_append, List.length_nil, List.length_cons]; omega)) 0 _ (nI (tk_V K t)) _ rfl hv.1) rfl (fun g2 g2q => ?_)
        have hR := gd_R (by decide : 10 = 10 ∨ 10 = 22) hR g2q
        have hs := gd_s hs g2q
        have hg := gd_app hg g2q
        have hn := gd_n hg
        have h4 := hR.2.2.2.2.1
        have hI2 := hR.1
        have hI3 := hR.2.1
        refine xe_pop dX5_takeUnit_29 rfl ?_
        refine xe_aload_n dX5_takeUnit_30 rfl ?_
        refine xe_iconst dX5_takeUnit_31 kc_2 ?_
        refine xe_callVIq (d' := 0) (y' := mX5_take) dX5_takeUnit_32 mlX5_63 mvX5_take rfl (st7 hs) (by decide) rfl (by omega) (by decide) (Nat.le_of_ble_eq_true rfl) (g_take10 l g _ hs hR hn 2 2 rfl (by decide) (by decide) (by decide) (tx_ck_0 h2 (by omega))) rfl (fun g3 g3q => ?_)
        have hR := gd_R (by decide : 10 = 10 ∨ 10 = 22) hR g3q
        have hs := gd_s hs g3q
        have hg := gd_tk hg g3q
        have hn := gd_n hg
        have h4 := hR.2.2.2.2.1
        have hI2 := hR.1
        have hI3 := hR.2.1
        refine xe_ireturn dX5_takeUnit_35 rfl (by first | rfl | decide +kernel) ?_
        exact ⟨rfl, hg⟩
  · rw [if_neg h2]
    by_cases hv : 31 ≤ tk_T K t ∧ tk_T K t ≤ 36
    · rw [if_pos hv]
      have ekn := q_kn_v hv
      have hk5 : q_I h 7 5 = nI (tk_T K t + 236) := h5.trans ((q_kap_n (by omega)).trans (congrArg nI ekn))
      by_cases h400 : 400 ≤ t
      · rw [if_pos h400]
        refine q_CtV mvX5_takeUnit (Nat.le_of_ble_eq_true rfl) ?_
        refine xe_aload_n dX5_takeUnit_0 rfl ?_
        refine xe_getIv dX5_takeUnit_1 flX5_41 (st7 hs) (by decide) rfl (v := nI (tk_T K t + 236)) (hk5) ?_
        refine xe_iconst dX5_takeUnit_4 kc_2 ?_
        refine xn_icmp_ne (tgt := 36) dX5_takeUnit_5 rfl (by omega) (by omega) (fun c1 => ?_) (fun c1 => ?_)
        · refine xe_aload_n dX5_takeUnit_36 rfl ?_
          refine xe_getIv dX5_takeUnit_37 flX5_41 (st7 hs) (by decide) rfl (v := nI (tk_T K t + 236)) (hk5) ?_
          refine xe_sipush dX5_takeUnit_40 ks_267 ?_
          refine xn_icmp_lt (tgt := 82) dX5_takeUnit_43 rfl (by omega) (by omega) (fun c2 => ?_) (fun c2 => ?_)
          · omega
          · refine xe_aload_n dX5_takeUnit_46 rfl ?_
            refine xe_getIv dX5_takeUnit_47 flX5_41 (st7 hs) (by decide) rfl (v := nI (tk_T K t + 236)) (hk5) ?_
            refine xe_sipush dX5_takeUnit_50 ks_272 ?_
            refine xn_icmp_gt (tgt := 82) dX5_takeUnit_53 rfl (by omega) (by omega) (fun c3 => ?_) (fun c3 => ?_)
            · omega
            · refine xe_aload_n dX5_takeUnit_56 rfl ?_
              refine xe_getP dX5_takeUnit_57 flX5_26 (st7 hs) (by decide) rfl hI3 ?_
              refine xe_iconst dX5_takeUnit_60 kc_1 ?_
              refine xe_aload_n dX5_takeUnit_61 rfl ?_
              refine xe_getIv dX5_takeUnit_62 flX5_41 (st7 hs) (by decide) rfl (v := nI (tk_T K t + 236)) (hk5) ?_
              refine xe_sipush dX5_takeUnit_65 ks_267 ?_
              refine xn_isub dX5_takeUnit_68 (by omega) ?_
              refine xe_callVIq (d' := 0) (y' := mX3_emit) dX5_takeUnit_69 mlX5_150 mvX3_emit rfl (st10 hs) (by decide) rfl (by omega) (by decide) (Nat.le_of_ble_eq_true rfl) (g_emit10 l g _ hs hR hn (by first | omega | (simp only [List.length_append, List.length_nil, List.length_cons]; omega)) 1 _ (nI (tk_T K t - 31)) _ rfl (congrArg nI (by omega))) rfl (fun g4 g4q => ?_)
              have hR := gd_R (by decide : 10 = 10 ∨ 10 = 22) hR g4q
              have hs := gd_s hs g4q
              have hg := gd_app hg g4q
              have hn := gd_n hg
              have h4 := hR.2.2.2.2.1
              have hI2 := hR.1
              have hI3 := hR.2.1
              refine xe_pop dX5_takeUnit_72 rfl ?_
              refine xe_aload_n dX5_takeUnit_73 rfl ?_
              refine xe_aload_n dX5_takeUnit_74 rfl ?_
              refine xe_getIv dX5_takeUnit_75 flX5_41 (st7 hs) (by decide) rfl (v := nI (q_kn (tk_T K t))) ((hR.2.2.2.2.2.trans (q_kap_n (a := tk_T K t) (by omega)))) ?_
              refine xe_callVIq (d' := 0) (y' := mX5_take) dX5_takeUnit_78 mlX5_63 mvX5_take rfl (st7 hs) (by decide) rfl (by omega) (by decide) (Nat.le_of_ble_eq_true rfl) (b_take10 l g _ hs hR hn (by first | omega | (simp only [List.length_append, List.length_nil, List.length_cons]; omega)) (tk_T K t) (q_kn (tk_T K t)) (rfl) hok (by omega) (tx_ck_2 rfl h400)) rfl (fun g5 g5q => ?_)
              have hs := bad_s hs g5q
              have hb := gd_bad hg (by first | omega | (simp only [List.length_append, List.length_nil, List.length_cons]; omega)) g5q
              obtain ⟨nb, hnb, hnb2⟩ := g5q.1.2.2
              have hI2 := em_P g5q.1 hI2
              have hI3 := em_P g5q.1 hI3
              refine xe_ireturn dX5_takeUnit_81 rfl (by first | rfl | decide +kernel) ?_
              exact ⟨rfl, hb⟩
        · omega
      · rw [if_neg h400]
        refine q_CtV mvX5_takeUnit (Nat.le_of_ble_eq_true rfl) ?_
        refine xe_aload_n dX5_takeUnit_0 rfl ?_
        refine xe_getIv dX5_takeUnit_1 flX5_41 (st7 hs) (by decide) rfl (v := nI (tk_T K t + 236)) (hk5) ?_
        refine xe_iconst dX5_takeUnit_4 kc_2 ?_
        refine xn_icmp_ne (tgt := 36) dX5_takeUnit_5 rfl (by omega) (by omega) (fun c1 => ?_) (fun c1 => ?_)
        · refine xe_aload_n dX5_takeUnit_36 rfl ?_
          refine xe_getIv dX5_takeUnit_37 flX5_41 (st7 hs) (by decide) rfl (v := nI (tk_T K t + 236)) (hk5) ?_
          refine xe_sipush dX5_takeUnit_40 ks_267 ?_
          refine xn_icmp_lt (tgt := 82) dX5_takeUnit_43 rfl (by omega) (by omega) (fun c2 => ?_) (fun c2 => ?_)
          · omega
          · refine xe_aload_n dX5_takeUnit_46 rfl ?_
            refine xe_getIv dX5_takeUnit_47 flX5_41 (st7 hs) (by decide) rfl (v := nI (tk_T K t + 236)) (hk5) ?_
            refine xe_sipush dX5_takeUnit_50 ks_272 ?_
            refine xn_icmp_gt (tgt := 82) dX5_takeUnit_53 rfl (by omega) (by omega) (fun c3 => ?_) (fun c3 => ?_)
            · omega
            · refine xe_aload_n dX5_takeUnit_56 rfl ?_
              refine xe_getP dX5_takeUnit_57 flX5_26 (st7 hs) (by decide) rfl hI3 ?_
              refine xe_iconst dX5_takeUnit_60 kc_1 ?_
              refine xe_aload_n dX5_takeUnit_61 rfl ?_
              refine xe_getIv dX5_takeUnit_62 flX5_41 (st7 hs) (by decide) rfl (v := nI (tk_T K t + 236)) (hk5) ?_
              refine xe_sipush dX5_takeUnit_65 ks_267 ?_
              refine xn_isub dX5_takeUnit_68 (by omega) ?_
              refine xe_callVIq (d' := 0) (y' := mX3_emit) dX5_takeUnit_69 mlX5_150 mvX3_emit rfl (st10 hs) (by decide) rfl (by omega) (by decide) (Nat.le_of_ble_eq_true rfl) (g_emit10 l g _ hs hR hn (by first | omega | (simp only [List.length_append, List.length_nil, List.length_cons]; omega)) 1 _ (nI (tk_T K t - 31)) _ rfl (congrArg nI (by omega))) rfl (fun g4 g4q => ?_)
              have hR := gd_R (by decide : 10 = 10 ∨ 10 = 22) hR g4q
              have hs := gd_s hs g4q
              have hg := gd_app hg g4q
              have hn := gd_n hg
              have h4 := hR.2.2.2.2.1
              have hI2 := hR.1
              have hI3 := hR.2.1
              refine xe_pop dX5_takeUnit_72 rfl ?_
              refine xe_aload_n dX5_takeUnit_73 rfl ?_
              refine xe_aload_n dX5_takeUnit_74 rfl ?_
              refine xe_getIv dX5_takeUnit_75 flX5_41 (st7 hs) (by decide) rfl (v := nI (q_kn (tk_T K t))) ((hR.2.2.2.2.2.trans (q_kap_n (a := tk_T K t) (by omega)))) ?_
              refine xe_callVIq (d' := 0) (y' := mX5_take) dX5_takeUnit_78 mlX5_63 mvX5_take rfl (st7 hs) (by decide) rfl (by omega) (by decide) (Nat.le_of_ble_eq_true rfl) (g_take10 l g _ hs hR hn (tk_T K t) (q_kn (tk_T K t)) (rfl) hok (by omega) (by omega) (tx_ck_0 rfl (by omega))) rfl (fun g5 g5q => ?_)
              have hR := gd_R (by decide : 10 = 10 ∨ 10 = 22) hR g5q
              have hs := gd_s hs g5q
              have hg := gd_tk hg g5q
              have hn := gd_n hg
              have h4 := hR.2.2.2.2.1
              have hI2 := hR.1
              have hI3 := hR.2.1
              refine xe_ireturn dX5_takeUnit_81 rfl (by first | rfl | decide +kernel) ?_
              exact ⟨rfl, hg⟩
        · omega
    · rw [if_neg hv]
      by_cases h6 : tk_T K t = 6
      · rw [if_pos h6]
        have hk5 : q_I h 7 5 = nI 40 := h5.trans (by rw [h6]; rfl)
        refine q_CtV mvX5_takeUnit (Nat.le_of_ble_eq_true rfl) ?_
        refine xe_aload_n dX5_takeUnit_0 rfl ?_
        refine xe_getIv dX5_takeUnit_1 flX5_41 (st7 hs) (by decide) rfl (v := nI 40) (hk5) ?_
        refine xe_iconst dX5_takeUnit_4 kc_2 ?_
        refine xn_icmp_ne (tgt := 36) dX5_takeUnit_5 rfl (by omega) (by omega) (fun c1 => ?_) (fun c1 => ?_)
        · refine xe_aload_n dX5_takeUnit_36 rfl ?_
          refine xe_getIv dX5_takeUnit_37 flX5_41 (st7 hs) (by decide) rfl (v := nI 40) (hk5) ?_
          refine xe_sipush dX5_takeUnit_40 ks_267 ?_
          refine xn_icmp_lt (tgt := 82) dX5_takeUnit_43 rfl (by omega) (by omega) (fun c2 => ?_) (fun c2 => ?_)
          · refine xe_aload_n dX5_takeUnit_82 rfl ?_
            refine xe_getIv dX5_takeUnit_83 flX5_41 (st7 hs) (by decide) rfl (v := nI 40) (hk5) ?_
            refine xe_bipush dX5_takeUnit_86 kb_40 ?_
            refine xn_icmp_eq (tgt := 97) dX5_takeUnit_88 rfl (by omega) (by omega) (fun c3 => ?_) (fun c3 => ?_)
            · refine xe_iload_n dX5_takeUnit_97 rfl ?_
              refine xe_bipush dX5_takeUnit_98 kb_6 ?_
              refine xn_icmp_lt (tgt := 109) dX5_takeUnit_100 rfl (by omega) (by omega) (fun c4 => ?_) (fun c4 => ?_)
              · omega
              · refine xe_aload_n dX5_takeUnit_103 rfl ?_
                refine xe_iconst dX5_takeUnit_104 kc_2 ?_
                refine xe_callVIq (d' := 0) (y' := mX5_fail) dX5_takeUnit_105 mlX5_119 mvX5_fail rfl (st7 hs) (by decide) rfl (by omega) (by decide) (Nat.le_of_ble_eq_true rfl) (b_fail10 l g _ hs hR hn (by first | omega | (simp only [List.length_append, List.length_nil, List.length_cons]; omega)) 2) rfl (fun g5 g5q => ?_)
                have hb := gd_bad hg (by first | omega | (simp only [List.length_append, List.length_nil, List.length_cons]; omega)) g5q
                refine xe_ireturn dX5_takeUnit_108 rfl (by first | rfl | decide +kernel) ?_
                exact ⟨rfl, hb⟩
            · omega
          · omega
        · omega
      · rw [if_neg h6]
        refine q_CtV mvX5_takeUnit (Nat.le_of_ble_eq_true rfl) ?_
        refine xe_aload_n dX5_takeUnit_0 rfl ?_
        refine xe_getIv dX5_takeUnit_1 flX5_41 (st7 hs) (by decide) rfl (v := (q_kap (tk_T K t))) (h5) ?_
        refine xe_iconst dX5_takeUnit_4 kc_2 ?_
        refine xe_icmp_ne (tgt := 36) dX5_takeUnit_5 rfl (fun c1 => ?_) (fun c1 => ?_)
        · refine xe_aload_n dX5_takeUnit_36 rfl ?_
          refine xe_getIv dX5_takeUnit_37 flX5_41 (st7 hs) (by decide) rfl (v := (q_kap (tk_T K t))) (h5) ?_
          refine xe_sipush dX5_takeUnit_40 ks_267 ?_
          refine xe_icmp_lt (tgt := 82) dX5_takeUnit_43 rfl (fun c_lo => ?_) (fun c_lo => ?_)
          · refine xe_aload_n dX5_takeUnit_82 rfl ?_
            refine xe_getIv dX5_takeUnit_83 flX5_41 (st7 hs) (by decide) rfl (v := (q_kap (tk_T K t))) (h5) ?_
            refine xe_bipush dX5_takeUnit_86 kb_40 ?_
            refine xe_icmp_eq (tgt := 97) dX5_takeUnit_88 rfl (fun c2 => ?_) (fun c2 => ?_)
            · exact absurd (q_kap_inj (b := 6) hok (by decide) (by decide) c2) h6
            · refine xe_aload_n dX5_takeUnit_91 rfl ?_
              refine xe_iconst dX5_takeUnit_92 kc_1 ?_
              refine xe_callVIq (d' := 0) (y' := mX5_fail) dX5_takeUnit_93 mlX5_119 mvX5_fail rfl (st7 hs) (by decide) rfl (by omega) (by decide) (Nat.le_of_ble_eq_true rfl) (b_fail10 l g _ hs hR hn (by first | omega | (simp only [List.length_append, List.length_nil, List.length_cons]; omega)) 1) rfl (fun g3 g3q => ?_)
              have hb := gd_bad hg (by first | omega | (simp only [List.length_append, List.length_nil, List.length_cons]; omega)) g3q
              refine xe_ireturn dX5_takeUnit_96 rfl (by first | rfl | decide +kernel) ?_
              exact ⟨rfl, hb⟩
          · refine xe_aload_n dX5_takeUnit_46 rfl ?_
            refine xe_getIv dX5_takeUnit_47 flX5_41 (st7 hs) (by decide) rfl (v := (q_kap (tk_T K t))) (h5) ?_
            refine xe_sipush dX5_takeUnit_50 ks_272 ?_
            refine xe_icmp_gt (tgt := 82) dX5_takeUnit_53 rfl (fun c4 => ?_) (fun c4 => ?_)
            · refine xe_aload_n dX5_takeUnit_82 rfl ?_
              refine xe_getIv dX5_takeUnit_83 flX5_41 (st7 hs) (by decide) rfl (v := (q_kap (tk_T K t))) (h5) ?_
              refine xe_bipush dX5_takeUnit_86 kb_40 ?_
              refine xe_icmp_eq (tgt := 97) dX5_takeUnit_88 rfl (fun c5 => ?_) (fun c5 => ?_)
              · exact absurd (q_kap_inj (b := 6) hok (by decide) (by decide) c5) h6
              · refine xe_aload_n dX5_takeUnit_91 rfl ?_
                refine xe_iconst dX5_takeUnit_92 kc_1 ?_
                refine xe_callVIq (d' := 0) (y' := mX5_fail) dX5_takeUnit_93 mlX5_119 mvX5_fail rfl (st7 hs) (by decide) rfl (by omega) (by decide) (Nat.le_of_ble_eq_true rfl) (b_fail10 l g _ hs hR hn (by first | omega | (simp only [List.length_append, List.length_nil, List.length_cons]; omega)) 1) rfl (fun g6 g6q => ?_)
                have hb := gd_bad hg (by first | omega | (simp only [List.length_append, List.length_nil, List.length_cons]; omega)) g6q
                refine xe_ireturn dX5_takeUnit_96 rfl (by first | rfl | decide +kernel) ?_
                exact ⟨rfl, hb⟩
            · exact absurd (q_kap_v ⟨tk_T K t, tk_lt hok⟩ hok c_lo c4) hv
        · exact absurd (q_kap_inj (b := 2) hok (by decide) (by decide) c1) h2
theorem xc_unS10 (l : Launch) (g : q_GP) {K : q_TK} {m d dep k : Nat} (hdk : dep + (k + 1) = 6) (hU : q_XC l g mX5_takeSum 10 K m d (dep + 1) (tx_sumU (tk_T K) (tx_un (tk_T K) (tk_V K) k))) : q_XC l g mX5_takeUnit 10 K m (d + 1) dep (tx_un (tk_T K) (tk_V K) (k + 1)) := by
  intro h hs t n hR hn hnt
  have hg := gd_r hR hn
  have hn := gd_n hg
  have h4 := hR.2.2.2.2.1
  have hI2 := hR.1
  have hI3 := hR.2.1
  have h5 := hR.2.2.2.2.2
  have h4m := hR.2.2.1.1
  have htm := hR.2.2.2.1
  have hok := (hR.2.2.1.2.2 t htm).1
  rw [tx_un_s]
  by_cases h2 : tk_T K t = 2
  · rw [if_pos h2]
    have hk5 : q_I h 7 5 = nI 2 := h5.trans (by rw [h2]; rfl)
    have hv := (hR.2.2.1.2.2 t htm).2.2.2.2.2 h2
    by_cases h400 : 400 ≤ t
    · rw [if_pos h400]
      refine q_CtV mvX5_takeUnit (Nat.le_of_ble_eq_true rfl) ?_
      refine xe_aload_n dX5_takeUnit_0 rfl ?_
      refine xe_getIv dX5_takeUnit_1 flX5_41 (st7 hs) (by decide) rfl (v := nI 2) (hk5) ?_
      refine xe_iconst dX5_takeUnit_4 kc_2 ?_
      refine xn_icmp_ne (tgt := 36) dX5_takeUnit_5 rfl (by omega) (by omega) (fun c1 => ?_) (fun c1 => ?_)
      · omega
      · refine xe_aload_n dX5_takeUnit_8 rfl ?_
        refine xe_getP dX5_takeUnit_9 flX5_26 (st7 hs) (by decide) rfl hI3 ?_
        refine xe_iconst dX5_takeUnit_12 kc_0 ?_
        refine xe_aload_n dX5_takeUnit_13 rfl ?_
        refine xe_getP dX5_takeUnit_14 flX5_22 (st7 hs) (by decide) rfl hI2 ?_
        refine xe_getP dX5_takeUnit_17 flX5_67 (st1 hs) (by decide) rfl (sp1_4 hs) ?_
        refine xe_aload_n dX5_takeUnit_20 rfl ?_
        refine xe_getIv dX5_takeUnit_21 flX5_33 (st7 hs) (by decide) rfl (v := nI t) (h4) ?_
        refine xn_laldv dX5_takeUnit_24 (st5 hs) (by omega) (by decide) (v := (q_J h 5 t)) (rfl) ?_
        refine xe_l2i dX5_takeUnit_25 rfl ?_
        refine xe_callVIq (d' := 0) (y' := mX3_emit) dX5_takeUnit_26 mlX5_150 mvX3_emit rfl (st10 hs) (by decide) rfl (by omega) (by decide) (Nat.le_of_ble_eq_true rfl) (g_emit10 l g _ hs hR hn (by first | omega | (simp only [List.length_append, List.length_nil, List.length_cons]; omega)) 0 _ (nI (tk_V K t)) _ rfl hv.1) rfl (fun g2 g2q => ?_)
        have hR := gd_R (by decide : 10 = 10 ∨ 10 = 22) hR g2q
        have hs := gd_s hs g2q
        have hg := gd_app hg g2q
        have hn := gd_n hg
        have h4 := hR.2.2.2.2.1
        have hI2 := hR.1
        have hI3 := hR.2.1
        refine xe_pop dX5_takeUnit_29 rfl ?_
        refine xe_aload_n dX5_takeUnit_30 rfl ?_
        refine xe_iconst dX5_takeUnit_31 kc_2 ?_
        refine xe_callVIq (d' := 0) (y' := mX5_take) dX5_takeUnit_32 mlX5_63 mvX5_take rfl (st7 hs) (by decide) rfl (by omega) (by decide) (Nat.le_of_ble_eq_true rfl) (b_take10 l g _ hs hR hn (by first | omega | (simp only [List.length_append, List.length_nil, List.length_cons]; omega)) 2 2 rfl (by decide) (by decide) (tx_ck_2 h2 h400)) rfl (fun g3 g3q => ?_)
        have hs := bad_s hs g3q
        have hb := gd_bad hg (by first | omega | (simp only [List.length_append, List.length_nil, List.length_cons]; omega)) g3q
        obtain ⟨nb, hnb, hnb2⟩ := g3q.1.2.2
        have hI2 := em_P g3q.1 hI2
        have hI3 := em_P g3q.1 hI3
        refine xe_ireturn dX5_takeUnit_35 rfl (by first | rfl | decide +kernel) ?_
        exact ⟨rfl, hb⟩
    · rw [if_neg h400]
      refine q_CtV mvX5_takeUnit (Nat.le_of_ble_eq_true rfl) ?_
      refine xe_aload_n dX5_takeUnit_0 rfl ?_
      refine xe_getIv dX5_takeUnit_1 flX5_41 (st7 hs) (by decide) rfl (v := nI 2) (hk5) ?_
      refine xe_iconst dX5_takeUnit_4 kc_2 ?_
      refine xn_icmp_ne (tgt := 36) dX5_takeUnit_5 rfl (by omega) (by omega) (fun c1 => ?_) (fun c1 => ?_)
      · omega
      · refine xe_aload_n dX5_takeUnit_8 rfl ?_
        refine xe_getP dX5_takeUnit_9 flX5_26 (st7 hs) (by decide) rfl hI3 ?_
        refine xe_iconst dX5_takeUnit_12 kc_0 ?_
        refine xe_aload_n dX5_takeUnit_13 rfl ?_
        refine xe_getP dX5_takeUnit_14 flX5_22 (st7 hs) (by decide) rfl hI2 ?_
        refine xe_getP dX5_takeUnit_17 flX5_67 (st1 hs) (by decide) rfl (sp1_4 hs) ?_
        refine xe_aload_n dX5_takeUnit_20 rfl ?_
        refine xe_getIv dX5_takeUnit_21 flX5_33 (st7 hs) (by decide) rfl (v := nI t) (h4) ?_
        refine xn_laldv dX5_takeUnit_24 (st5 hs) (by omega) (by decide) (v := (q_J h 5 t)) (rfl) ?_
        refine xe_l2i dX5_takeUnit_25 rfl ?_
        refine xe_callVIq (d' := 0) (y' := mX3_emit) dX5_takeUnit_26 mlX5_150 mvX3_emit rfl (st10 hs) (by decide) rfl (by omega) (by decide) (Nat.le_of_ble_eq_true rfl) (g_emit10 l g _ hs hR hn (by first | omega | (simp only [List.length_append, List.length_nil, List.length_cons]; omega)) 0 _ (nI (tk_V K t)) _ rfl hv.1) rfl (fun g2 g2q => ?_)
        have hR := gd_R (by decide : 10 = 10 ∨ 10 = 22) hR g2q
        have hs := gd_s hs g2q
        have hg := gd_app hg g2q
        have hn := gd_n hg
        have h4 := hR.2.2.2.2.1
        have hI2 := hR.1
        have hI3 := hR.2.1
        refine xe_pop dX5_takeUnit_29 rfl ?_
        refine xe_aload_n dX5_takeUnit_30 rfl ?_
        refine xe_iconst dX5_takeUnit_31 kc_2 ?_
        refine xe_callVIq (d' := 0) (y' := mX5_take) dX5_takeUnit_32 mlX5_63 mvX5_take rfl (st7 hs) (by decide) rfl (by omega) (by decide) (Nat.le_of_ble_eq_true rfl) (g_take10 l g _ hs hR hn 2 2 rfl (by decide) (by decide) (by decide) (tx_ck_0 h2 (by omega))) rfl (fun g3 g3q => ?_)
        have hR := gd_R (by decide : 10 = 10 ∨ 10 = 22) hR g3q
        have hs := gd_s hs g3q
        have hg := gd_tk hg g3q
        have hn := gd_n hg
        have h4 := hR.2.2.2.2.1
        have hI2 := hR.1
        have hI3 := hR.2.1
        refine xe_ireturn dX5_takeUnit_35 rfl (by first | rfl | decide +kernel) ?_
        exact ⟨rfl, hg⟩
  · rw [if_neg h2]
    by_cases hv : 31 ≤ tk_T K t ∧ tk_T K t ≤ 36
    · rw [if_pos hv]
      have ekn := q_kn_v hv
      have hk5 : q_I h 7 5 = nI (tk_T K t + 236) := h5.trans ((q_kap_n (by omega)).trans (congrArg nI ekn))
      by_cases h400 : 400 ≤ t
      · rw [if_pos h400]
        refine q_CtV mvX5_takeUnit (Nat.le_of_ble_eq_true rfl) ?_
        refine xe_aload_n dX5_takeUnit_0 rfl ?_
        refine xe_getIv dX5_takeUnit_1 flX5_41 (st7 hs) (by decide) rfl (v := nI (tk_T K t + 236)) (hk5) ?_
        refine xe_iconst dX5_takeUnit_4 kc_2 ?_
        refine xn_icmp_ne (tgt := 36) dX5_takeUnit_5 rfl (by omega) (by omega) (fun c1 => ?_) (fun c1 => ?_)
        · refine xe_aload_n dX5_takeUnit_36 rfl ?_
          refine xe_getIv dX5_takeUnit_37 flX5_41 (st7 hs) (by decide) rfl (v := nI (tk_T K t + 236)) (hk5) ?_
          refine xe_sipush dX5_takeUnit_40 ks_267 ?_
          refine xn_icmp_lt (tgt := 82) dX5_takeUnit_43 rfl (by omega) (by omega) (fun c2 => ?_) (fun c2 => ?_)
          · omega
          · refine xe_aload_n dX5_takeUnit_46 rfl ?_
            refine xe_getIv dX5_takeUnit_47 flX5_41 (st7 hs) (by decide) rfl (v := nI (tk_T K t + 236)) (hk5) ?_
            refine xe_sipush dX5_takeUnit_50 ks_272 ?_
            refine xn_icmp_gt (tgt := 82) dX5_takeUnit_53 rfl (by omega) (by omega) (fun c3 => ?_) (fun c3 => ?_)
            · omega
            · refine xe_aload_n dX5_takeUnit_56 rfl ?_
              refine xe_getP dX5_takeUnit_57 flX5_26 (st7 hs) (by decide) rfl hI3 ?_
              refine xe_iconst dX5_takeUnit_60 kc_1 ?_
              refine xe_aload_n dX5_takeUnit_61 rfl ?_
              refine xe_getIv dX5_takeUnit_62 flX5_41 (st7 hs) (by decide) rfl (v := nI (tk_T K t + 236)) (hk5) ?_
              refine xe_sipush dX5_takeUnit_65 ks_267 ?_
              refine xn_isub dX5_takeUnit_68 (by omega) ?_
              refine xe_callVIq (d' := 0) (y' := mX3_emit) dX5_takeUnit_69 mlX5_150 mvX3_emit rfl (st10 hs) (by decide) rfl (by omega) (by decide) (Nat.le_of_ble_eq_true rfl) (g_emit10 l g _ hs hR hn (by first | omega | (simp only [List.length_append, List.length_nil, List.length_cons]; omega)) 1 _ (nI (tk_T K t - 31)) _ rfl (congrArg nI (by omega))) rfl (fun g4 g4q => ?_)
              have hR := gd_R (by decide : 10 = 10 ∨ 10 = 22) hR g4q
              have hs := gd_s hs g4q
              have hg := gd_app hg g4q
              have hn := gd_n hg
              have h4 := hR.2.2.2.2.1
              have hI2 := hR.1
              have hI3 := hR.2.1
              refine xe_pop dX5_takeUnit_72 rfl ?_
              refine xe_aload_n dX5_takeUnit_73 rfl ?_
              refine xe_aload_n dX5_takeUnit_74 rfl ?_
              refine xe_getIv dX5_takeUnit_75 flX5_41 (st7 hs) (by decide) rfl (v := nI (q_kn (tk_T K t))) ((hR.2.2.2.2.2.trans (q_kap_n (a := tk_T K t) (by omega)))) ?_
              refine xe_callVIq (d' := 0) (y' := mX5_take) dX5_takeUnit_78 mlX5_63 mvX5_take rfl (st7 hs) (by decide) rfl (by omega) (by decide) (Nat.le_of_ble_eq_true rfl) (b_take10 l g _ hs hR hn (by first | omega | (simp only [List.length_append, List.length_nil, List.length_cons]; omega)) (tk_T K t) (q_kn (tk_T K t)) (rfl) hok (by omega) (tx_ck_2 rfl h400)) rfl (fun g5 g5q => ?_)
              have hs := bad_s hs g5q
              have hb := gd_bad hg (by first | omega | (simp only [List.length_append, List.length_nil, List.length_cons]; omega)) g5q
              obtain ⟨nb, hnb, hnb2⟩ := g5q.1.2.2
              have hI2 := em_P g5q.1 hI2
              have hI3 := em_P g5q.1 hI3
              refine xe_ireturn dX5_takeUnit_81 rfl (by first | rfl | decide +kernel) ?_
              exact ⟨rfl, hb⟩
        · omega
      · rw [if_neg h400]
        refine q_CtV mvX5_takeUnit (Nat.le_of_ble_eq_true rfl) ?_
        refine xe_aload_n dX5_takeUnit_0 rfl ?_
        refine xe_getIv dX5_takeUnit_1 flX5_41 (st7 hs) (by decide) rfl (v := nI (tk_T K t + 236)) (hk5) ?_
        refine xe_iconst dX5_takeUnit_4 kc_2 ?_
        refine xn_icmp_ne (tgt := 36) dX5_takeUnit_5 rfl (by omega) (by omega) (fun c1 => ?_) (fun c1 => ?_)
        · refine xe_aload_n dX5_takeUnit_36 rfl ?_
          refine xe_getIv dX5_takeUnit_37 flX5_41 (st7 hs) (by decide) rfl (v := nI (tk_T K t + 236)) (hk5) ?_
          refine xe_sipush dX5_takeUnit_40 ks_267 ?_
          refine xn_icmp_lt (tgt := 82) dX5_takeUnit_43 rfl (by omega) (by omega) (fun c2 => ?_) (fun c2 => ?_)
          · omega
          · refine xe_aload_n dX5_takeUnit_46 rfl ?_
            refine xe_getIv dX5_takeUnit_47 flX5_41 (st7 hs) (by decide) rfl (v := nI (tk_T K t + 236)) (hk5) ?_
            refine xe_sipush dX5_takeUnit_50 ks_272 ?_
            refine xn_icmp_gt (tgt := 82) dX5_takeUnit_53 rfl (by omega) (by omega) (fun c3 => ?_) (fun c3 => ?_)
            · omega
            · refine xe_aload_n dX5_takeUnit_56 rfl ?_
              refine xe_getP dX5_takeUnit_57 flX5_26 (st7 hs) (by decide) rfl hI3 ?_
              refine xe_iconst dX5_takeUnit_60 kc_1 ?_
              refine xe_aload_n dX5_takeUnit_61 rfl ?_
              refine xe_getIv dX5_takeUnit_62 flX5_41 (st7 hs) (by decide) rfl (v := nI (tk_T K t + 236)) (hk5) ?_
              refine xe_sipush dX5_takeUnit_65 ks_267 ?_
              refine xn_isub dX5_takeUnit_68 (by omega) ?_
              refine xe_callVIq (d' := 0) (y' := mX3_emit) dX5_takeUnit_69 mlX5_150 mvX3_emit rfl (st10 hs) (by decide) rfl (by omega) (by decide) (Nat.le_of_ble_eq_true rfl) (g_emit10 l g _ hs hR hn (by first | omega | (simp only [List.length_append, List.length_nil, List.length_cons]; omega)) 1 _ (nI (tk_T K t - 31)) _ rfl (congrArg nI (by omega))) rfl (fun g4 g4q => ?_)
              have hR := gd_R (by decide : 10 = 10 ∨ 10 = 22) hR g4q
              have hs := gd_s hs g4q
              have hg := gd_app hg g4q
              have hn := gd_n hg
              have h4 := hR.2.2.2.2.1
              have hI2 := hR.1
              have hI3 := hR.2.1
              refine xe_pop dX5_takeUnit_72 rfl ?_
              refine xe_aload_n dX5_takeUnit_73 rfl ?_
              refine xe_aload_n dX5_takeUnit_74 rfl ?_
              refine xe_getIv dX5_takeUnit_75 flX5_41 (st7 hs) (by decide) rfl (v := nI (q_kn (tk_T K t))) ((hR.2.2.2.2.2.trans (q_kap_n (a := tk_T K t) (by omega)))) ?_
              refine xe_callVIq (d' := 0) (y' := mX5_take) dX5_takeUnit_78 mlX5_63 mvX5_take rfl (st7 hs) (by decide) rfl (by omega) (by decide) (Nat.le_of_ble_eq_true rfl) (g_take10 l g _ hs hR hn (tk_T K t) (q_kn (tk_T K t)) (rfl) hok (by omega) (by omega) (tx_ck_0 rfl (by omega))) rfl (fun g5 g5q => ?_)
              have hR := gd_R (by decide : 10 = 10 ∨ 10 = 22) hR g5q
              have hs := gd_s hs g5q
              have hg := gd_tk hg g5q
              have hn := gd_n hg
              have h4 := hR.2.2.2.2.1
              have hI2 := hR.1
              have hI3 := hR.2.1
              refine xe_ireturn dX5_takeUnit_81 rfl (by first | rfl | decide +kernel) ?_
              exact ⟨rfl, hg⟩
        · omega
    · rw [if_neg hv]
      by_cases h6 : tk_T K t = 6
      · rw [if_pos h6]
        have hk5 : q_I h 7 5 = nI 40 := h5.trans (by rw [h6]; rfl)
        by_cases h400 : 400 ≤ t
        · rw [if_pos h400]
          refine q_CtV mvX5_takeUnit (Nat.le_of_ble_eq_true rfl) ?_
          refine xe_aload_n dX5_takeUnit_0 rfl ?_
          refine xe_getIv dX5_takeUnit_1 flX5_41 (st7 hs) (by decide) rfl (v := nI 40) (hk5) ?_
          refine xe_iconst dX5_takeUnit_4 kc_2 ?_
          refine xn_icmp_ne (tgt := 36) dX5_takeUnit_5 rfl (by omega) (by omega) (fun c1 => ?_) (fun c1 => ?_)
          · refine xe_aload_n dX5_takeUnit_36 rfl ?_
            refine xe_getIv dX5_takeUnit_37 flX5_41 (st7 hs) (by decide) rfl (v := nI 40) (hk5) ?_
            refine xe_sipush dX5_takeUnit_40 ks_267 ?_
            refine xn_icmp_lt (tgt := 82) dX5_takeUnit_43 rfl (by omega) (by omega) (fun c2 => ?_) (fun c2 => ?_)
            · refine xe_aload_n dX5_takeUnit_82 rfl ?_
              refine xe_getIv dX5_takeUnit_83 flX5_41 (st7 hs) (by decide) rfl (v := nI 40) (hk5) ?_
              refine xe_bipush dX5_takeUnit_86 kb_40 ?_
              refine xn_icmp_eq (tgt := 97) dX5_takeUnit_88 rfl (by omega) (by omega) (fun c3 => ?_) (fun c3 => ?_)
              · refine xe_iload_n dX5_takeUnit_97 rfl ?_
                refine xe_bipush dX5_takeUnit_98 kb_6 ?_
                refine xn_icmp_lt (tgt := 109) dX5_takeUnit_100 rfl (by omega) (by omega) (fun c4 => ?_) (fun c4 => ?_)
                · refine xe_aload_n dX5_takeUnit_109 rfl ?_
                  refine xe_bipush dX5_takeUnit_110 kb_40 ?_
                  refine xe_callVIq (d' := 0) (y' := mX5_take) dX5_takeUnit_112 mlX5_63 mvX5_take rfl (st7 hs) (by decide) rfl (by omega) (by decide) (Nat.le_of_ble_eq_true rfl) (b_take10 l g _ hs hR hn (by first | omega | (simp only [List.length_append, List.length_nil, List.length_cons]; omega)) 6 40 rfl (by decide) (by decide) (tx_ck_2 h6 h400)) rfl (fun g5 g5q => ?_)
                  have hs := bad_s hs g5q
                  have hb := gd_bad hg (by first | omega | (simp only [List.length_append, List.length_nil, List.length_cons]; omega)) g5q
                  obtain ⟨nb, hnb, hnb2⟩ := g5q.1.2.2
                  have hI2 := em_P g5q.1 hI2
                  have hI3 := em_P g5q.1 hI3
                  refine xn_if_eq (tgt := 141) dX5_takeUnit_115 rfl (by omega) (fun c6 => ?_) (fun c6 => ?_)
                  · refine xe_iconst dX5_takeUnit_141 kc_0 ?_
                    refine xe_ireturn dX5_takeUnit_142 rfl (by first | rfl | decide +kernel) ?_
                    exact ⟨rfl, hb⟩
                  · omega
                · omega
              · omega
            · omega
          · omega
        · rw [if_neg h400]
          cases hu : tx_sumU (tk_T K) (tx_un (tk_T K) (tk_V K) k) (t + 1) with
          | inl er =>
            refine q_CtV mvX5_takeUnit (Nat.le_of_ble_eq_true rfl) ?_
            refine xe_aload_n dX5_takeUnit_0 rfl ?_
            refine xe_getIv dX5_takeUnit_1 flX5_41 (st7 hs) (by decide) rfl (v := nI 40) (hk5) ?_
            refine xe_iconst dX5_takeUnit_4 kc_2 ?_
            refine xn_icmp_ne (tgt := 36) dX5_takeUnit_5 rfl (by omega) (by omega) (fun c1 => ?_) (fun c1 => ?_)
            · refine xe_aload_n dX5_takeUnit_36 rfl ?_
              refine xe_getIv dX5_takeUnit_37 flX5_41 (st7 hs) (by decide) rfl (v := nI 40) (hk5) ?_
              refine xe_sipush dX5_takeUnit_40 ks_267 ?_
              refine xn_icmp_lt (tgt := 82) dX5_takeUnit_43 rfl (by omega) (by omega) (fun c2 => ?_) (fun c2 => ?_)
              · refine xe_aload_n dX5_takeUnit_82 rfl ?_
                refine xe_getIv dX5_takeUnit_83 flX5_41 (st7 hs) (by decide) rfl (v := nI 40) (hk5) ?_
                refine xe_bipush dX5_takeUnit_86 kb_40 ?_
                refine xn_icmp_eq (tgt := 97) dX5_takeUnit_88 rfl (by omega) (by omega) (fun c3 => ?_) (fun c3 => ?_)
                · refine xe_iload_n dX5_takeUnit_97 rfl ?_
                  refine xe_bipush dX5_takeUnit_98 kb_6 ?_
                  refine xn_icmp_lt (tgt := 109) dX5_takeUnit_100 rfl (by omega) (by omega) (fun c4 => ?_) (fun c4 => ?_)
                  · refine xe_aload_n dX5_takeUnit_109 rfl ?_
                    refine xe_bipush dX5_takeUnit_110 kb_40 ?_
                    refine xe_callVIq (d' := 0) (y' := mX5_take) dX5_takeUnit_112 mlX5_63 mvX5_take rfl (st7 hs) (by decide) rfl (by omega) (by decide) (Nat.le_of_ble_eq_true rfl) (g_take10 l g _ hs hR hn 6 40 rfl (by decide) (by decide) (by decide) (tx_ck_0 h6 (by omega))) rfl (fun g5 g5q => ?_)
                    have hR := gd_R (by decide : 10 = 10 ∨ 10 = 22) hR g5q
                    have hs := gd_s hs g5q
                    have hg := gd_tk hg g5q
                    have hn := gd_n hg
                    have h4 := hR.2.2.2.2.1
                    have hI2 := hR.1
                    have hI3 := hR.2.1
                    refine xn_if_eq (tgt := 141) dX5_takeUnit_115 rfl (by omega) (fun c6 => ?_) (fun c6 => ?_)
                    · omega
                    · refine xe_aload_n dX5_takeUnit_118 rfl ?_
                      refine xe_iload_n dX5_takeUnit_119 rfl ?_
                      refine xe_iconst dX5_takeUnit_120 kc_1 ?_
                      refine xn_iadd dX5_takeUnit_121 ?_
                      refine xe_callVIq (d' := d) (y' := mX5_takeSum) dX5_takeUnit_122 mlX5_147 mvX5_takeSum rfl (st7 hs) (by decide) rfl (by omega) (by decide) (Nat.le_of_ble_eq_true rfl) ((show q_Ct l g d _ _ _ (fun r h1 => r = some (.int (nI 0)) ∧ q_bad K 10 _ er h1) from by have hC := hU _ hs _ _ hR hn (by first | omega | (simp only [List.length_append, List.length_nil, List.length_cons]; omega)); rw [hu] at hC; exact hC)) rfl (fun g7 g7q => ?_)
                      have hs := bad_s hs g7q
                      have hb := gd_bad hg (by first | omega | (simp only [List.length_append, List.length_nil, List.length_cons]; omega)) g7q
                      obtain ⟨nb, hnb, hnb2⟩ := g7q.1.2.2
                      have hI2 := em_P g7q.1 hI2
                      have hI3 := em_P g7q.1 hI3
                      refine xn_if_eq (tgt := 141) dX5_takeUnit_125 rfl (by omega) (fun c8 => ?_) (fun c8 => ?_)
                      · refine xe_iconst dX5_takeUnit_141 kc_0 ?_
                        refine xe_ireturn dX5_takeUnit_142 rfl (by first | rfl | decide +kernel) ?_
                        exact ⟨rfl, hb⟩
                      · omega
                  · omega
                · omega
              · omega
            · omega
          | inr x =>
            obtain ⟨g1, g2, g3, g4, g5⟩ := tx_sumU_ok (tx_un_ok k) _ _ hu
            show q_Ct l g (d + 1) mX5_takeUnit _ h (q_ans K m 10 n h (tx_b (tx_ck (tk_T K) 7 x.2) (.inr (x.1, x.2 + 1))))
            cases hc : tx_ck (tk_T K) 7 x.2 with
            | some er =>
              refine q_CtV mvX5_takeUnit (Nat.le_of_ble_eq_true rfl) ?_
              refine xe_aload_n dX5_takeUnit_0 rfl ?_
              refine xe_getIv dX5_takeUnit_1 flX5_41 (st7 hs) (by decide) rfl (v := nI 40) (hk5) ?_
              refine xe_iconst dX5_takeUnit_4 kc_2 ?_
              refine xn_icmp_ne (tgt := 36) dX5_takeUnit_5 rfl (by omega) (by omega) (fun c1 => ?_) (fun c1 => ?_)
              · refine xe_aload_n dX5_takeUnit_36 rfl ?_
                refine xe_getIv dX5_takeUnit_37 flX5_41 (st7 hs) (by decide) rfl (v := nI 40) (hk5) ?_
                refine xe_sipush dX5_takeUnit_40 ks_267 ?_
                refine xn_icmp_lt (tgt := 82) dX5_takeUnit_43 rfl (by omega) (by omega) (fun c2 => ?_) (fun c2 => ?_)
                · refine xe_aload_n dX5_takeUnit_82 rfl ?_
                  refine xe_getIv dX5_takeUnit_83 flX5_41 (st7 hs) (by decide) rfl (v := nI 40) (hk5) ?_
                  refine xe_bipush dX5_takeUnit_86 kb_40 ?_
                  refine xn_icmp_eq (tgt := 97) dX5_takeUnit_88 rfl (by omega) (by omega) (fun c3 => ?_) (fun c3 => ?_)
                  · refine xe_iload_n dX5_takeUnit_97 rfl ?_
                    refine xe_bipush dX5_takeUnit_98 kb_6 ?_
                    refine xn_icmp_lt (tgt := 109) dX5_takeUnit_100 rfl (by omega) (by omega) (fun c4 => ?_) (fun c4 => ?_)
                    · refine xe_aload_n dX5_takeUnit_109 rfl ?_
                      refine xe_bipush dX5_takeUnit_110 kb_40 ?_
                      refine xe_callVIq (d' := 0) (y' := mX5_take) dX5_takeUnit_112 mlX5_63 mvX5_take rfl (st7 hs) (by decide) rfl (by omega) (by decide) (Nat.le_of_ble_eq_true rfl) (g_take10 l g _ hs hR hn 6 40 rfl (by decide) (by decide) (by decide) (tx_ck_0 h6 (by omega))) rfl (fun g5 g5q => ?_)
                      have hR := gd_R (by decide : 10 = 10 ∨ 10 = 22) hR g5q
                      have hs := gd_s hs g5q
                      have hg := gd_tk hg g5q
                      have hn := gd_n hg
                      have h4 := hR.2.2.2.2.1
                      have hI2 := hR.1
                      have hI3 := hR.2.1
                      refine xn_if_eq (tgt := 141) dX5_takeUnit_115 rfl (by omega) (fun c6 => ?_) (fun c6 => ?_)
                      · omega
                      · refine xe_aload_n dX5_takeUnit_118 rfl ?_
                        refine xe_iload_n dX5_takeUnit_119 rfl ?_
                        refine xe_iconst dX5_takeUnit_120 kc_1 ?_
                        refine xn_iadd dX5_takeUnit_121 ?_
                        refine xe_callVIq (d' := d) (y' := mX5_takeSum) dX5_takeUnit_122 mlX5_147 mvX5_takeSum rfl (st7 hs) (by decide) rfl (by omega) (by decide) (Nat.le_of_ble_eq_true rfl) ((show q_Ct l g d _ _ _ (fun r h1 => r = some (.int (nI 1)) ∧ q_gd K m 10 _ _ x h1) from by have hC := hU _ hs _ _ hR hn (by first | omega | (simp only [List.length_append, List.length_nil, List.length_cons]; omega)); rw [hu] at hC; exact hC)) rfl (fun g7 g7q => ?_)
                        have hR := gd_R (by decide : 10 = 10 ∨ 10 = 22) hR g7q
                        have hs := gd_s hs g7q
                        have hg := gd_app hg g7q
                        have hn := gd_n hg
                        have h4 := hR.2.2.2.2.1
                        have hI2 := hR.1
                        have hI3 := hR.2.1
                        refine xn_if_eq (tgt := 141) dX5_takeUnit_125 rfl (by omega) (fun c8 => ?_) (fun c8 => ?_)
                        · omega
                        · refine xe_aload_n dX5_takeUnit_128 rfl ?_
                          refine xe_bipush dX5_takeUnit_129 kb_41 ?_
                          refine xe_callVIq (d' := 0) (y' := mX5_take) dX5_takeUnit_131 mlX5_63 mvX5_take rfl (st7 hs) (by decide) rfl (by omega) (by decide) (Nat.le_of_ble_eq_true rfl) (b_take10 l g _ hs hR hn (by first | omega | (simp only [List.length_append, List.length_nil, List.length_cons]; omega)) 7 41 rfl (by decide) (by decide) hc) rfl (fun g9 g9q => ?_)
                          have hs := bad_s hs g9q
                          have hb := gd_bad hg (by first | omega | (simp only [List.length_append, List.length_nil, List.length_cons]; omega)) g9q
                          obtain ⟨nb, hnb, hnb2⟩ := g9q.1.2.2
                          have hI2 := em_P g9q.1 hI2
                          have hI3 := em_P g9q.1 hI3
                          refine xn_if_eq (tgt := 141) dX5_takeUnit_134 rfl (by omega) (fun c10 => ?_) (fun c10 => ?_)
                          · refine xe_iconst dX5_takeUnit_141 kc_0 ?_
                            refine xe_ireturn dX5_takeUnit_142 rfl (by first | rfl | decide +kernel) ?_
                            exact ⟨rfl, hb⟩
                          · omega
                    · omega
                  · omega
                · omega
              · omega
            | none =>
              refine q_CtV mvX5_takeUnit (Nat.le_of_ble_eq_true rfl) ?_
              refine xe_aload_n dX5_takeUnit_0 rfl ?_
              refine xe_getIv dX5_takeUnit_1 flX5_41 (st7 hs) (by decide) rfl (v := nI 40) (hk5) ?_
              refine xe_iconst dX5_takeUnit_4 kc_2 ?_
              refine xn_icmp_ne (tgt := 36) dX5_takeUnit_5 rfl (by omega) (by omega) (fun c1 => ?_) (fun c1 => ?_)
              · refine xe_aload_n dX5_takeUnit_36 rfl ?_
                refine xe_getIv dX5_takeUnit_37 flX5_41 (st7 hs) (by decide) rfl (v := nI 40) (hk5) ?_
                refine xe_sipush dX5_takeUnit_40 ks_267 ?_
                refine xn_icmp_lt (tgt := 82) dX5_takeUnit_43 rfl (by omega) (by omega) (fun c2 => ?_) (fun c2 => ?_)
                · refine xe_aload_n dX5_takeUnit_82 rfl ?_
                  refine xe_getIv dX5_takeUnit_83 flX5_41 (st7 hs) (by decide) rfl (v := nI 40) (hk5) ?_
                  refine xe_bipush dX5_takeUnit_86 kb_40 ?_
                  refine xn_icmp_eq (tgt := 97) dX5_takeUnit_88 rfl (by omega) (by omega) (fun c3 => ?_) (fun c3 => ?_)
                  · refine xe_iload_n dX5_takeUnit_97 rfl ?_
                    refine xe_bipush dX5_takeUnit_98 kb_6 ?_
                    refine xn_icmp_lt (tgt := 109) dX5_takeUnit_100 rfl (by omega) (by omega) (fun c4 => ?_) (fun c4 => ?_)
                    · refine xe_aload_n dX5_takeUnit_109 rfl ?_
                      refine xe_bipush dX5_takeUnit_110 kb_40 ?_
                      refine xe_callVIq (d' := 0) (y' := mX5_take) dX5_takeUnit_112 mlX5_63 mvX5_take rfl (st7 hs) (by decide) rfl (by omega) (by decide) (Nat.le_of_ble_eq_true rfl) (g_take10 l g _ hs hR hn 6 40 rfl (by decide) (by decide) (by decide) (tx_ck_0 h6 (by omega))) rfl (fun g5 g5q => ?_)
                      have hR := gd_R (by decide : 10 = 10 ∨ 10 = 22) hR g5q
                      have hs := gd_s hs g5q
                      have hg := gd_tk hg g5q
                      have hn := gd_n hg
                      have h4 := hR.2.2.2.2.1
                      have hI2 := hR.1
                      have hI3 := hR.2.1
                      refine xn_if_eq (tgt := 141) dX5_takeUnit_115 rfl (by omega) (fun c6 => ?_) (fun c6 => ?_)
                      · omega
                      · refine xe_aload_n dX5_takeUnit_118 rfl ?_
                        refine xe_iload_n dX5_takeUnit_119 rfl ?_
                        refine xe_iconst dX5_takeUnit_120 kc_1 ?_
                        refine xn_iadd dX5_takeUnit_121 ?_
                        refine xe_callVIq (d' := d) (y' := mX5_takeSum) dX5_takeUnit_122 mlX5_147 mvX5_takeSum rfl (st7 hs) (by decide) rfl (by omega) (by decide) (Nat.le_of_ble_eq_true rfl) ((show q_Ct l g d _ _ _ (fun r h1 => r = some (.int (nI 1)) ∧ q_gd K m 10 _ _ x h1) from by have hC := hU _ hs _ _ hR hn (by first | omega | (simp only [List.length_append, List.length_nil, List.length_cons]; omega)); rw [hu] at hC; exact hC)) rfl (fun g7 g7q => ?_)
                        have hR := gd_R (by decide : 10 = 10 ∨ 10 = 22) hR g7q
                        have hs := gd_s hs g7q
                        have hg := gd_app hg g7q
                        have hn := gd_n hg
                        have h4 := hR.2.2.2.2.1
                        have hI2 := hR.1
                        have hI3 := hR.2.1
                        refine xn_if_eq (tgt := 141) dX5_takeUnit_125 rfl (by omega) (fun c8 => ?_) (fun c8 => ?_)
                        · omega
                        · refine xe_aload_n dX5_takeUnit_128 rfl ?_
                          refine xe_bipush dX5_takeUnit_129 kb_41 ?_
                          refine xe_callVIq (d' := 0) (y' := mX5_take) dX5_takeUnit_131 mlX5_63 mvX5_take rfl (st7 hs) (by decide) rfl (by omega) (by decide) (Nat.le_of_ble_eq_true rfl) (g_take10 l g _ hs hR hn 7 41 rfl (by decide) (by decide) (by decide) hc) rfl (fun g9 g9q => ?_)
                          have hR := gd_R (by decide : 10 = 10 ∨ 10 = 22) hR g9q
                          have hs := gd_s hs g9q
                          have hg := gd_tk hg g9q
                          have hn := gd_n hg
                          have h4 := hR.2.2.2.2.1
                          have hI2 := hR.1
                          have hI3 := hR.2.1
                          refine xn_if_eq (tgt := 141) dX5_takeUnit_134 rfl (by omega) (fun c10 => ?_) (fun c10 => ?_)
                          · omega
                          · refine xe_iconst dX5_takeUnit_137 kc_1 ?_
                            refine xe_goto (tgt := 142) dX5_takeUnit_138 rfl ?_
                            refine xe_ireturn dX5_takeUnit_142 rfl (by first | rfl | decide +kernel) ?_
                            exact ⟨rfl, by simpa using hg⟩
                    · omega
                  · omega
                · omega
              · omega
      · rw [if_neg h6]
        refine q_CtV mvX5_takeUnit (Nat.le_of_ble_eq_true rfl) ?_
        refine xe_aload_n dX5_takeUnit_0 rfl ?_
        refine xe_getIv dX5_takeUnit_1 flX5_41 (st7 hs) (by decide) rfl (v := (q_kap (tk_T K t))) (h5) ?_
        refine xe_iconst dX5_takeUnit_4 kc_2 ?_
        refine xe_icmp_ne (tgt := 36) dX5_takeUnit_5 rfl (fun c1 => ?_) (fun c1 => ?_)
        · refine xe_aload_n dX5_takeUnit_36 rfl ?_
          refine xe_getIv dX5_takeUnit_37 flX5_41 (st7 hs) (by decide) rfl (v := (q_kap (tk_T K t))) (h5) ?_
          refine xe_sipush dX5_takeUnit_40 ks_267 ?_
          refine xe_icmp_lt (tgt := 82) dX5_takeUnit_43 rfl (fun c_lo => ?_) (fun c_lo => ?_)
          · refine xe_aload_n dX5_takeUnit_82 rfl ?_
            refine xe_getIv dX5_takeUnit_83 flX5_41 (st7 hs) (by decide) rfl (v := (q_kap (tk_T K t))) (h5) ?_
            refine xe_bipush dX5_takeUnit_86 kb_40 ?_
            refine xe_icmp_eq (tgt := 97) dX5_takeUnit_88 rfl (fun c2 => ?_) (fun c2 => ?_)
            · exact absurd (q_kap_inj (b := 6) hok (by decide) (by decide) c2) h6
            · refine xe_aload_n dX5_takeUnit_91 rfl ?_
              refine xe_iconst dX5_takeUnit_92 kc_1 ?_
              refine xe_callVIq (d' := 0) (y' := mX5_fail) dX5_takeUnit_93 mlX5_119 mvX5_fail rfl (st7 hs) (by decide) rfl (by omega) (by decide) (Nat.le_of_ble_eq_true rfl) (b_fail10 l g _ hs hR hn (by first | omega | (simp only [List.length_append, List.length_nil, List.length_cons]; omega)) 1) rfl (fun g3 g3q => ?_)
              have hb := gd_bad hg (by first | omega | (simp only [List.length_append, List.length_nil, List.length_cons]; omega)) g3q
              refine xe_ireturn dX5_takeUnit_96 rfl (by first | rfl | decide +kernel) ?_
              exact ⟨rfl, hb⟩
          · refine xe_aload_n dX5_takeUnit_46 rfl ?_
            refine xe_getIv dX5_takeUnit_47 flX5_41 (st7 hs) (by decide) rfl (v := (q_kap (tk_T K t))) (h5) ?_
            refine xe_sipush dX5_takeUnit_50 ks_272 ?_
            refine xe_icmp_gt (tgt := 82) dX5_takeUnit_53 rfl (fun c4 => ?_) (fun c4 => ?_)
            · refine xe_aload_n dX5_takeUnit_82 rfl ?_
              refine xe_getIv dX5_takeUnit_83 flX5_41 (st7 hs) (by decide) rfl (v := (q_kap (tk_T K t))) (h5) ?_
              refine xe_bipush dX5_takeUnit_86 kb_40 ?_
              refine xe_icmp_eq (tgt := 97) dX5_takeUnit_88 rfl (fun c5 => ?_) (fun c5 => ?_)
              · exact absurd (q_kap_inj (b := 6) hok (by decide) (by decide) c5) h6
              · refine xe_aload_n dX5_takeUnit_91 rfl ?_
                refine xe_iconst dX5_takeUnit_92 kc_1 ?_
                refine xe_callVIq (d' := 0) (y' := mX5_fail) dX5_takeUnit_93 mlX5_119 mvX5_fail rfl (st7 hs) (by decide) rfl (by omega) (by decide) (Nat.le_of_ble_eq_true rfl) (b_fail10 l g _ hs hR hn (by first | omega | (simp only [List.length_append, List.length_nil, List.length_cons]; omega)) 1) rfl (fun g6 g6q => ?_)
                have hb := gd_bad hg (by first | omega | (simp only [List.length_append, List.length_nil, List.length_cons]; omega)) g6q
                refine xe_ireturn dX5_takeUnit_96 rfl (by first | rfl | decide +kernel) ?_
                exact ⟨rfl, hb⟩
            · exact absurd (q_kap_v ⟨tk_T K t, tk_lt hok⟩ hok c_lo c4) hv
        · exact absurd (q_kap_inj (b := 2) hok (by decide) (by decide) c1) h2
theorem xc_un10 (l : Launch) (g : q_GP) {K : q_TK} {m : Nat} : ∀ k, k ≤ 6 → q_XC l g mX5_takeUnit 10 K m (3 * k + 1) (6 - k) (tx_un (tk_T K) (tk_V K) k)
  | 0, _ => xc_un010 l g
  | k + 1, hk => by
    have ih := xc_un10 l g (K := K) (m := m) k (by omega)
    have hS := xc_takeSum10 l g (xc_takePart10 l g ih (tx_un_ok k)) (tx_seq_ok (tx_un_ok k))
    rw [show 6 - k = (6 - (k + 1)) + 1 by omega] at hS
    exact xc_unS10 l g (by omega) hS
theorem xc_sum10 (l : Launch) (g : q_GP) {K : q_TK} {m : Nat} : q_XC l g mX5_takeSum 10 K m 21 0 (tx_sum K 6) := xc_takeSum10 l g (xc_takePart10 l g (xc_un10 l g 6 (Nat.le_refl _)) (tx_un_ok 6)) (tx_seq_ok (tx_un_ok 6))
theorem po_takePart22 (l : Launch) (g : q_GP) (h : q_H) (hs : q_Stat h) {d dep i : Nat} (hi : i < 2 ^ 30) {Q : Option Value → q_H → Prop} (q : Q (some (.int (nI 0))) h) : q_Ex l g d mX5_takePart 8 [(0, .ref 7), (1, .int (nI dep)), (2, .int (nI 0)), (3, .int (nI i))] [] h Q := by
  refine xe_iload_n dX5_takePart_8 rfl ?_
  refine xe_sipush dX5_takePart_9 ks_400 ?_
  refine xn_icmp_ge (tgt := 83) dX5_takePart_12 rfl (by omega) (by omega) (fun c1 => ?_) (fun c1 => ?_)
  · refine xe_iload_n dX5_takePart_83 rfl ?_
    refine xe_ireturn dX5_takePart_84 rfl (by first | rfl | decide +kernel) ?_
    exact q
  · refine xe_iload_n dX5_takePart_15 rfl ?_
    refine xn_if_eq (tgt := 83) dX5_takePart_16 rfl (by omega) (fun c2 => ?_) (fun c2 => ?_)
    · refine xe_iload_n dX5_takePart_83 rfl ?_
      refine xe_ireturn dX5_takePart_84 rfl (by first | rfl | decide +kernel) ?_
      exact q
    · omega
theorem pl_takePart22 (l : Launch) (g : q_GP) {K : q_TK} {m d dep e : Nat} {U : Nat → q_XR} (hU : q_XC l g mX5_takeUnit 22 K m d dep U) (hG : tx_good e U) {h0 : q_H} {n0 : Nat} : ∀ (f i : Nat) (c : List (Nat × Int32)) (t : Nat) (h : q_H), q_Stat h → q_gd K m 22 n0 h0 (c, t) h → ck_R h K m 22 t → n0 + c.length ≤ 10 + t → i + f = 401 → 2 * i + 1 ≤ t → q_Ex l g (d + 1) mX5_takePart 8 [(0, .ref 7), (1, .int (nI dep)), (2, .int (nI 1)), (3, .int (nI i))] [] h (q_ans K m 22 n0 h0 (tx_pl (tk_T K) 10 15 U f c t)) := by
  intro f
  induction f with
  | zero =>
    intro i c t h hs hg hR hnt hif hit
    have h4m := hR.2.2.1.1
    have htm := hR.2.2.2.1
    omega
  | succ f ih =>
    intro i c t h hs hg hR hnt hif hit
    have h4m := hR.2.2.1.1
    have htm := hR.2.2.2.1
    have hn : q_I h 22 2 = nI (n0 + c.length) := gd_n hg
    have h4 := hR.2.2.2.2.1
    have hI2 := hR.1
    have hI3 := hR.2.1
    have h5 := hR.2.2.2.2.2
    have hok := (hR.2.2.1.2.2 t htm).1
    rw [tx_pl]
    by_cases ha : tk_T K t = 10
    · rw [if_pos (Or.inl ha)]
      have hk5 : q_I h 7 5 = nI 42 := h5.trans (by rw [ha]; rfl)
      by_cases h400 : 400 ≤ t
      · rw [if_pos h400]
        refine xe_iload_n dX5_takePart_8 rfl ?_
        refine xe_sipush dX5_takePart_9 ks_400 ?_
        refine xn_icmp_ge (tgt := 83) dX5_takePart_12 rfl (by omega) (by omega) (fun c1 => ?_) (fun c1 => ?_)
        · omega
        · refine xe_iload_n dX5_takePart_15 rfl ?_
          refine xn_if_eq (tgt := 83) dX5_takePart_16 rfl (by omega) (fun c2 => ?_) (fun c2 => ?_)
          · omega
          · refine xe_aload_n dX5_takePart_19 rfl ?_
            refine xe_getIv dX5_takePart_20 flX5_41 (st7 hs) (by decide) rfl (v := nI 42) (hk5) ?_
            refine xe_bipush dX5_takePart_23 kb_42 ?_
            refine xn_icmp_eq (tgt := 37) dX5_takePart_25 rfl (by omega) (by omega) (fun c3 => ?_) (fun c3 => ?_)
            · refine xe_aload_n dX5_takePart_37 rfl ?_
              refine xe_getIv dX5_takePart_38 flX5_41 (st7 hs) (by decide) rfl (v := nI 42) (hk5) ?_
              refine xe_istore dX5_takePart_41 (by decide) rfl ?_
              refine xe_aload_n dX5_takePart_43 rfl ?_
              refine xe_iload dX5_takePart_44 rfl ?_
              refine xe_callVIq (d' := 0) (y' := mX5_take) dX5_takePart_46 mlX5_63 mvX5_take rfl (st7 hs) (by decide) rfl (by omega) (by decide) (Nat.le_of_ble_eq_true rfl) (b_take22 l g _ hs hR hn (by first | omega | (simp only [List.length_append, List.length_nil, List.length_cons]; omega)) 10 42 rfl (by decide) (by decide) (tx_ck_2 ha h400)) rfl (fun g4 g4q => ?_)
              have hs := bad_s hs g4q
              have hb := gd_bad hg (by first | omega | (simp only [List.length_append, List.length_nil, List.length_cons]; omega)) g4q
              obtain ⟨nb, hnb, hnb2⟩ := g4q.1.2.2
              have hI2 := em_P g4q.1 hI2
              have hI3 := em_P g4q.1 hI3
              refine xn_if_eq (tgt := 64) dX5_takePart_49 rfl (by omega) (fun c5 => ?_) (fun c5 => ?_)
              · refine xe_iconst dX5_takePart_64 kc_0 ?_
                refine xe_istore_n (i := 2) dX5_takePart_65 rfl (by decide) rfl ?_
                refine xe_aload_n dX5_takePart_66 rfl ?_
                refine xe_getP dX5_takePart_67 flX5_26 (st7 hs) (by decide) rfl hI3 ?_
                refine xe_iload dX5_takePart_70 rfl ?_
                refine xe_iconst dX5_takePart_72 kc_0 ?_
                refine xe_callVIn (d' := 0) (y' := mX3_emit) dX5_takePart_73 mlX5_150 mvX3_emit rfl (st22 hs) (by decide) rfl (by omega) (by decide) (Nat.le_of_ble_eq_true rfl) (b_emit22 l g _ hs hnb hnb2 _ _) rfl (fun g6v g6 g6q => ?_)
                have hs : q_Stat g6 := q_Stat_2 g6q.2.1.1 hs
                have hb := bad_em hb g6q.2
                have hI2 := em_P g6q.2.1 hI2
                have hI3 := em_P g6q.2.1 hI3
                refine xe_pop dX5_takePart_76 rfl ?_
                refine xn_iinc dX5_takePart_77 rfl kc_1 ?_
                refine xe_goto (tgt := 8) dX5_takePart_80 rfl ?_
                refine xe_locals (L' := [(0, .ref 7), (1, .int (nI dep)), (2, .int (nI 0)), (3, .int (nI (i + 1)))]) (And.intro rfl (And.intro rfl (And.intro rfl (And.intro rfl trivial)))) ?_
                exact po_takePart22 l g _ hs (by omega) ⟨rfl, hb⟩
              · omega
            · omega
      · rw [if_neg h400]
        cases hu : U (t + 1) with
        | inl er =>
          refine xe_iload_n dX5_takePart_8 rfl ?_
          refine xe_sipush dX5_takePart_9 ks_400 ?_
          refine xn_icmp_ge (tgt := 83) dX5_takePart_12 rfl (by omega) (by omega) (fun c1 => ?_) (fun c1 => ?_)
          · omega
          · refine xe_iload_n dX5_takePart_15 rfl ?_
            refine xn_if_eq (tgt := 83) dX5_takePart_16 rfl (by omega) (fun c2 => ?_) (fun c2 => ?_)
            · omega
            · refine xe_aload_n dX5_takePart_19 rfl ?_
              refine xe_getIv dX5_takePart_20 flX5_41 (st7 hs) (by decide) rfl (v := nI 42) (hk5) ?_
              refine xe_bipush dX5_takePart_23 kb_42 ?_
              refine xn_icmp_eq (tgt := 37) dX5_takePart_25 rfl (by omega) (by omega) (fun c3 => ?_) (fun c3 => ?_)
              · refine xe_aload_n dX5_takePart_37 rfl ?_
                refine xe_getIv dX5_takePart_38 flX5_41 (st7 hs) (by decide) rfl (v := nI 42) (hk5) ?_
                refine xe_istore dX5_takePart_41 (by decide) rfl ?_
                refine xe_aload_n dX5_takePart_43 rfl ?_
                refine xe_iload dX5_takePart_44 rfl ?_
                refine xe_callVIq (d' := 0) (y' := mX5_take) dX5_takePart_46 mlX5_63 mvX5_take rfl (st7 hs) (by decide) rfl (by omega) (by decide) (Nat.le_of_ble_eq_true rfl) (g_take22 l g _ hs hR hn 10 42 rfl (by decide) (by decide) (by decide) (tx_ck_0 ha (by omega))) rfl (fun g4 g4q => ?_)
                have hR := gd_R (by decide : 22 = 10 ∨ 22 = 22) hR g4q
                have hs := gd_s hs g4q
                have hg := gd_tk hg g4q
                have hn := gd_n hg
                have h4 := hR.2.2.2.2.1
                have hI2 := hR.1
                have hI3 := hR.2.1
                refine xn_if_eq (tgt := 64) dX5_takePart_49 rfl (by omega) (fun c5 => ?_) (fun c5 => ?_)
                · omega
                · refine xe_aload_n dX5_takePart_52 rfl ?_
                  refine xe_iload_n dX5_takePart_53 rfl ?_
                  refine xe_callVIq (d' := d) (y' := mX5_takeUnit) dX5_takePart_54 mlX5_160 mvX5_takeUnit rfl (st7 hs) (by decide) rfl (by omega) (by decide) (Nat.le_of_ble_eq_true rfl) ((show q_Ct l g d _ _ _ (fun r h1 => r = some (.int (nI 0)) ∧ q_bad K 22 _ er h1) from by have hC := hU _ hs _ _ hR hn (by first | omega | (simp only [List.length_append, List.length_nil, List.length_cons]; omega)); rw [hu] at hC; exact hC)) rfl (fun g6 g6q => ?_)
                  have hs := bad_s hs g6q
                  have hb := gd_bad hg (by first | omega | (simp only [List.length_append, List.length_nil, List.length_cons]; omega)) g6q
                  obtain ⟨nb, hnb, hnb2⟩ := g6q.1.2.2
                  have hI2 := em_P g6q.1 hI2
                  have hI3 := em_P g6q.1 hI3
                  refine xn_if_eq (tgt := 64) dX5_takePart_57 rfl (by omega) (fun c7 => ?_) (fun c7 => ?_)
                  · refine xe_iconst dX5_takePart_64 kc_0 ?_
                    refine xe_istore_n (i := 2) dX5_takePart_65 rfl (by decide) rfl ?_
                    refine xe_aload_n dX5_takePart_66 rfl ?_
                    refine xe_getP dX5_takePart_67 flX5_26 (st7 hs) (by decide) rfl hI3 ?_
                    refine xe_iload dX5_takePart_70 rfl ?_
                    refine xe_iconst dX5_takePart_72 kc_0 ?_
                    refine xe_callVIn (d' := 0) (y' := mX3_emit) dX5_takePart_73 mlX5_150 mvX3_emit rfl (st22 hs) (by decide) rfl (by omega) (by decide) (Nat.le_of_ble_eq_true rfl) (b_emit22 l g _ hs hnb hnb2 _ _) rfl (fun g8v g8 g8q => ?_)
                    have hs : q_Stat g8 := q_Stat_2 g8q.2.1.1 hs
                    have hb := bad_em hb g8q.2
                    have hI2 := em_P g8q.2.1 hI2
                    have hI3 := em_P g8q.2.1 hI3
                    refine xe_pop dX5_takePart_76 rfl ?_
                    refine xn_iinc dX5_takePart_77 rfl kc_1 ?_
                    refine xe_goto (tgt := 8) dX5_takePart_80 rfl ?_
                    refine xe_locals (L' := [(0, .ref 7), (1, .int (nI dep)), (2, .int (nI 0)), (3, .int (nI (i + 1)))]) (And.intro rfl (And.intro rfl (And.intro rfl (And.intro rfl trivial)))) ?_
                    exact po_takePart22 l g _ hs (by omega) ⟨rfl, hb⟩
                  · omega
              · omega
        | inr x =>
          obtain ⟨g1, g2, g3, g4, g5⟩ := hG _ _ hu
          refine xe_iload_n dX5_takePart_8 rfl ?_
          refine xe_sipush dX5_takePart_9 ks_400 ?_
          refine xn_icmp_ge (tgt := 83) dX5_takePart_12 rfl (by omega) (by omega) (fun c1 => ?_) (fun c1 => ?_)
          · omega
          · refine xe_iload_n dX5_takePart_15 rfl ?_
            refine xn_if_eq (tgt := 83) dX5_takePart_16 rfl (by omega) (fun c2 => ?_) (fun c2 => ?_)
            · omega
            · refine xe_aload_n dX5_takePart_19 rfl ?_
              refine xe_getIv dX5_takePart_20 flX5_41 (st7 hs) (by decide) rfl (v := nI 42) (hk5) ?_
              refine xe_bipush dX5_takePart_23 kb_42 ?_
              refine xn_icmp_eq (tgt := 37) dX5_takePart_25 rfl (by omega) (by omega) (fun c3 => ?_) (fun c3 => ?_)
              · refine xe_aload_n dX5_takePart_37 rfl ?_
                refine xe_getIv dX5_takePart_38 flX5_41 (st7 hs) (by decide) rfl (v := nI 42) (hk5) ?_
                refine xe_istore dX5_takePart_41 (by decide) rfl ?_
                refine xe_aload_n dX5_takePart_43 rfl ?_
                refine xe_iload dX5_takePart_44 rfl ?_
                refine xe_callVIq (d' := 0) (y' := mX5_take) dX5_takePart_46 mlX5_63 mvX5_take rfl (st7 hs) (by decide) rfl (by omega) (by decide) (Nat.le_of_ble_eq_true rfl) (g_take22 l g _ hs hR hn 10 42 rfl (by decide) (by decide) (by decide) (tx_ck_0 ha (by omega))) rfl (fun g4 g4q => ?_)
                have hR := gd_R (by decide : 22 = 10 ∨ 22 = 22) hR g4q
                have hs := gd_s hs g4q
                have hg := gd_tk hg g4q
                have hn := gd_n hg
                have h4 := hR.2.2.2.2.1
                have hI2 := hR.1
                have hI3 := hR.2.1
                refine xn_if_eq (tgt := 64) dX5_takePart_49 rfl (by omega) (fun c5 => ?_) (fun c5 => ?_)
                · omega
                · refine xe_aload_n dX5_takePart_52 rfl ?_
                  refine xe_iload_n dX5_takePart_53 rfl ?_
                  refine xe_callVIq (d' := d) (y' := mX5_takeUnit) dX5_takePart_54 mlX5_160 mvX5_takeUnit rfl (st7 hs) (by decide) rfl (by omega) (by decide) (Nat.le_of_ble_eq_true rfl) ((show q_Ct l g d _ _ _ (fun r h1 => r = some (.int (nI 1)) ∧ q_gd K m 22 _ _ x h1) from by have hC := hU _ hs _ _ hR hn (by first | omega | (simp only [List.length_append, List.length_nil, List.length_cons]; omega)); rw [hu] at hC; exact hC)) rfl (fun g6 g6q => ?_)
                  have hR := gd_R (by decide : 22 = 10 ∨ 22 = 22) hR g6q
                  have hs := gd_s hs g6q
                  have hg := gd_app hg g6q
                  have hn := gd_n hg
                  have h4 := hR.2.2.2.2.1
                  have hI2 := hR.1
                  have hI3 := hR.2.1
                  refine xn_if_eq (tgt := 64) dX5_takePart_57 rfl (by omega) (fun c7 => ?_) (fun c7 => ?_)
                  · omega
                  · refine xe_iconst dX5_takePart_60 kc_1 ?_
                    refine xe_goto (tgt := 65) dX5_takePart_61 rfl ?_
                    refine xe_istore_n (i := 2) dX5_takePart_65 rfl (by decide) rfl ?_
                    refine xe_aload_n dX5_takePart_66 rfl ?_
                    refine xe_getP dX5_takePart_67 flX5_26 (st7 hs) (by decide) rfl hI3 ?_
                    refine xe_iload dX5_takePart_70 rfl ?_
                    refine xe_iconst dX5_takePart_72 kc_0 ?_
                    refine xe_callVIq (d' := 0) (y' := mX3_emit) dX5_takePart_73 mlX5_150 mvX3_emit rfl (st22 hs) (by decide) rfl (by omega) (by decide) (Nat.le_of_ble_eq_true rfl) (g_emit22 l g _ hs hR hn (by first | omega | (simp only [List.length_append, List.length_nil, List.length_cons]; omega)) (tx_op (tk_T K t)) _ (nI 0) _ (by rw [ha]; rfl) rfl) rfl (fun g8 g8q => ?_)
                    have hR := gd_R (by decide : 22 = 10 ∨ 22 = 22) hR g8q
                    have hs := gd_s hs g8q
                    have hg := gd_app hg g8q
                    have hn := gd_n hg
                    have h4 := hR.2.2.2.2.1
                    have hI2 := hR.1
                    have hI3 := hR.2.1
                    refine xe_pop dX5_takePart_76 rfl ?_
                    refine xn_iinc dX5_takePart_77 rfl kc_1 ?_
                    refine xe_goto (tgt := 8) dX5_takePart_80 rfl ?_
                    refine xe_locals (L' := [(0, .ref 7), (1, .int (nI dep)), (2, .int (nI 1)), (3, .int (nI (i + 1)))]) (And.intro rfl (And.intro rfl (And.intro rfl (And.intro rfl trivial)))) ?_
                    refine ih (i + 1) (c ++ x.1 ++ [(tx_op (tk_T K t), nI 0)]) x.2 _ hs (by simpa using hg) hR ?_ (by omega) (by omega)
                    rw [List.length_append, List.length_append]
                    show n0 + (c.length + x.1.length + 1) ≤ _
                    omega
              · omega
    by_cases hb : tk_T K t = 15
    · rw [if_pos (Or.inr hb)]
      have hk5 : q_I h 7 5 = nI 47 := h5.trans (by rw [hb]; rfl)
      by_cases h400 : 400 ≤ t
      · rw [if_pos h400]
        refine xe_iload_n dX5_takePart_8 rfl ?_
        refine xe_sipush dX5_takePart_9 ks_400 ?_
        refine xn_icmp_ge (tgt := 83) dX5_takePart_12 rfl (by omega) (by omega) (fun c1 => ?_) (fun c1 => ?_)
        · omega
        · refine xe_iload_n dX5_takePart_15 rfl ?_
          refine xn_if_eq (tgt := 83) dX5_takePart_16 rfl (by omega) (fun c2 => ?_) (fun c2 => ?_)
          · omega
          · refine xe_aload_n dX5_takePart_19 rfl ?_
            refine xe_getIv dX5_takePart_20 flX5_41 (st7 hs) (by decide) rfl (v := nI 47) (hk5) ?_
            refine xe_bipush dX5_takePart_23 kb_42 ?_
            refine xn_icmp_eq (tgt := 37) dX5_takePart_25 rfl (by omega) (by omega) (fun c3 => ?_) (fun c3 => ?_)
            · omega
            · refine xe_aload_n dX5_takePart_28 rfl ?_
              refine xe_getIv dX5_takePart_29 flX5_41 (st7 hs) (by decide) rfl (v := nI 47) (hk5) ?_
              refine xe_bipush dX5_takePart_32 kb_47 ?_
              refine xn_icmp_ne (tgt := 83) dX5_takePart_34 rfl (by omega) (by omega) (fun c4 => ?_) (fun c4 => ?_)
              · omega
              · refine xe_aload_n dX5_takePart_37 rfl ?_
                refine xe_getIv dX5_takePart_38 flX5_41 (st7 hs) (by decide) rfl (v := nI 47) (hk5) ?_
                refine xe_istore dX5_takePart_41 (by decide) rfl ?_
                refine xe_aload_n dX5_takePart_43 rfl ?_
                refine xe_iload dX5_takePart_44 rfl ?_
                refine xe_callVIq (d' := 0) (y' := mX5_take) dX5_takePart_46 mlX5_63 mvX5_take rfl (st7 hs) (by decide) rfl (by omega) (by decide) (Nat.le_of_ble_eq_true rfl) (b_take22 l g _ hs hR hn (by first | omega | (simp only [List.length_append, List.length_nil, List.length_cons]; omega)) 15 47 rfl (by decide) (by decide) (tx_ck_2 hb h400)) rfl (fun g5 g5q => ?_)
                have hs := bad_s hs g5q
                have hb := gd_bad hg (by first | omega | (simp only [List.length_append, List.length_nil, List.length_cons]; omega)) g5q
                obtain ⟨nb, hnb, hnb2⟩ := g5q.1.2.2
                have hI2 := em_P g5q.1 hI2
                have hI3 := em_P g5q.1 hI3
                refine xn_if_eq (tgt := 64) dX5_takePart_49 rfl (by omega) (fun c6 => ?_) (fun c6 => ?_)
                · refine xe_iconst dX5_takePart_64 kc_0 ?_
                  refine xe_istore_n (i := 2) dX5_takePart_65 rfl (by decide) rfl ?_
                  refine xe_aload_n dX5_takePart_66 rfl ?_
                  refine xe_getP dX5_takePart_67 flX5_26 (st7 hs) (by decide) rfl hI3 ?_
                  refine xe_iload dX5_takePart_70 rfl ?_
                  refine xe_iconst dX5_takePart_72 kc_0 ?_
                  refine xe_callVIn (d' := 0) (y' := mX3_emit) dX5_takePart_73 mlX5_150 mvX3_emit rfl (st22 hs) (by decide) rfl (by omega) (by decide) (Nat.le_of_ble_eq_true rfl) (b_emit22 l g _ hs hnb hnb2 _ _) rfl (fun g7v g7 g7q => ?_)
                  have hs : q_Stat g7 := q_Stat_2 g7q.2.1.1 hs
                  have hb := bad_em hb g7q.2
                  have hI2 := em_P g7q.2.1 hI2
                  have hI3 := em_P g7q.2.1 hI3
                  refine xe_pop dX5_takePart_76 rfl ?_
                  refine xn_iinc dX5_takePart_77 rfl kc_1 ?_
                  refine xe_goto (tgt := 8) dX5_takePart_80 rfl ?_
                  refine xe_locals (L' := [(0, .ref 7), (1, .int (nI dep)), (2, .int (nI 0)), (3, .int (nI (i + 1)))]) (And.intro rfl (And.intro rfl (And.intro rfl (And.intro rfl trivial)))) ?_
                  exact po_takePart22 l g _ hs (by omega) ⟨rfl, hb⟩
                · omega
      · rw [if_neg h400]
        cases hu : U (t + 1) with
        | inl er =>
          refine xe_iload_n dX5_takePart_8 rfl ?_
          refine xe_sipush dX5_takePart_9 ks_400 ?_
          refine xn_icmp_ge (tgt := 83) dX5_takePart_12 rfl (by omega) (by omega) (fun c1 => ?_) (fun c1 => ?_)
          · omega
          · refine xe_iload_n dX5_takePart_15 rfl ?_
            refine xn_if_eq (tgt := 83) dX5_takePart_16 rfl (by omega) (fun c2 => ?_) (fun c2 => ?_)
            · omega
            · refine xe_aload_n dX5_takePart_19 rfl ?_
              refine xe_getIv dX5_takePart_20 flX5_41 (st7 hs) (by decide) rfl (v := nI 47) (hk5) ?_
              refine xe_bipush dX5_takePart_23 kb_42 ?_
              refine xn_icmp_eq (tgt := 37) dX5_takePart_25 rfl (by omega) (by omega) (fun c3 => ?_) (fun c3 => ?_)
              · omega
              · refine xe_aload_n dX5_takePart_28 rfl ?_
                refine xe_getIv dX5_takePart_29 flX5_41 (st7 hs) (by decide) rfl (v := nI 47) (hk5) ?_
                refine xe_bipush dX5_takePart_32 kb_47 ?_
                refine xn_icmp_ne (tgt := 83) dX5_takePart_34 rfl (by omega) (by omega) (fun c4 => ?_) (fun c4 => ?_)
                · omega
                · refine xe_aload_n dX5_takePart_37 rfl ?_
                  refine xe_getIv dX5_takePart_38 flX5_41 (st7 hs) (by decide) rfl (v := nI 47) (hk5) ?_
                  refine xe_istore dX5_takePart_41 (by decide) rfl ?_
                  refine xe_aload_n dX5_takePart_43 rfl ?_
                  refine xe_iload dX5_takePart_44 rfl ?_
                  refine xe_callVIq (d' := 0) (y' := mX5_take) dX5_takePart_46 mlX5_63 mvX5_take rfl (st7 hs) (by decide) rfl (by omega) (by decide) (Nat.le_of_ble_eq_true rfl) (g_take22 l g _ hs hR hn 15 47 rfl (by decide) (by decide) (by decide) (tx_ck_0 hb (by omega))) rfl (fun g5 g5q => ?_)
                  have hR := gd_R (by decide : 22 = 10 ∨ 22 = 22) hR g5q
                  have hs := gd_s hs g5q
                  have hg := gd_tk hg g5q
                  have hn := gd_n hg
                  have h4 := hR.2.2.2.2.1
                  have hI2 := hR.1
                  have hI3 := hR.2.1
                  refine xn_if_eq (tgt := 64) dX5_takePart_49 rfl (by omega) (fun c6 => ?_) (fun c6 => ?_)
                  · omega
                  · refine xe_aload_n dX5_takePart_52 rfl ?_
                    refine xe_iload_n dX5_takePart_53 rfl ?_
                    refine xe_callVIq (d' := d) (y' := mX5_takeUnit) dX5_takePart_54 mlX5_160 mvX5_takeUnit rfl (st7 hs) (by decide) rfl (by omega) (by decide) (Nat.le_of_ble_eq_true rfl) ((show q_Ct l g d _ _ _ (fun r h1 => r = some (.int (nI 0)) ∧ q_bad K 22 _ er h1) from by have hC := hU _ hs _ _ hR hn (by first | omega | (simp only [List.length_append, List.length_nil, List.length_cons]; omega)); rw [hu] at hC; exact hC)) rfl (fun g7 g7q => ?_)
                    have hs := bad_s hs g7q
                    have hb := gd_bad hg (by first | omega | (simp only [List.length_append, List.length_nil, List.length_cons]; omega)) g7q
                    obtain ⟨nb, hnb, hnb2⟩ := g7q.1.2.2
                    have hI2 := em_P g7q.1 hI2
                    have hI3 := em_P g7q.1 hI3
                    refine xn_if_eq (tgt := 64) dX5_takePart_57 rfl (by omega) (fun c8 => ?_) (fun c8 => ?_)
                    · refine xe_iconst dX5_takePart_64 kc_0 ?_
                      refine xe_istore_n (i := 2) dX5_takePart_65 rfl (by decide) rfl ?_
                      refine xe_aload_n dX5_takePart_66 rfl ?_
                      refine xe_getP dX5_takePart_67 flX5_26 (st7 hs) (by decide) rfl hI3 ?_
                      refine xe_iload dX5_takePart_70 rfl ?_
                      refine xe_iconst dX5_takePart_72 kc_0 ?_
                      refine xe_callVIn (d' := 0) (y' := mX3_emit) dX5_takePart_73 mlX5_150 mvX3_emit rfl (st22 hs) (by decide) rfl (by omega) (by decide) (Nat.le_of_ble_eq_true rfl) (b_emit22 l g _ hs hnb hnb2 _ _) rfl (fun g9v g9 g9q => ?_)
                      have hs : q_Stat g9 := q_Stat_2 g9q.2.1.1 hs
                      have hb := bad_em hb g9q.2
                      have hI2 := em_P g9q.2.1 hI2
                      have hI3 := em_P g9q.2.1 hI3
                      refine xe_pop dX5_takePart_76 rfl ?_
                      refine xn_iinc dX5_takePart_77 rfl kc_1 ?_
                      refine xe_goto (tgt := 8) dX5_takePart_80 rfl ?_
                      refine xe_locals (L' := [(0, .ref 7), (1, .int (nI dep)), (2, .int (nI 0)), (3, .int (nI (i + 1)))]) (And.intro rfl (And.intro rfl (And.intro rfl (And.intro rfl trivial)))) ?_
                      exact po_takePart22 l g _ hs (by omega) ⟨rfl, hb⟩
                    · omega
        | inr x =>
          obtain ⟨g1, g2, g3, g4, g5⟩ := hG _ _ hu
          refine xe_iload_n dX5_takePart_8 rfl ?_
          refine xe_sipush dX5_takePart_9 ks_400 ?_
          refine xn_icmp_ge (tgt := 83) dX5_takePart_12 rfl (by omega) (by omega) (fun c1 => ?_) (fun c1 => ?_)
          · omega
          · refine xe_iload_n dX5_takePart_15 rfl ?_
            refine xn_if_eq (tgt := 83) dX5_takePart_16 rfl (by omega) (fun c2 => ?_) (fun c2 => ?_)
            · omega
            · refine xe_aload_n dX5_takePart_19 rfl ?_
              refine xe_getIv dX5_takePart_20 flX5_41 (st7 hs) (by decide) rfl (v := nI 47) (hk5) ?_
              refine xe_bipush dX5_takePart_23 kb_42 ?_
              refine xn_icmp_eq (tgt := 37) dX5_takePart_25 rfl (by omega) (by omega) (fun c3 => ?_) (fun c3 => ?_)
              · omega
              · refine xe_aload_n dX5_takePart_28 rfl ?_
                refine xe_getIv dX5_takePart_29 flX5_41 (st7 hs) (by decide) rfl (v := nI 47) (hk5) ?_
                refine xe_bipush dX5_takePart_32 kb_47 ?_
                refine xn_icmp_ne (tgt := 83) dX5_takePart_34 rfl (by omega) (by omega) (fun c4 => ?_) (fun c4 => ?_)
                · omega
                · refine xe_aload_n dX5_takePart_37 rfl ?_
                  refine xe_getIv dX5_takePart_38 flX5_41 (st7 hs) (by decide) rfl (v := nI 47) (hk5) ?_
                  refine xe_istore dX5_takePart_41 (by decide) rfl ?_
                  refine xe_aload_n dX5_takePart_43 rfl ?_
                  refine xe_iload dX5_takePart_44 rfl ?_
                  refine xe_callVIq (d' := 0) (y' := mX5_take) dX5_takePart_46 mlX5_63 mvX5_take rfl (st7 hs) (by decide) rfl (by omega) (by decide) (Nat.le_of_ble_eq_true rfl) (g_take22 l g _ hs hR hn 15 47 rfl (by decide) (by decide) (by decide) (tx_ck_0 hb (by omega))) rfl (fun g5 g5q => ?_)
                  have hR := gd_R (by decide : 22 = 10 ∨ 22 = 22) hR g5q
                  have hs := gd_s hs g5q
                  have hg := gd_tk hg g5q
                  have hn := gd_n hg
                  have h4 := hR.2.2.2.2.1
                  have hI2 := hR.1
                  have hI3 := hR.2.1
                  refine xn_if_eq (tgt := 64) dX5_takePart_49 rfl (by omega) (fun c6 => ?_) (fun c6 => ?_)
                  · omega
                  · refine xe_aload_n dX5_takePart_52 rfl ?_
                    refine xe_iload_n dX5_takePart_53 rfl ?_
                    refine xe_callVIq (d' := d) (y' := mX5_takeUnit) dX5_takePart_54 mlX5_160 mvX5_takeUnit rfl (st7 hs) (by decide) rfl (by omega) (by decide) (Nat.le_of_ble_eq_true rfl) ((show q_Ct l g d _ _ _ (fun r h1 => r = some (.int (nI 1)) ∧ q_gd K m 22 _ _ x h1) from by have hC := hU _ hs _ _ hR hn (by first | omega | (simp only [List.length_append, List.length_nil, List.length_cons]; omega)); rw [hu] at hC; exact hC)) rfl (fun g7 g7q => ?_)
                    have hR := gd_R (by decide : 22 = 10 ∨ 22 = 22) hR g7q
                    have hs := gd_s hs g7q
                    have hg := gd_app hg g7q
                    have hn := gd_n hg
                    have h4 := hR.2.2.2.2.1
                    have hI2 := hR.1
                    have hI3 := hR.2.1
                    refine xn_if_eq (tgt := 64) dX5_takePart_57 rfl (by omega) (fun c8 => ?_) (fun c8 => ?_)
                    · omega
                    · refine xe_iconst dX5_takePart_60 kc_1 ?_
                      refine xe_goto (tgt := 65) dX5_takePart_61 rfl ?_
                      refine xe_istore_n (i := 2) dX5_takePart_65 rfl (by decide) rfl ?_
                      refine xe_aload_n dX5_takePart_66 rfl ?_
                      refine xe_getP dX5_takePart_67 flX5_26 (st7 hs) (by decide) rfl hI3 ?_
                      refine xe_iload dX5_takePart_70 rfl ?_
                      refine xe_iconst dX5_takePart_72 kc_0 ?_
                      refine xe_callVIq (d' := 0) (y' := mX3_emit) dX5_takePart_73 mlX5_150 mvX3_emit rfl (st22 hs) (by decide) rfl (by omega) (by decide) (Nat.le_of_ble_eq_true rfl) (g_emit22 l g _ hs hR hn (by first | omega | (simp only [List.length_append, List.length_nil, List.length_cons]; omega)) (tx_op (tk_T K t)) _ (nI 0) _ (by rw [hb]; rfl) rfl) rfl (fun g9 g9q => ?_)
                      have hR := gd_R (by decide : 22 = 10 ∨ 22 = 22) hR g9q
                      have hs := gd_s hs g9q
                      have hg := gd_app hg g9q
                      have hn := gd_n hg
                      have h4 := hR.2.2.2.2.1
                      have hI2 := hR.1
                      have hI3 := hR.2.1
                      refine xe_pop dX5_takePart_76 rfl ?_
                      refine xn_iinc dX5_takePart_77 rfl kc_1 ?_
                      refine xe_goto (tgt := 8) dX5_takePart_80 rfl ?_
                      refine xe_locals (L' := [(0, .ref 7), (1, .int (nI dep)), (2, .int (nI 1)), (3, .int (nI (i + 1)))]) (And.intro rfl (And.intro rfl (And.intro rfl (And.intro rfl trivial)))) ?_
                      refine ih (i + 1) (c ++ x.1 ++ [(tx_op (tk_T K t), nI 0)]) x.2 _ hs (by simpa using hg) hR ?_ (by omega) (by omega)
                      rw [List.length_append, List.length_append]
                      show n0 + (c.length + x.1.length + 1) ≤ _
                      omega
    · rw [if_neg (fun q => q.elim ha hb)]
      refine xe_iload_n dX5_takePart_8 rfl ?_
      refine xe_sipush dX5_takePart_9 ks_400 ?_
      refine xn_icmp_ge (tgt := 83) dX5_takePart_12 rfl (by omega) (by omega) (fun c1 => ?_) (fun c1 => ?_)
      · omega
      · refine xe_iload_n dX5_takePart_15 rfl ?_
        refine xn_if_eq (tgt := 83) dX5_takePart_16 rfl (by omega) (fun c2 => ?_) (fun c2 => ?_)
        · omega
        · refine xe_aload_n dX5_takePart_19 rfl ?_
          refine xe_getIv dX5_takePart_20 flX5_41 (st7 hs) (by decide) rfl (v := (q_kap (tk_T K t))) (h5) ?_
          refine xe_bipush dX5_takePart_23 kb_42 ?_
          refine xe_icmp_eq (tgt := 37) dX5_takePart_25 rfl (fun c3 => ?_) (fun c3 => ?_)
          · exact absurd (q_kap_inj (b := 10) hok (by decide) (by decide) c3) ha
          · refine xe_aload_n dX5_takePart_28 rfl ?_
            refine xe_getIv dX5_takePart_29 flX5_41 (st7 hs) (by decide) rfl (v := (q_kap (tk_T K t))) (h5) ?_
            refine xe_bipush dX5_takePart_32 kb_47 ?_
            refine xe_icmp_ne (tgt := 83) dX5_takePart_34 rfl (fun c4 => ?_) (fun c4 => ?_)
            · refine xe_iload_n dX5_takePart_83 rfl ?_
              refine xe_ireturn dX5_takePart_84 rfl (by first | rfl | decide +kernel) ?_
              exact ⟨rfl, hg⟩
            · exact absurd (q_kap_inj (b := 15) hok (by decide) (by decide) c4) hb
theorem xc_takePart22 (l : Launch) (g : q_GP) {K : q_TK} {m d dep e : Nat} {U : Nat → q_XR} (hU : q_XC l g mX5_takeUnit 22 K m d dep U) (hG : tx_good e U) : q_XC l g mX5_takePart 22 K m (d + 1) dep (tx_seq (tk_T K) 10 15 U) := by
  intro h hs t n hR hn hnt
  have hg := gd_r hR hn
  have hn := gd_n hg
  have h4 := hR.2.2.2.2.1
  have hI2 := hR.1
  have hI3 := hR.2.1
  have h4m := hR.2.2.1.1
  have htm := hR.2.2.2.1
  unfold tx_seq
  cases hu : U t with
  | inl er =>
    refine q_CtV mvX5_takePart (Nat.le_of_ble_eq_true rfl) ?_
    refine xe_aload_n dX5_takePart_0 rfl ?_
    refine xe_iload_n dX5_takePart_1 rfl ?_
    refine xe_callVIq (d' := d) (y' := mX5_takeUnit) dX5_takePart_2 mlX5_160 mvX5_takeUnit rfl (st7 hs) (by decide) rfl (by omega) (by decide) (Nat.le_of_ble_eq_true rfl) ((show q_Ct l g d _ _ _ (fun r h1 => r = some (.int (nI 0)) ∧ q_bad K 22 _ er h1) from by have hC := hU _ hs _ _ hR hn (by first | omega | (simp only [List.length_append, List.length_nil, List.length_cons]; omega)); rw [hu] at hC; exact hC)) rfl (fun g1 g1q => ?_)
    have hs := bad_s hs g1q
    have hb := gd_bad hg (by first | omega | (simp only [List.length_append, List.length_nil, List.length_cons]; omega)) g1q
    obtain ⟨nb, hnb, hnb2⟩ := g1q.1.2.2
    have hI2 := em_P g1q.1 hI2
    have hI3 := em_P g1q.1 hI3
    refine xe_istore_n (i := 2) dX5_takePart_5 rfl (by decide) rfl ?_
    refine xe_iconst dX5_takePart_6 kc_0 ?_
    refine xe_istore_n (i := 3) dX5_takePart_7 rfl (by decide) rfl ?_
    refine xe_locals (L' := [(0, .ref 7), (1, .int (nI dep)), (2, .int (nI 0)), (3, .int (nI 0))]) (And.intro rfl (And.intro rfl (And.intro rfl (And.intro rfl trivial)))) ?_
    exact po_takePart22 l g _ hs (by decide) ⟨rfl, hb⟩
  | inr x =>
    obtain ⟨g1, g2, g3, g4, g5⟩ := hG _ _ hu
    refine q_CtV mvX5_takePart (Nat.le_of_ble_eq_true rfl) ?_
    refine xe_aload_n dX5_takePart_0 rfl ?_
    refine xe_iload_n dX5_takePart_1 rfl ?_
    refine xe_callVIq (d' := d) (y' := mX5_takeUnit) dX5_takePart_2 mlX5_160 mvX5_takeUnit rfl (st7 hs) (by decide) rfl (by omega) (by decide) (Nat.le_of_ble_eq_true rfl) ((show q_Ct l g d _ _ _ (fun r h1 => r = some (.int (nI 1)) ∧ q_gd K m 22 _ _ x h1) from by have hC := hU _ hs _ _ hR hn (by first | omega | (simp only [List.length_append, List.length_nil, List.length_cons]; omega)); rw [hu] at hC; exact hC)) rfl (fun g1 g1q => ?_)
    have hR := gd_R (by decide : 22 = 10 ∨ 22 = 22) hR g1q
    have hs := gd_s hs g1q
    have hg := gd_app hg g1q
    have hn := gd_n hg
    have h4 := hR.2.2.2.2.1
    have hI2 := hR.1
    have hI3 := hR.2.1
    refine xe_istore_n (i := 2) dX5_takePart_5 rfl (by decide) rfl ?_
    refine xe_iconst dX5_takePart_6 kc_0 ?_
    refine xe_istore_n (i := 3) dX5_takePart_7 rfl (by decide) rfl ?_
    refine xe_locals (L' := [(0, .ref 7), (1, .int (nI dep)), (2, .int (nI 1)), (3, .int (nI 0))]) (And.intro rfl (And.intro rfl (And.intro rfl (And.intro rfl trivial)))) ?_
    exact pl_takePart22 l g hU hG 401 0 x.1 x.2 _ hs hg hR (by omega) rfl (by omega)
theorem po_takeSum22 (l : Launch) (g : q_GP) (h : q_H) (hs : q_Stat h) {d dep i : Nat} (hi : i < 2 ^ 30) {Q : Option Value → q_H → Prop} (q : Q (some (.int (nI 0))) h) : q_Ex l g d mX5_takeSum 8 [(0, .ref 7), (1, .int (nI dep)), (2, .int (nI 0)), (3, .int (nI i))] [] h Q := by
  refine xe_iload_n dX5_takeSum_8 rfl ?_
  refine xe_sipush dX5_takeSum_9 ks_400 ?_
  refine xn_icmp_ge (tgt := 83) dX5_takeSum_12 rfl (by omega) (by omega) (fun c1 => ?_) (fun c1 => ?_)
  · refine xe_iload_n dX5_takeSum_83 rfl ?_
    refine xe_ireturn dX5_takeSum_84 rfl (by first | rfl | decide +kernel) ?_
    exact q
  · refine xe_iload_n dX5_takeSum_15 rfl ?_
    refine xn_if_eq (tgt := 83) dX5_takeSum_16 rfl (by omega) (fun c2 => ?_) (fun c2 => ?_)
    · refine xe_iload_n dX5_takeSum_83 rfl ?_
      refine xe_ireturn dX5_takeSum_84 rfl (by first | rfl | decide +kernel) ?_
      exact q
    · omega
theorem pl_takeSum22 (l : Launch) (g : q_GP) {K : q_TK} {m d dep e : Nat} {U : Nat → q_XR} (hU : q_XC l g mX5_takePart 22 K m d dep U) (hG : tx_good e U) {h0 : q_H} {n0 : Nat} : ∀ (f i : Nat) (c : List (Nat × Int32)) (t : Nat) (h : q_H), q_Stat h → q_gd K m 22 n0 h0 (c, t) h → ck_R h K m 22 t → n0 + c.length ≤ 10 + t → i + f = 401 → 2 * i + 1 ≤ t → q_Ex l g (d + 1) mX5_takeSum 8 [(0, .ref 7), (1, .int (nI dep)), (2, .int (nI 1)), (3, .int (nI i))] [] h (q_ans K m 22 n0 h0 (tx_pl (tk_T K) 8 9 U f c t)) := by
  intro f
  induction f with
  | zero =>
    intro i c t h hs hg hR hnt hif hit
    have h4m := hR.2.2.1.1
    have htm := hR.2.2.2.1
    omega
  | succ f ih =>
    intro i c t h hs hg hR hnt hif hit
    have h4m := hR.2.2.1.1
    have htm := hR.2.2.2.1
    have hn : q_I h 22 2 = nI (n0 + c.length) := gd_n hg
    have h4 := hR.2.2.2.2.1
    have hI2 := hR.1
    have hI3 := hR.2.1
    have h5 := hR.2.2.2.2.2
    have hok := (hR.2.2.1.2.2 t htm).1
    rw [tx_pl]
    by_cases ha : tk_T K t = 8
    · rw [if_pos (Or.inl ha)]
      have hk5 : q_I h 7 5 = nI 43 := h5.trans (by rw [ha]; rfl)
      by_cases h400 : 400 ≤ t
      · rw [if_pos h400]
        refine xe_iload_n dX5_takeSum_8 rfl ?_
        refine xe_sipush dX5_takeSum_9 ks_400 ?_
        refine xn_icmp_ge (tgt := 83) dX5_takeSum_12 rfl (by omega) (by omega) (fun c1 => ?_) (fun c1 => ?_)
        · omega
        · refine xe_iload_n dX5_takeSum_15 rfl ?_
          refine xn_if_eq (tgt := 83) dX5_takeSum_16 rfl (by omega) (fun c2 => ?_) (fun c2 => ?_)
          · omega
          · refine xe_aload_n dX5_takeSum_19 rfl ?_
            refine xe_getIv dX5_takeSum_20 flX5_41 (st7 hs) (by decide) rfl (v := nI 43) (hk5) ?_
            refine xe_bipush dX5_takeSum_23 kb_43 ?_
            refine xn_icmp_eq (tgt := 37) dX5_takeSum_25 rfl (by omega) (by omega) (fun c3 => ?_) (fun c3 => ?_)
            · refine xe_aload_n dX5_takeSum_37 rfl ?_
              refine xe_getIv dX5_takeSum_38 flX5_41 (st7 hs) (by decide) rfl (v := nI 43) (hk5) ?_
              refine xe_istore dX5_takeSum_41 (by decide) rfl ?_
              refine xe_aload_n dX5_takeSum_43 rfl ?_
              refine xe_iload dX5_takeSum_44 rfl ?_
              refine xe_callVIq (d' := 0) (y' := mX5_take) dX5_takeSum_46 mlX5_63 mvX5_take rfl (st7 hs) (by decide) rfl (by omega) (by decide) (Nat.le_of_ble_eq_true rfl) (b_take22 l g _ hs hR hn (by first | omega | (simp only [List.length_append, List.length_nil, List.length_cons]; omega)) 8 43 rfl (by decide) (by decide) (tx_ck_2 ha h400)) rfl (fun g4 g4q => ?_)
              have hs := bad_s hs g4q
              have hb := gd_bad hg (by first | omega | (simp only [List.length_append, List.length_nil, List.length_cons]; omega)) g4q
              obtain ⟨nb, hnb, hnb2⟩ := g4q.1.2.2
              have hI2 := em_P g4q.1 hI2
              have hI3 := em_P g4q.1 hI3
              refine xn_if_eq (tgt := 64) dX5_takeSum_49 rfl (by omega) (fun c5 => ?_) (fun c5 => ?_)
              · refine xe_iconst dX5_takeSum_64 kc_0 ?_
                refine xe_istore_n (i := 2) dX5_takeSum_65 rfl (by decide) rfl ?_
                refine xe_aload_n dX5_takeSum_66 rfl ?_
                refine xe_getP dX5_takeSum_67 flX5_26 (st7 hs) (by decide) rfl hI3 ?_
                refine xe_iload dX5_takeSum_70 rfl ?_
                refine xe_iconst dX5_takeSum_72 kc_0 ?_
                refine xe_callVIn (d' := 0) (y' := mX3_emit) dX5_takeSum_73 mlX5_150 mvX3_emit rfl (st22 hs) (by decide) rfl (by omega) (by decide) (Nat.le_of_ble_eq_true rfl) (b_emit22 l g _ hs hnb hnb2 _ _) rfl (fun g6v g6 g6q => ?_)
                have hs : q_Stat g6 := q_Stat_2 g6q.2.1.1 hs
                have hb := bad_em hb g6q.2
                have hI2 := em_P g6q.2.1 hI2
                have hI3 := em_P g6q.2.1 hI3
                refine xe_pop dX5_takeSum_76 rfl ?_
                refine xn_iinc dX5_takeSum_77 rfl kc_1 ?_
                refine xe_goto (tgt := 8) dX5_takeSum_80 rfl ?_
                refine xe_locals (L' := [(0, .ref 7), (1, .int (nI dep)), (2, .int (nI 0)), (3, .int (nI (i + 1)))]) (And.intro rfl (And.intro rfl (And.intro rfl (And.intro rfl trivial)))) ?_
                exact po_takeSum22 l g _ hs (by omega) ⟨rfl, hb⟩
              · omega
            · omega
      · rw [if_neg h400]
        cases hu : U (t + 1) with
        | inl er =>
          refine xe_iload_n dX5_takeSum_8 rfl ?_
          refine xe_sipush dX5_takeSum_9 ks_400 ?_
          refine xn_icmp_ge (tgt := 83) dX5_takeSum_12 rfl (by omega) (by omega) (fun c1 => ?_) (fun c1 => ?_)
          · omega
          · refine xe_iload_n dX5_takeSum_15 rfl ?_
            refine xn_if_eq (tgt := 83) dX5_takeSum_16 rfl (by omega) (fun c2 => ?_) (fun c2 => ?_)
            · omega
            · refine xe_aload_n dX5_takeSum_19 rfl ?_
              refine xe_getIv dX5_takeSum_20 flX5_41 (st7 hs) (by decide) rfl (v := nI 43) (hk5) ?_
              refine xe_bipush dX5_takeSum_23 kb_43 ?_
              refine xn_icmp_eq (tgt := 37) dX5_takeSum_25 rfl (by omega) (by omega) (fun c3 => ?_) (fun c3 => ?_)
              · refine xe_aload_n dX5_takeSum_37 rfl ?_
                refine xe_getIv dX5_takeSum_38 flX5_41 (st7 hs) (by decide) rfl (v := nI 43) (hk5) ?_
                refine xe_istore dX5_takeSum_41 (by decide) rfl ?_
                refine xe_aload_n dX5_takeSum_43 rfl ?_
                refine xe_iload dX5_takeSum_44 rfl ?_
                refine xe_callVIq (d' := 0) (y' := mX5_take) dX5_takeSum_46 mlX5_63 mvX5_take rfl (st7 hs) (by decide) rfl (by omega) (by decide) (Nat.le_of_ble_eq_true rfl) (g_take22 l g _ hs hR hn 8 43 rfl (by decide) (by decide) (by decide) (tx_ck_0 ha (by omega))) rfl (fun g4 g4q => ?_)
                have hR := gd_R (by decide : 22 = 10 ∨ 22 = 22) hR g4q
                have hs := gd_s hs g4q
                have hg := gd_tk hg g4q
                have hn := gd_n hg
                have h4 := hR.2.2.2.2.1
                have hI2 := hR.1
                have hI3 := hR.2.1
                refine xn_if_eq (tgt := 64) dX5_takeSum_49 rfl (by omega) (fun c5 => ?_) (fun c5 => ?_)
                · omega
                · refine xe_aload_n dX5_takeSum_52 rfl ?_
                  refine xe_iload_n dX5_takeSum_53 rfl ?_
                  refine xe_callVIq (d' := d) (y' := mX5_takePart) dX5_takeSum_54 mlX5_157 mvX5_takePart rfl (st7 hs) (by decide) rfl (by omega) (by decide) (Nat.le_of_ble_eq_true rfl) ((show q_Ct l g d _ _ _ (fun r h1 => r = some (.int (nI 0)) ∧ q_bad K 22 _ er h1) from by have hC := hU _ hs _ _ hR hn (by first | omega | (simp only [List.length_append, List.length_nil, List.length_cons]; omega)); rw [hu] at hC; exact hC)) rfl (fun g6 g6q => ?_)
                  have hs := bad_s hs g6q
                  have hb := gd_bad hg (by first | omega | (simp only [List.length_append, List.length_nil, List.length_cons]; omega)) g6q
                  obtain ⟨nb, hnb, hnb2⟩ := g6q.1.2.2
                  have hI2 := em_P g6q.1 hI2
                  have hI3 := em_P g6q.1 hI3
                  refine xn_if_eq (tgt := 64) dX5_takeSum_57 rfl (by omega) (fun c7 => ?_) (fun c7 => ?_)
                  · refine xe_iconst dX5_takeSum_64 kc_0 ?_
                    refine xe_istore_n (i := 2) dX5_takeSum_65 rfl (by decide) rfl ?_
                    refine xe_aload_n dX5_takeSum_66 rfl ?_
                    refine xe_getP dX5_takeSum_67 flX5_26 (st7 hs) (by decide) rfl hI3 ?_
                    refine xe_iload dX5_takeSum_70 rfl ?_
                    refine xe_iconst dX5_takeSum_72 kc_0 ?_
                    refine xe_callVIn (d' := 0) (y' := mX3_emit) dX5_takeSum_73 mlX5_150 mvX3_emit rfl (st22 hs) (by decide) rfl (by omega) (by decide) (Nat.le_of_ble_eq_true rfl) (b_emit22 l g _ hs hnb hnb2 _ _) rfl (fun g8v g8 g8q => ?_)
                    have hs : q_Stat g8 := q_Stat_2 g8q.2.1.1 hs
                    have hb := bad_em hb g8q.2
                    have hI2 := em_P g8q.2.1 hI2
                    have hI3 := em_P g8q.2.1 hI3
                    refine xe_pop dX5_takeSum_76 rfl ?_
                    refine xn_iinc dX5_takeSum_77 rfl kc_1 ?_
                    refine xe_goto (tgt := 8) dX5_takeSum_80 rfl ?_
                    refine xe_locals (L' := [(0, .ref 7), (1, .int (nI dep)), (2, .int (nI 0)), (3, .int (nI (i + 1)))]) (And.intro rfl (And.intro rfl (And.intro rfl (And.intro rfl trivial)))) ?_
                    exact po_takeSum22 l g _ hs (by omega) ⟨rfl, hb⟩
                  · omega
              · omega
        | inr x =>
          obtain ⟨g1, g2, g3, g4, g5⟩ := hG _ _ hu
          refine xe_iload_n dX5_takeSum_8 rfl ?_
          refine xe_sipush dX5_takeSum_9 ks_400 ?_
          refine xn_icmp_ge (tgt := 83) dX5_takeSum_12 rfl (by omega) (by omega) (fun c1 => ?_) (fun c1 => ?_)
          · omega
          · refine xe_iload_n dX5_takeSum_15 rfl ?_
            refine xn_if_eq (tgt := 83) dX5_takeSum_16 rfl (by omega) (fun c2 => ?_) (fun c2 => ?_)
            · omega
            · refine xe_aload_n dX5_takeSum_19 rfl ?_
              refine xe_getIv dX5_takeSum_20 flX5_41 (st7 hs) (by decide) rfl (v := nI 43) (hk5) ?_
              refine xe_bipush dX5_takeSum_23 kb_43 ?_
              refine xn_icmp_eq (tgt := 37) dX5_takeSum_25 rfl (by omega) (by omega) (fun c3 => ?_) (fun c3 => ?_)
              · refine xe_aload_n dX5_takeSum_37 rfl ?_
                refine xe_getIv dX5_takeSum_38 flX5_41 (st7 hs) (by decide) rfl (v := nI 43) (hk5) ?_
                refine xe_istore dX5_takeSum_41 (by decide) rfl ?_
                refine xe_aload_n dX5_takeSum_43 rfl ?_
                refine xe_iload dX5_takeSum_44 rfl ?_
                refine xe_callVIq (d' := 0) (y' := mX5_take) dX5_takeSum_46 mlX5_63 mvX5_take rfl (st7 hs) (by decide) rfl (by omega) (by decide) (Nat.le_of_ble_eq_true rfl) (g_take22 l g _ hs hR hn 8 43 rfl (by decide) (by decide) (by decide) (tx_ck_0 ha (by omega))) rfl (fun g4 g4q => ?_)
                have hR := gd_R (by decide : 22 = 10 ∨ 22 = 22) hR g4q
                have hs := gd_s hs g4q
                have hg := gd_tk hg g4q
                have hn := gd_n hg
                have h4 := hR.2.2.2.2.1
                have hI2 := hR.1
                have hI3 := hR.2.1
                refine xn_if_eq (tgt := 64) dX5_takeSum_49 rfl (by omega) (fun c5 => ?_) (fun c5 => ?_)
                · omega
                · refine xe_aload_n dX5_takeSum_52 rfl ?_
                  refine xe_iload_n dX5_takeSum_53 rfl ?_
                  refine xe_callVIq (d' := d) (y' := mX5_takePart) dX5_takeSum_54 mlX5_157 mvX5_takePart rfl (st7 hs) (by decide) rfl (by omega) (by decide) (Nat.le_of_ble_eq_true rfl) ((show q_Ct l g d _ _ _ (fun r h1 => r = some (.int (nI 1)) ∧ q_gd K m 22 _ _ x h1) from by have hC := hU _ hs _ _ hR hn (by first | omega | (simp only [List.length_append, List.length_nil, List.length_cons]; omega)); rw [hu] at hC; exact hC)) rfl (fun g6 g6q => ?_)
                  have hR := gd_R (by decide : 22 = 10 ∨ 22 = 22) hR g6q
                  have hs := gd_s hs g6q
                  have hg := gd_app hg g6q
                  have hn := gd_n hg
                  have h4 := hR.2.2.2.2.1
                  have hI2 := hR.1
                  have hI3 := hR.2.1
                  refine xn_if_eq (tgt := 64) dX5_takeSum_57 rfl (by omega) (fun c7 => ?_) (fun c7 => ?_)
                  · omega
                  · refine xe_iconst dX5_takeSum_60 kc_1 ?_
                    refine xe_goto (tgt := 65) dX5_takeSum_61 rfl ?_
                    refine xe_istore_n (i := 2) dX5_takeSum_65 rfl (by decide) rfl ?_
                    refine xe_aload_n dX5_takeSum_66 rfl ?_
                    refine xe_getP dX5_takeSum_67 flX5_26 (st7 hs) (by decide) rfl hI3 ?_
                    refine xe_iload dX5_takeSum_70 rfl ?_
                    refine xe_iconst dX5_takeSum_72 kc_0 ?_
                    refine xe_callVIq (d' := 0) (y' := mX3_emit) dX5_takeSum_73 mlX5_150 mvX3_emit rfl (st22 hs) (by decide) rfl (by omega) (by decide) (Nat.le_of_ble_eq_true rfl) (g_emit22 l g _ hs hR hn (by first | omega | (simp only [List.length_append, List.length_nil, List.length_cons]; omega)) (tx_op (tk_T K t)) _ (nI 0) _ (by rw [ha]; rfl) rfl) rfl (fun g8 g8q => ?_)
                    have hR := gd_R (by decide : 22 = 10 ∨ 22 = 22) hR g8q
                    have hs := gd_s hs g8q
                    have hg := gd_app hg g8q
                    have hn := gd_n hg
                    have h4 := hR.2.2.2.2.1
                    have hI2 := hR.1
                    have hI3 := hR.2.1
                    refine xe_pop dX5_takeSum_76 rfl ?_
                    refine xn_iinc dX5_takeSum_77 rfl kc_1 ?_
                    refine xe_goto (tgt := 8) dX5_takeSum_80 rfl ?_
                    refine xe_locals (L' := [(0, .ref 7), (1, .int (nI dep)), (2, .int (nI 1)), (3, .int (nI (i + 1)))]) (And.intro rfl (And.intro rfl (And.intro rfl (And.intro rfl trivial)))) ?_
                    refine ih (i + 1) (c ++ x.1 ++ [(tx_op (tk_T K t), nI 0)]) x.2 _ hs (by simpa using hg) hR ?_ (by omega) (by omega)
                    rw [List.length_append, List.length_append]
                    show n0 + (c.length + x.1.length + 1) ≤ _
                    omega
              · omega
    by_cases hb : tk_T K t = 9
    · rw [if_pos (Or.inr hb)]
      have hk5 : q_I h 7 5 = nI 45 := h5.trans (by rw [hb]; rfl)
      by_cases h400 : 400 ≤ t
      · rw [if_pos h400]
        refine xe_iload_n dX5_takeSum_8 rfl ?_
        refine xe_sipush dX5_takeSum_9 ks_400 ?_
        refine xn_icmp_ge (tgt := 83) dX5_takeSum_12 rfl (by omega) (by omega) (fun c1 => ?_) (fun c1 => ?_)
        · omega
        · refine xe_iload_n dX5_takeSum_15 rfl ?_
          refine xn_if_eq (tgt := 83) dX5_takeSum_16 rfl (by omega) (fun c2 => ?_) (fun c2 => ?_)
          · omega
          · refine xe_aload_n dX5_takeSum_19 rfl ?_
            refine xe_getIv dX5_takeSum_20 flX5_41 (st7 hs) (by decide) rfl (v := nI 45) (hk5) ?_
            refine xe_bipush dX5_takeSum_23 kb_43 ?_
            refine xn_icmp_eq (tgt := 37) dX5_takeSum_25 rfl (by omega) (by omega) (fun c3 => ?_) (fun c3 => ?_)
            · omega
            · refine xe_aload_n dX5_takeSum_28 rfl ?_
              refine xe_getIv dX5_takeSum_29 flX5_41 (st7 hs) (by decide) rfl (v := nI 45) (hk5) ?_
              refine xe_bipush dX5_takeSum_32 kb_45 ?_
              refine xn_icmp_ne (tgt := 83) dX5_takeSum_34 rfl (by omega) (by omega) (fun c4 => ?_) (fun c4 => ?_)
              · omega
              · refine xe_aload_n dX5_takeSum_37 rfl ?_
                refine xe_getIv dX5_takeSum_38 flX5_41 (st7 hs) (by decide) rfl (v := nI 45) (hk5) ?_
                refine xe_istore dX5_takeSum_41 (by decide) rfl ?_
                refine xe_aload_n dX5_takeSum_43 rfl ?_
                refine xe_iload dX5_takeSum_44 rfl ?_
                refine xe_callVIq (d' := 0) (y' := mX5_take) dX5_takeSum_46 mlX5_63 mvX5_take rfl (st7 hs) (by decide) rfl (by omega) (by decide) (Nat.le_of_ble_eq_true rfl) (b_take22 l g _ hs hR hn (by first | omega | (simp only [List.length_append, List.length_nil, List.length_cons]; omega)) 9 45 rfl (by decide) (by decide) (tx_ck_2 hb h400)) rfl (fun g5 g5q => ?_)
                have hs := bad_s hs g5q
                have hb := gd_bad hg (by first | omega | (simp only [List.length_append, List.length_nil, List.length_cons]; omega)) g5q
                obtain ⟨nb, hnb, hnb2⟩ := g5q.1.2.2
                have hI2 := em_P g5q.1 hI2
                have hI3 := em_P g5q.1 hI3
                refine xn_if_eq (tgt := 64) dX5_takeSum_49 rfl (by omega) (fun c6 => ?_) (fun c6 => ?_)
                · refine xe_iconst dX5_takeSum_64 kc_0 ?_
                  refine xe_istore_n (i := 2) dX5_takeSum_65 rfl (by decide) rfl ?_
                  refine xe_aload_n dX5_takeSum_66 rfl ?_
                  refine xe_getP dX5_takeSum_67 flX5_26 (st7 hs) (by decide) rfl hI3 ?_
                  refine xe_iload dX5_takeSum_70 rfl ?_
                  refine xe_iconst dX5_takeSum_72 kc_0 ?_
                  refine xe_callVIn (d' := 0) (y' := mX3_emit) dX5_takeSum_73 mlX5_150 mvX3_emit rfl (st22 hs) (by decide) rfl (by omega) (by decide) (Nat.le_of_ble_eq_true rfl) (b_emit22 l g _ hs hnb hnb2 _ _) rfl (fun g7v g7 g7q => ?_)
                  have hs : q_Stat g7 := q_Stat_2 g7q.2.1.1 hs
                  have hb := bad_em hb g7q.2
                  have hI2 := em_P g7q.2.1 hI2
                  have hI3 := em_P g7q.2.1 hI3
                  refine xe_pop dX5_takeSum_76 rfl ?_
                  refine xn_iinc dX5_takeSum_77 rfl kc_1 ?_
                  refine xe_goto (tgt := 8) dX5_takeSum_80 rfl ?_
                  refine xe_locals (L' := [(0, .ref 7), (1, .int (nI dep)), (2, .int (nI 0)), (3, .int (nI (i + 1)))]) (And.intro rfl (And.intro rfl (And.intro rfl (And.intro rfl trivial)))) ?_
                  exact po_takeSum22 l g _ hs (by omega) ⟨rfl, hb⟩
                · omega
      · rw [if_neg h400]
        cases hu : U (t + 1) with
        | inl er =>
          refine xe_iload_n dX5_takeSum_8 rfl ?_
          refine xe_sipush dX5_takeSum_9 ks_400 ?_
          refine xn_icmp_ge (tgt := 83) dX5_takeSum_12 rfl (by omega) (by omega) (fun c1 => ?_) (fun c1 => ?_)
          · omega
          · refine xe_iload_n dX5_takeSum_15 rfl ?_
            refine xn_if_eq (tgt := 83) dX5_takeSum_16 rfl (by omega) (fun c2 => ?_) (fun c2 => ?_)
            · omega
            · refine xe_aload_n dX5_takeSum_19 rfl ?_
              refine xe_getIv dX5_takeSum_20 flX5_41 (st7 hs) (by decide) rfl (v := nI 45) (hk5) ?_
              refine xe_bipush dX5_takeSum_23 kb_43 ?_
              refine xn_icmp_eq (tgt := 37) dX5_takeSum_25 rfl (by omega) (by omega) (fun c3 => ?_) (fun c3 => ?_)
              · omega
              · refine xe_aload_n dX5_takeSum_28 rfl ?_
                refine xe_getIv dX5_takeSum_29 flX5_41 (st7 hs) (by decide) rfl (v := nI 45) (hk5) ?_
                refine xe_bipush dX5_takeSum_32 kb_45 ?_
                refine xn_icmp_ne (tgt := 83) dX5_takeSum_34 rfl (by omega) (by omega) (fun c4 => ?_) (fun c4 => ?_)
                · omega
                · refine xe_aload_n dX5_takeSum_37 rfl ?_
                  refine xe_getIv dX5_takeSum_38 flX5_41 (st7 hs) (by decide) rfl (v := nI 45) (hk5) ?_
                  refine xe_istore dX5_takeSum_41 (by decide) rfl ?_
                  refine xe_aload_n dX5_takeSum_43 rfl ?_
                  refine xe_iload dX5_takeSum_44 rfl ?_
                  refine xe_callVIq (d' := 0) (y' := mX5_take) dX5_takeSum_46 mlX5_63 mvX5_take rfl (st7 hs) (by decide) rfl (by omega) (by decide) (Nat.le_of_ble_eq_true rfl) (g_take22 l g _ hs hR hn 9 45 rfl (by decide) (by decide) (by decide) (tx_ck_0 hb (by omega))) rfl (fun g5 g5q => ?_)
                  have hR := gd_R (by decide : 22 = 10 ∨ 22 = 22) hR g5q
                  have hs := gd_s hs g5q
                  have hg := gd_tk hg g5q
                  have hn := gd_n hg
                  have h4 := hR.2.2.2.2.1
                  have hI2 := hR.1
                  have hI3 := hR.2.1
                  refine xn_if_eq (tgt := 64) dX5_takeSum_49 rfl (by omega) (fun c6 => ?_) (fun c6 => ?_)
                  · omega
                  · refine xe_aload_n dX5_takeSum_52 rfl ?_
                    refine xe_iload_n dX5_takeSum_53 rfl ?_
                    refine xe_callVIq (d' := d) (y' := mX5_takePart) dX5_takeSum_54 mlX5_157 mvX5_takePart rfl (st7 hs) (by decide) rfl (by omega) (by decide) (Nat.le_of_ble_eq_true rfl) ((show q_Ct l g d _ _ _ (fun r h1 => r = some (.int (nI 0)) ∧ q_bad K 22 _ er h1) from by have hC := hU _ hs _ _ hR hn (by first | omega | (simp only [List.length_append, List.length_nil, List.length_cons]; omega)); rw [hu] at hC; exact hC)) rfl (fun g7 g7q => ?_)
                    have hs := bad_s hs g7q
                    have hb := gd_bad hg (by first | omega | (simp only [List.length_append, List.length_nil, List.length_cons]; omega)) g7q
                    obtain ⟨nb, hnb, hnb2⟩ := g7q.1.2.2
                    have hI2 := em_P g7q.1 hI2
                    have hI3 := em_P g7q.1 hI3
                    refine xn_if_eq (tgt := 64) dX5_takeSum_57 rfl (by omega) (fun c8 => ?_) (fun c8 => ?_)
                    · refine xe_iconst dX5_takeSum_64 kc_0 ?_
                      refine xe_istore_n (i := 2) dX5_takeSum_65 rfl (by decide) rfl ?_
                      refine xe_aload_n dX5_takeSum_66 rfl ?_
                      refine xe_getP dX5_takeSum_67 flX5_26 (st7 hs) (by decide) rfl hI3 ?_
                      refine xe_iload dX5_takeSum_70 rfl ?_
                      refine xe_iconst dX5_takeSum_72 kc_0 ?_
                      refine xe_callVIn (d' := 0) (y' := mX3_emit) dX5_takeSum_73 mlX5_150 mvX3_emit rfl (st22 hs) (by decide) rfl (by omega) (by decide) (Nat.le_of_ble_eq_true rfl) (b_emit22 l g _ hs hnb hnb2 _ _) rfl (fun g9v g9 g9q => ?_)
                      have hs : q_Stat g9 := q_Stat_2 g9q.2.1.1 hs
                      have hb := bad_em hb g9q.2
                      have hI2 := em_P g9q.2.1 hI2
                      have hI3 := em_P g9q.2.1 hI3
                      refine xe_pop dX5_takeSum_76 rfl ?_
                      refine xn_iinc dX5_takeSum_77 rfl kc_1 ?_
                      refine xe_goto (tgt := 8) dX5_takeSum_80 rfl ?_
                      refine xe_locals (L' := [(0, .ref 7), (1, .int (nI dep)), (2, .int (nI 0)), (3, .int (nI (i + 1)))]) (And.intro rfl (And.intro rfl (And.intro rfl (And.intro rfl trivial)))) ?_
                      exact po_takeSum22 l g _ hs (by omega) ⟨rfl, hb⟩
                    · omega
        | inr x =>
          obtain ⟨g1, g2, g3, g4, g5⟩ := hG _ _ hu
          refine xe_iload_n dX5_takeSum_8 rfl ?_
          refine xe_sipush dX5_takeSum_9 ks_400 ?_
          refine xn_icmp_ge (tgt := 83) dX5_takeSum_12 rfl (by omega) (by omega) (fun c1 => ?_) (fun c1 => ?_)
          · omega
          · refine xe_iload_n dX5_takeSum_15 rfl ?_
            refine xn_if_eq (tgt := 83) dX5_takeSum_16 rfl (by omega) (fun c2 => ?_) (fun c2 => ?_)
            · omega
            · refine xe_aload_n dX5_takeSum_19 rfl ?_
              refine xe_getIv dX5_takeSum_20 flX5_41 (st7 hs) (by decide) rfl (v := nI 45) (hk5) ?_
              refine xe_bipush dX5_takeSum_23 kb_43 ?_
              refine xn_icmp_eq (tgt := 37) dX5_takeSum_25 rfl (by omega) (by omega) (fun c3 => ?_) (fun c3 => ?_)
              · omega
              · refine xe_aload_n dX5_takeSum_28 rfl ?_
                refine xe_getIv dX5_takeSum_29 flX5_41 (st7 hs) (by decide) rfl (v := nI 45) (hk5) ?_
                refine xe_bipush dX5_takeSum_32 kb_45 ?_
                refine xn_icmp_ne (tgt := 83) dX5_takeSum_34 rfl (by omega) (by omega) (fun c4 => ?_) (fun c4 => ?_)
                · omega
                · refine xe_aload_n dX5_takeSum_37 rfl ?_
                  refine xe_getIv dX5_takeSum_38 flX5_41 (st7 hs) (by decide) rfl (v := nI 45) (hk5) ?_
                  refine xe_istore dX5_takeSum_41 (by decide) rfl ?_
                  refine xe_aload_n dX5_takeSum_43 rfl ?_
                  refine xe_iload dX5_takeSum_44 rfl ?_
                  refine xe_callVIq (d' := 0) (y' := mX5_take) dX5_takeSum_46 mlX5_63 mvX5_take rfl (st7 hs) (by decide) rfl (by omega) (by decide) (Nat.le_of_ble_eq_true rfl) (g_take22 l g _ hs hR hn 9 45 rfl (by decide) (by decide) (by decide) (tx_ck_0 hb (by omega))) rfl (fun g5 g5q => ?_)
                  have hR := gd_R (by decide : 22 = 10 ∨ 22 = 22) hR g5q
                  have hs := gd_s hs g5q
                  have hg := gd_tk hg g5q
                  have hn := gd_n hg
                  have h4 := hR.2.2.2.2.1
                  have hI2 := hR.1
                  have hI3 := hR.2.1
                  refine xn_if_eq (tgt := 64) dX5_takeSum_49 rfl (by omega) (fun c6 => ?_) (fun c6 => ?_)
                  · omega
                  · refine xe_aload_n dX5_takeSum_52 rfl ?_
                    refine xe_iload_n dX5_takeSum_53 rfl ?_
                    refine xe_callVIq (d' := d) (y' := mX5_takePart) dX5_takeSum_54 mlX5_157 mvX5_takePart rfl (st7 hs) (by decide) rfl (by omega) (by decide) (Nat.le_of_ble_eq_true rfl) ((show q_Ct l g d _ _ _ (fun r h1 => r = some (.int (nI 1)) ∧ q_gd K m 22 _ _ x h1) from by have hC := hU _ hs _ _ hR hn (by first | omega | (simp only [List.length_append, List.length_nil, List.length_cons]; omega)); rw [hu] at hC; exact hC)) rfl (fun g7 g7q => ?_)
                    have hR := gd_R (by decide : 22 = 10 ∨ 22 = 22) hR g7q
                    have hs := gd_s hs g7q
                    have hg := gd_app hg g7q
                    have hn := gd_n hg
                    have h4 := hR.2.2.2.2.1
                    have hI2 := hR.1
                    have hI3 := hR.2.1
                    refine xn_if_eq (tgt := 64) dX5_takeSum_57 rfl (by omega) (fun c8 => ?_) (fun c8 => ?_)
                    · omega
                    · refine xe_iconst dX5_takeSum_60 kc_1 ?_
                      refine xe_goto (tgt := 65) dX5_takeSum_61 rfl ?_
                      refine xe_istore_n (i := 2) dX5_takeSum_65 rfl (by decide) rfl ?_
                      refine xe_aload_n dX5_takeSum_66 rfl ?_
                      refine xe_getP dX5_takeSum_67 flX5_26 (st7 hs) (by decide) rfl hI3 ?_
                      refine xe_iload dX5_takeSum_70 rfl ?_
                      refine xe_iconst dX5_takeSum_72 kc_0 ?_
                      refine xe_callVIq (d' := 0) (y' := mX3_emit) dX5_takeSum_73 mlX5_150 mvX3_emit rfl (st22 hs) (by decide) rfl (by omega) (by decide) (Nat.le_of_ble_eq_true rfl) (g_emit22 l g _ hs hR hn (by first | omega | (simp only [List.length_append, List.length_nil, List.length_cons]; omega)) (tx_op (tk_T K t)) _ (nI 0) _ (by rw [hb]; rfl) rfl) rfl (fun g9 g9q => ?_)
                      have hR := gd_R (by decide : 22 = 10 ∨ 22 = 22) hR g9q
                      have hs := gd_s hs g9q
                      have hg := gd_app hg g9q
                      have hn := gd_n hg
                      have h4 := hR.2.2.2.2.1
                      have hI2 := hR.1
                      have hI3 := hR.2.1
                      refine xe_pop dX5_takeSum_76 rfl ?_
                      refine xn_iinc dX5_takeSum_77 rfl kc_1 ?_
                      refine xe_goto (tgt := 8) dX5_takeSum_80 rfl ?_
                      refine xe_locals (L' := [(0, .ref 7), (1, .int (nI dep)), (2, .int (nI 1)), (3, .int (nI (i + 1)))]) (And.intro rfl (And.intro rfl (And.intro rfl (And.intro rfl trivial)))) ?_
                      refine ih (i + 1) (c ++ x.1 ++ [(tx_op (tk_T K t), nI 0)]) x.2 _ hs (by simpa using hg) hR ?_ (by omega) (by omega)
                      rw [List.length_append, List.length_append]
                      show n0 + (c.length + x.1.length + 1) ≤ _
                      omega
    · rw [if_neg (fun q => q.elim ha hb)]
      refine xe_iload_n dX5_takeSum_8 rfl ?_
      refine xe_sipush dX5_takeSum_9 ks_400 ?_
      refine xn_icmp_ge (tgt := 83) dX5_takeSum_12 rfl (by omega) (by omega) (fun c1 => ?_) (fun c1 => ?_)
      · omega
      · refine xe_iload_n dX5_takeSum_15 rfl ?_
        refine xn_if_eq (tgt := 83) dX5_takeSum_16 rfl (by omega) (fun c2 => ?_) (fun c2 => ?_)
        · omega
        · refine xe_aload_n dX5_takeSum_19 rfl ?_
          refine xe_getIv dX5_takeSum_20 flX5_41 (st7 hs) (by decide) rfl (v := (q_kap (tk_T K t))) (h5) ?_
          refine xe_bipush dX5_takeSum_23 kb_43 ?_
          refine xe_icmp_eq (tgt := 37) dX5_takeSum_25 rfl (fun c3 => ?_) (fun c3 => ?_)
          · exact absurd (q_kap_inj (b := 8) hok (by decide) (by decide) c3) ha
          · refine xe_aload_n dX5_takeSum_28 rfl ?_
            refine xe_getIv dX5_takeSum_29 flX5_41 (st7 hs) (by decide) rfl (v := (q_kap (tk_T K t))) (h5) ?_
            refine xe_bipush dX5_takeSum_32 kb_45 ?_
            refine xe_icmp_ne (tgt := 83) dX5_takeSum_34 rfl (fun c4 => ?_) (fun c4 => ?_)
            · refine xe_iload_n dX5_takeSum_83 rfl ?_
              refine xe_ireturn dX5_takeSum_84 rfl (by first | rfl | decide +kernel) ?_
              exact ⟨rfl, hg⟩
            · exact absurd (q_kap_inj (b := 9) hok (by decide) (by decide) c4) hb
theorem xc_takeSum22 (l : Launch) (g : q_GP) {K : q_TK} {m d dep e : Nat} {U : Nat → q_XR} (hU : q_XC l g mX5_takePart 22 K m d dep U) (hG : tx_good e U) : q_XC l g mX5_takeSum 22 K m (d + 1) dep (tx_seq (tk_T K) 8 9 U) := by
  intro h hs t n hR hn hnt
  have hg := gd_r hR hn
  have hn := gd_n hg
  have h4 := hR.2.2.2.2.1
  have hI2 := hR.1
  have hI3 := hR.2.1
  have h4m := hR.2.2.1.1
  have htm := hR.2.2.2.1
  unfold tx_seq
  cases hu : U t with
  | inl er =>
    refine q_CtV mvX5_takeSum (Nat.le_of_ble_eq_true rfl) ?_
    refine xe_aload_n dX5_takeSum_0 rfl ?_
    refine xe_iload_n dX5_takeSum_1 rfl ?_
    refine xe_callVIq (d' := d) (y' := mX5_takePart) dX5_takeSum_2 mlX5_157 mvX5_takePart rfl (st7 hs) (by decide) rfl (by omega) (by decide) (Nat.le_of_ble_eq_true rfl) ((show q_Ct l g d _ _ _ (fun r h1 => r = some (.int (nI 0)) ∧ q_bad K 22 _ er h1) from by have hC := hU _ hs _ _ hR hn (by first | omega | (simp only [List.length_append, List.length_nil, List.length_cons]; omega)); rw [hu] at hC; exact hC)) rfl (fun g1 g1q => ?_)
    have hs := bad_s hs g1q
    have hb := gd_bad hg (by first | omega | (simp only [List.length_append, List.length_nil, List.length_cons]; omega)) g1q
    obtain ⟨nb, hnb, hnb2⟩ := g1q.1.2.2
    have hI2 := em_P g1q.1 hI2
    have hI3 := em_P g1q.1 hI3
    refine xe_istore_n (i := 2) dX5_takeSum_5 rfl (by decide) rfl ?_
    refine xe_iconst dX5_takeSum_6 kc_0 ?_
    refine xe_istore_n (i := 3) dX5_takeSum_7 rfl (by decide) rfl ?_
    refine xe_locals (L' := [(0, .ref 7), (1, .int (nI dep)), (2, .int (nI 0)), (3, .int (nI 0))]) (And.intro rfl (And.intro rfl (And.intro rfl (And.intro rfl trivial)))) ?_
    exact po_takeSum22 l g _ hs (by decide) ⟨rfl, hb⟩
  | inr x =>
    obtain ⟨g1, g2, g3, g4, g5⟩ := hG _ _ hu
    refine q_CtV mvX5_takeSum (Nat.le_of_ble_eq_true rfl) ?_
    refine xe_aload_n dX5_takeSum_0 rfl ?_
    refine xe_iload_n dX5_takeSum_1 rfl ?_
    refine xe_callVIq (d' := d) (y' := mX5_takePart) dX5_takeSum_2 mlX5_157 mvX5_takePart rfl (st7 hs) (by decide) rfl (by omega) (by decide) (Nat.le_of_ble_eq_true rfl) ((show q_Ct l g d _ _ _ (fun r h1 => r = some (.int (nI 1)) ∧ q_gd K m 22 _ _ x h1) from by have hC := hU _ hs _ _ hR hn (by first | omega | (simp only [List.length_append, List.length_nil, List.length_cons]; omega)); rw [hu] at hC; exact hC)) rfl (fun g1 g1q => ?_)
    have hR := gd_R (by decide : 22 = 10 ∨ 22 = 22) hR g1q
    have hs := gd_s hs g1q
    have hg := gd_app hg g1q
    have hn := gd_n hg
    have h4 := hR.2.2.2.2.1
    have hI2 := hR.1
    have hI3 := hR.2.1
    refine xe_istore_n (i := 2) dX5_takeSum_5 rfl (by decide) rfl ?_
    refine xe_iconst dX5_takeSum_6 kc_0 ?_
    refine xe_istore_n (i := 3) dX5_takeSum_7 rfl (by decide) rfl ?_
    refine xe_locals (L' := [(0, .ref 7), (1, .int (nI dep)), (2, .int (nI 1)), (3, .int (nI 0))]) (And.intro rfl (And.intro rfl (And.intro rfl (And.intro rfl trivial)))) ?_
    exact pl_takeSum22 l g hU hG 401 0 x.1 x.2 _ hs hg hR (by omega) rfl (by omega)
theorem xc_un022 (l : Launch) (g : q_GP) {K : q_TK} {m : Nat} : q_XC l g mX5_takeUnit 22 K m 1 6 (tx_un (tk_T K) (tk_V K) 0) := by
  intro h hs t n hR hn hnt
  have hg := gd_r hR hn
  have hn := gd_n hg
  have h4 := hR.2.2.2.2.1
  have hI2 := hR.1
  have hI3 := hR.2.1
  have h5 := hR.2.2.2.2.2
  have h4m := hR.2.2.1.1
  have htm := hR.2.2.2.1
  have hok := (hR.2.2.1.2.2 t htm).1
  rw [tx_un_0]
  by_cases h2 : tk_T K t = 2
  · rw [if_pos h2]
    have hk5 : q_I h 7 5 = nI 2 := h5.trans (by rw [h2]; rfl)
    have hv := (hR.2.2.1.2.2 t htm).2.2.2.2.2 h2
    by_cases h400 : 400 ≤ t
    · rw [if_pos h400]
      refine q_CtV mvX5_takeUnit (Nat.le_of_ble_eq_true rfl) ?_
      refine xe_aload_n dX5_takeUnit_0 rfl ?_
      refine xe_getIv dX5_takeUnit_1 flX5_41 (st7 hs) (by decide) rfl (v := nI 2) (hk5) ?_
      refine xe_iconst dX5_takeUnit_4 kc_2 ?_
      refine xn_icmp_ne (tgt := 36) dX5_takeUnit_5 rfl (by omega) (by omega) (fun c1 => ?_) (fun c1 => ?_)
      · omega
      · refine xe_aload_n dX5_takeUnit_8 rfl ?_
        refine xe_getP dX5_takeUnit_9 flX5_26 (st7 hs) (by decide) rfl hI3 ?_
        refine xe_iconst dX5_takeUnit_12 kc_0 ?_
        refine xe_aload_n dX5_takeUnit_13 rfl ?_
        refine xe_getP dX5_takeUnit_14 flX5_22 (st7 hs) (by decide) rfl hI2 ?_
        refine xe_getP dX5_takeUnit_17 flX5_67 (st1 hs) (by decide) rfl (sp1_4 hs) ?_
        refine xe_aload_n dX5_takeUnit_20 rfl ?_
        refine xe_getIv dX5_takeUnit_21 flX5_33 (st7 hs) (by decide) rfl (v := nI t) (h4) ?_
        refine xn_laldv dX5_takeUnit_24 (st5 hs) (by omega) (by decide) (v := (q_J h 5 t)) (rfl) ?_
        refine xe_l2i dX5_takeUnit_25 rfl ?_
        refine xe_callVIq (d' := 0) (y' := mX3_emit) dX5_takeUnit_26 mlX5_150 mvX3_emit rfl (st22 hs) (by decide) rfl (by omega) (by decide) (Nat.le_of_ble_eq_true rfl) (g_emit22 l g _ hs hR hn (by first | omega | (simp only [List.length_append, List.length_nil, List.length_cons]; omega)) 0 _ (nI (tk_V K t)) _ rfl hv.1) rfl (fun g2 g2q => ?_)
        have hR := gd_R (by decide : 22 = 10 ∨ 22 = 22) hR g2q
        have hs := gd_s hs g2q
        have hg := gd_app hg g2q
        have hn := gd_n hg
        have h4 := hR.2.2.2.2.1
        have hI2 := hR.1
        have hI3 := hR.2.1
        refine xe_pop dX5_takeUnit_29 rfl ?_
        refine xe_aload_n dX5_takeUnit_30 rfl ?_
        refine xe_iconst dX5_takeUnit_31 kc_2 ?_
        refine xe_callVIq (d' := 0) (y' := mX5_take) dX5_takeUnit_32 mlX5_63 mvX5_take rfl (st7 hs) (by decide) rfl (by omega) (by decide) (Nat.le_of_ble_eq_true rfl) (b_take22 l g _ hs hR hn (by first | omega | (simp only [List.length_append, List.length_nil, List.length_cons]; omega)) 2 2 rfl (by decide) (by decide) (tx_ck_2 h2 h400)) rfl (fun g3 g3q => ?_)
        have hs := bad_s hs g3q
        have hb := gd_bad hg (by first | omega | (simp only [List.length_append, List.length_nil, List.length_cons]; omega)) g3q
        obtain ⟨nb, hnb, hnb2⟩ := g3q.1.2.2
        have hI2 := em_P g3q.1 hI2
        have hI3 := em_P g3q.1 hI3
        refine xe_ireturn dX5_takeUnit_35 rfl (by first | rfl | decide +kernel) ?_
        exact ⟨rfl, hb⟩
    · rw [if_neg h400]
      refine q_CtV mvX5_takeUnit (Nat.le_of_ble_eq_true rfl) ?_
      refine xe_aload_n dX5_takeUnit_0 rfl ?_
      refine xe_getIv dX5_takeUnit_1 flX5_41 (st7 hs) (by decide) rfl (v := nI 2) (hk5) ?_
      refine xe_iconst dX5_takeUnit_4 kc_2 ?_
      refine xn_icmp_ne (tgt := 36) dX5_takeUnit_5 rfl (by omega) (by omega) (fun c1 => ?_) (fun c1 => ?_)
      · omega
      · refine xe_aload_n dX5_takeUnit_8 rfl ?_
        refine xe_getP dX5_takeUnit_9 flX5_26 (st7 hs) (by decide) rfl hI3 ?_
        refine xe_iconst dX5_takeUnit_12 kc_0 ?_
        refine xe_aload_n dX5_takeUnit_13 rfl ?_
        refine xe_getP dX5_takeUnit_14 flX5_22 (st7 hs) (by decide) rfl hI2 ?_
        refine xe_getP dX5_takeUnit_17 flX5_67 (st1 hs) (by decide) rfl (sp1_4 hs) ?_
        refine xe_aload_n dX5_takeUnit_20 rfl ?_
        refine xe_getIv dX5_takeUnit_21 flX5_33 (st7 hs) (by decide) rfl (v := nI t) (h4) ?_
        refine xn_laldv dX5_takeUnit_24 (st5 hs) (by omega) (by decide) (v := (q_J h 5 t)) (rfl) ?_
        refine xe_l2i dX5_takeUnit_25 rfl ?_
        refine xe_callVIq (d' := 0) (y' := mX3_emit) dX5_takeUnit_26 mlX5_150 mvX3_emit rfl (st22 hs) (by decide) rfl (by omega) (by decide) (Nat.le_of_ble_eq_true rfl) (g_emit22 l g _ hs hR hn (by first | omega | (simp only [List.length_append, List.length_nil, List.length_cons]; omega)) 0 _ (nI (tk_V K t)) _ rfl hv.1) rfl (fun g2 g2q => ?_)
        have hR := gd_R (by decide : 22 = 10 ∨ 22 = 22) hR g2q
        have hs := gd_s hs g2q
        have hg := gd_app hg g2q
        have hn := gd_n hg
        have h4 := hR.2.2.2.2.1
        have hI2 := hR.1
        have hI3 := hR.2.1
        refine xe_pop dX5_takeUnit_29 rfl ?_
        refine xe_aload_n dX5_takeUnit_30 rfl ?_
        refine xe_iconst dX5_takeUnit_31 kc_2 ?_
        refine xe_callVIq (d' := 0) (y' := mX5_take) dX5_takeUnit_32 mlX5_63 mvX5_take rfl (st7 hs) (by decide) rfl (by omega) (by decide) (Nat.le_of_ble_eq_true rfl) (g_take22 l g _ hs hR hn 2 2 rfl (by decide) (by decide) (by decide) (tx_ck_0 h2 (by omega))) rfl (fun g3 g3q => ?_)
        have hR := gd_R (by decide : 22 = 10 ∨ 22 = 22) hR g3q
        have hs := gd_s hs g3q
        have hg := gd_tk hg g3q
        have hn := gd_n hg
        have h4 := hR.2.2.2.2.1
        have hI2 := hR.1
        have hI3 := hR.2.1
        refine xe_ireturn dX5_takeUnit_35 rfl (by first | rfl | decide +kernel) ?_
        exact ⟨rfl, hg⟩
  · rw [if_neg h2]
    by_cases hv : 31 ≤ tk_T K t ∧ tk_T K t ≤ 36
    · rw [if_pos hv]
      have ekn := q_kn_v hv
      have hk5 : q_I h 7 5 = nI (tk_T K t + 236) := h5.trans ((q_kap_n (by omega)).trans (congrArg nI ekn))
      by_cases h400 : 400 ≤ t
      · rw [if_pos h400]
        refine q_CtV mvX5_takeUnit (Nat.le_of_ble_eq_true rfl) ?_
        refine xe_aload_n dX5_takeUnit_0 rfl ?_
        refine xe_getIv dX5_takeUnit_1 flX5_41 (st7 hs) (by decide) rfl (v := nI (tk_T K t + 236)) (hk5) ?_
        refine xe_iconst dX5_takeUnit_4 kc_2 ?_
        refine xn_icmp_ne (tgt := 36) dX5_takeUnit_5 rfl (by omega) (by omega) (fun c1 => ?_) (fun c1 => ?_)
        · refine xe_aload_n dX5_takeUnit_36 rfl ?_
          refine xe_getIv dX5_takeUnit_37 flX5_41 (st7 hs) (by decide) rfl (v := nI (tk_T K t + 236)) (hk5) ?_
          refine xe_sipush dX5_takeUnit_40 ks_267 ?_
          refine xn_icmp_lt (tgt := 82) dX5_takeUnit_43 rfl (by omega) (by omega) (fun c2 => ?_) (fun c2 => ?_)
          · omega
          · refine xe_aload_n dX5_takeUnit_46 rfl ?_
            refine xe_getIv dX5_takeUnit_47 flX5_41 (st7 hs) (by decide) rfl (v := nI (tk_T K t + 236)) (hk5) ?_
            refine xe_sipush dX5_takeUnit_50 ks_272 ?_
            refine xn_icmp_gt (tgt := 82) dX5_takeUnit_53 rfl (by omega) (by omega) (fun c3 => ?_) (fun c3 => ?_)
            · omega
            · refine xe_aload_n dX5_takeUnit_56 rfl ?_
              refine xe_getP dX5_takeUnit_57 flX5_26 (st7 hs) (by decide) rfl hI3 ?_
              refine xe_iconst dX5_takeUnit_60 kc_1 ?_
              refine xe_aload_n dX5_takeUnit_61 rfl ?_
              refine xe_getIv dX5_takeUnit_62 flX5_41 (st7 hs) (by decide) rfl (v := nI (tk_T K t + 236)) (hk5) ?_
              refine xe_sipush dX5_takeUnit_65 ks_267 ?_
              refine xn_isub dX5_takeUnit_68 (by omega) ?_
              refine xe_callVIq (d' := 0) (y' := mX3_emit) dX5_takeUnit_69 mlX5_150 mvX3_emit rfl (st22 hs) (by decide) rfl (by omega) (by decide) (Nat.le_of_ble_eq_true rfl) (g_emit22 l g _ hs hR hn (by first | omega | (simp only [List.length_append, List.length_nil, List.length_cons]; omega)) 1 _ (nI (tk_T K t - 31)) _ rfl (congrArg nI (by omega))) rfl (fun g4 g4q => ?_)
              have hR := gd_R (by decide : 22 = 10 ∨ 22 = 22) hR g4q
              have hs := gd_s hs g4q
              have hg := gd_app hg g4q
              have hn := gd_n hg
              have h4 := hR.2.2.2.2.1
              have hI2 := hR.1
              have hI3 := hR.2.1
              refine xe_pop dX5_takeUnit_72 rfl ?_
              refine xe_aload_n dX5_takeUnit_73 rfl ?_
              refine xe_aload_n dX5_takeUnit_74 rfl ?_
              refine xe_getIv dX5_takeUnit_75 flX5_41 (st7 hs) (by decide) rfl (v := nI (q_kn (tk_T K t))) ((hR.2.2.2.2.2.trans (q_kap_n (a := tk_T K t) (by omega)))) ?_
              refine xe_callVIq (d' := 0) (y' := mX5_take) dX5_takeUnit_78 mlX5_63 mvX5_take rfl (st7 hs) (by decide) rfl (by omega) (by decide) (Nat.le_of_ble_eq_true rfl) (b_take22 l g _ hs hR hn (by first | omega | (simp only [List.length_append, List.length_nil, List.length_cons]; omega)) (tk_T K t) (q_kn (tk_T K t)) (rfl) hok (by omega) (tx_ck_2 rfl h400)) rfl (fun g5 g5q => ?_)
              have hs := bad_s hs g5q
              have hb := gd_bad hg (by first | omega | (simp only [List.length_append, List.length_nil, List.length_cons]; omega)) g5q
              obtain ⟨nb, hnb, hnb2⟩ := g5q.1.2.2
              have hI2 := em_P g5q.1 hI2
              have hI3 := em_P g5q.1 hI3
              refine xe_ireturn dX5_takeUnit_81 rfl (by first | rfl | decide +kernel) ?_
              exact ⟨rfl, hb⟩
        · omega
      · rw [if_neg h400]
        refine q_CtV mvX5_takeUnit (Nat.le_of_ble_eq_true rfl) ?_
        refine xe_aload_n dX5_takeUnit_0 rfl ?_
        refine xe_getIv dX5_takeUnit_1 flX5_41 (st7 hs) (by decide) rfl (v := nI (tk_T K t + 236)) (hk5) ?_
        refine xe_iconst dX5_takeUnit_4 kc_2 ?_
        refine xn_icmp_ne (tgt := 36) dX5_takeUnit_5 rfl (by omega) (by omega) (fun c1 => ?_) (fun c1 => ?_)
        · refine xe_aload_n dX5_takeUnit_36 rfl ?_
          refine xe_getIv dX5_takeUnit_37 flX5_41 (st7 hs) (by decide) rfl (v := nI (tk_T K t + 236)) (hk5) ?_
          refine xe_sipush dX5_takeUnit_40 ks_267 ?_
          refine xn_icmp_lt (tgt := 82) dX5_takeUnit_43 rfl (by omega) (by omega) (fun c2 => ?_) (fun c2 => ?_)
          · omega
          · refine xe_aload_n dX5_takeUnit_46 rfl ?_
            refine xe_getIv dX5_takeUnit_47 flX5_41 (st7 hs) (by decide) rfl (v := nI (tk_T K t + 236)) (hk5) ?_
            refine xe_sipush dX5_takeUnit_50 ks_272 ?_
            refine xn_icmp_gt (tgt := 82) dX5_takeUnit_53 rfl (by omega) (by omega) (fun c3 => ?_) (fun c3 => ?_)
            · omega
            · refine xe_aload_n dX5_takeUnit_56 rfl ?_
              refine xe_getP dX5_takeUnit_57 flX5_26 (st7 hs) (by decide) rfl hI3 ?_
              refine xe_iconst dX5_takeUnit_60 kc_1 ?_
              refine xe_aload_n dX5_takeUnit_61 rfl ?_
              refine xe_getIv dX5_takeUnit_62 flX5_41 (st7 hs) (by decide) rfl (v := nI (tk_T K t + 236)) (hk5) ?_
              refine xe_sipush dX5_takeUnit_65 ks_267 ?_
              refine xn_isub dX5_takeUnit_68 (by omega) ?_
              refine xe_callVIq (d' := 0) (y' := mX3_emit) dX5_takeUnit_69 mlX5_150 mvX3_emit rfl (st22 hs) (by decide) rfl (by omega) (by decide) (Nat.le_of_ble_eq_true rfl) (g_emit22 l g _ hs hR hn (by first | omega | (simp only [List.length_append, List.length_nil, List.length_cons]; omega)) 1 _ (nI (tk_T K t - 31)) _ rfl (congrArg nI (by omega))) rfl (fun g4 g4q => ?_)
              have hR := gd_R (by decide : 22 = 10 ∨ 22 = 22) hR g4q
              have hs := gd_s hs g4q
              have hg := gd_app hg g4q
              have hn := gd_n hg
              have h4 := hR.2.2.2.2.1
              have hI2 := hR.1
              have hI3 := hR.2.1
              refine xe_pop dX5_takeUnit_72 rfl ?_
              refine xe_aload_n dX5_takeUnit_73 rfl ?_
              refine xe_aload_n dX5_takeUnit_74 rfl ?_
              refine xe_getIv dX5_takeUnit_75 flX5_41 (st7 hs) (by decide) rfl (v := nI (q_kn (tk_T K t))) ((hR.2.2.2.2.2.trans (q_kap_n (a := tk_T K t) (by omega)))) ?_
              refine xe_callVIq (d' := 0) (y' := mX5_take) dX5_takeUnit_78 mlX5_63 mvX5_take rfl (st7 hs) (by decide) rfl (by omega) (by decide) (Nat.le_of_ble_eq_true rfl) (g_take22 l g _ hs hR hn (tk_T K t) (q_kn (tk_T K t)) (rfl) hok (by omega) (by omega) (tx_ck_0 rfl (by omega))) rfl (fun g5 g5q => ?_)
              have hR := gd_R (by decide : 22 = 10 ∨ 22 = 22) hR g5q
              have hs := gd_s hs g5q
              have hg := gd_tk hg g5q
              have hn := gd_n hg
              have h4 := hR.2.2.2.2.1
              have hI2 := hR.1
              have hI3 := hR.2.1
              refine xe_ireturn dX5_takeUnit_81 rfl (by first | rfl | decide +kernel) ?_
              exact ⟨rfl, hg⟩
        · omega
    · rw [if_neg hv]
      by_cases h6 : tk_T K t = 6
      · rw [if_pos h6]
        have hk5 : q_I h 7 5 = nI 40 := h5.trans (by rw [h6]; rfl)
        refine q_CtV mvX5_takeUnit (Nat.le_of_ble_eq_true rfl) ?_
        refine xe_aload_n dX5_takeUnit_0 rfl ?_
        refine xe_getIv dX5_takeUnit_1 flX5_41 (st7 hs) (by decide) rfl (v := nI 40) (hk5) ?_
        refine xe_iconst dX5_takeUnit_4 kc_2 ?_
        refine xn_icmp_ne (tgt := 36) dX5_takeUnit_5 rfl (by omega) (by omega) (fun c1 => ?_) (fun c1 => ?_)
        · refine xe_aload_n dX5_takeUnit_36 rfl ?_
          refine xe_getIv dX5_takeUnit_37 flX5_41 (st7 hs) (by decide) rfl (v := nI 40) (hk5) ?_
          refine xe_sipush dX5_takeUnit_40 ks_267 ?_
          refine xn_icmp_lt (tgt := 82) dX5_takeUnit_43 rfl (by omega) (by omega) (fun c2 => ?_) (fun c2 => ?_)
          · refine xe_aload_n dX5_takeUnit_82 rfl ?_
            refine xe_getIv dX5_takeUnit_83 flX5_41 (st7 hs) (by decide) rfl (v := nI 40) (hk5) ?_
            refine xe_bipush dX5_takeUnit_86 kb_40 ?_
            refine xn_icmp_eq (tgt := 97) dX5_takeUnit_88 rfl (by omega) (by omega) (fun c3 => ?_) (fun c3 => ?_)
            · refine xe_iload_n dX5_takeUnit_97 rfl ?_
              refine xe_bipush dX5_takeUnit_98 kb_6 ?_
              refine xn_icmp_lt (tgt := 109) dX5_takeUnit_100 rfl (by omega) (by omega) (fun c4 => ?_) (fun c4 => ?_)
              · omega
              · refine xe_aload_n dX5_takeUnit_103 rfl ?_
                refine xe_iconst dX5_takeUnit_104 kc_2 ?_
                refine xe_callVIq (d' := 0) (y' := mX5_fail) dX5_takeUnit_105 mlX5_119 mvX5_fail rfl (st7 hs) (by decide) rfl (by omega) (by decide) (Nat.le_of_ble_eq_true rfl) (b_fail22 l g _ hs hR hn (by first | omega | (simp only [List.length_append, List.length_nil, List.length_cons]; omega)) 2) rfl (fun g5 g5q => ?_)
                have hb := gd_bad hg (by first | omega | (simp only [List.length_append, List.length_nil, List.length_cons]; omega)) g5q
                refine xe_ireturn dX5_takeUnit_108 rfl (by first | rfl | decide +kernel) ?_
                exact ⟨rfl, hb⟩
            · omega
          · omega
        · omega
      · rw [if_neg h6]
        refine q_CtV mvX5_takeUnit (Nat.le_of_ble_eq_true rfl) ?_
        refine xe_aload_n dX5_takeUnit_0 rfl ?_
        refine xe_getIv dX5_takeUnit_1 flX5_41 (st7 hs) (by decide) rfl (v := (q_kap (tk_T K t))) (h5) ?_
        refine xe_iconst dX5_takeUnit_4 kc_2 ?_
        refine xe_icmp_ne (tgt := 36) dX5_takeUnit_5 rfl (fun c1 => ?_) (fun c1 => ?_)
        · refine xe_aload_n dX5_takeUnit_36 rfl ?_
          refine xe_getIv dX5_takeUnit_37 flX5_41 (st7 hs) (by decide) rfl (v := (q_kap (tk_T K t))) (h5) ?_
          refine xe_sipush dX5_takeUnit_40 ks_267 ?_
          refine xe_icmp_lt (tgt := 82) dX5_takeUnit_43 rfl (fun c_lo => ?_) (fun c_lo => ?_)
          · refine xe_aload_n dX5_takeUnit_82 rfl ?_
            refine xe_getIv dX5_takeUnit_83 flX5_41 (st7 hs) (by decide) rfl (v := (q_kap (tk_T K t))) (h5) ?_
            refine xe_bipush dX5_takeUnit_86 kb_40 ?_
            refine xe_icmp_eq (tgt := 97) dX5_takeUnit_88 rfl (fun c2 => ?_) (fun c2 => ?_)
            · exact absurd (q_kap_inj (b := 6) hok (by decide) (by decide) c2) h6
            · refine xe_aload_n dX5_takeUnit_91 rfl ?_
              refine xe_iconst dX5_takeUnit_92 kc_1 ?_
              refine xe_callVIq (d' := 0) (y' := mX5_fail) dX5_takeUnit_93 mlX5_119 mvX5_fail rfl (st7 hs) (by decide) rfl (by omega) (by decide) (Nat.le_of_ble_eq_true rfl) (b_fail22 l g _ hs hR hn (by first | omega | (simp only [List.length_append, List.length_nil, List.length_cons]; omega)) 1) rfl (fun g3 g3q => ?_)
              have hb := gd_bad hg (by first | omega | (simp only [List.length_append, List.length_nil, List.length_cons]; omega)) g3q
              refine xe_ireturn dX5_takeUnit_96 rfl (by first | rfl | decide +kernel) ?_
              exact ⟨rfl, hb⟩
          · refine xe_aload_n dX5_takeUnit_46 rfl ?_
            refine xe_getIv dX5_takeUnit_47 flX5_41 (st7 hs) (by decide) rfl (v := (q_kap (tk_T K t))) (h5) ?_
            refine xe_sipush dX5_takeUnit_50 ks_272 ?_
            refine xe_icmp_gt (tgt := 82) dX5_takeUnit_53 rfl (fun c4 => ?_) (fun c4 => ?_)
            · refine xe_aload_n dX5_takeUnit_82 rfl ?_
              refine xe_getIv dX5_takeUnit_83 flX5_41 (st7 hs) (by decide) rfl (v := (q_kap (tk_T K t))) (h5) ?_
              refine xe_bipush dX5_takeUnit_86 kb_40 ?_
              refine xe_icmp_eq (tgt := 97) dX5_takeUnit_88 rfl (fun c5 => ?_) (fun c5 => ?_)
              · exact absurd (q_kap_inj (b := 6) hok (by decide) (by decide) c5) h6
              · refine xe_aload_n dX5_takeUnit_91 rfl ?_
                refine xe_iconst dX5_takeUnit_92 kc_1 ?_
                refine xe_callVIq (d' := 0) (y' := mX5_fail) dX5_takeUnit_93 mlX5_119 mvX5_fail rfl (st7 hs) (by decide) rfl (by omega) (by decide) (Nat.le_of_ble_eq_true rfl) (b_fail22 l g _ hs hR hn (by first | omega | (simp only [List.length_append, List.length_nil, List.length_cons]; omega)) 1) rfl (fun g6 g6q => ?_)
                have hb := gd_bad hg (by first | omega | (simp only [List.length_append, List.length_nil, List.length_cons]; omega)) g6q
                refine xe_ireturn dX5_takeUnit_96 rfl (by first | rfl | decide +kernel) ?_
                exact ⟨rfl, hb⟩
            · exact absurd (q_kap_v ⟨tk_T K t, tk_lt hok⟩ hok c_lo c4) hv
        · exact absurd (q_kap_inj (b := 2) hok (by decide) (by decide) c1) h2
theorem xc_unS22 (l : Launch) (g : q_GP) {K : q_TK} {m d dep k : Nat} (hdk : dep + (k + 1) = 6) (hU : q_XC l g mX5_takeSum 22 K m d (dep + 1) (tx_sumU (tk_T K) (tx_un (tk_T K) (tk_V K) k))) : q_XC l g mX5_takeUnit 22 K m (d + 1) dep (tx_un (tk_T K) (tk_V K) (k + 1)) := by
  intro h hs t n hR hn hnt
  have hg := gd_r hR hn
  have hn := gd_n hg
  have h4 := hR.2.2.2.2.1
  have hI2 := hR.1
  have hI3 := hR.2.1
  have h5 := hR.2.2.2.2.2
  have h4m := hR.2.2.1.1
  have htm := hR.2.2.2.1
  have hok := (hR.2.2.1.2.2 t htm).1
  rw [tx_un_s]
  by_cases h2 : tk_T K t = 2
  · rw [if_pos h2]
    have hk5 : q_I h 7 5 = nI 2 := h5.trans (by rw [h2]; rfl)
    have hv := (hR.2.2.1.2.2 t htm).2.2.2.2.2 h2
    by_cases h400 : 400 ≤ t
    · rw [if_pos h400]
      refine q_CtV mvX5_takeUnit (Nat.le_of_ble_eq_true rfl) ?_
      refine xe_aload_n dX5_takeUnit_0 rfl ?_
      refine xe_getIv dX5_takeUnit_1 flX5_41 (st7 hs) (by decide) rfl (v := nI 2) (hk5) ?_
      refine xe_iconst dX5_takeUnit_4 kc_2 ?_
      refine xn_icmp_ne (tgt := 36) dX5_takeUnit_5 rfl (by omega) (by omega) (fun c1 => ?_) (fun c1 => ?_)
      · omega
      · refine xe_aload_n dX5_takeUnit_8 rfl ?_
        refine xe_getP dX5_takeUnit_9 flX5_26 (st7 hs) (by decide) rfl hI3 ?_
        refine xe_iconst dX5_takeUnit_12 kc_0 ?_
        refine xe_aload_n dX5_takeUnit_13 rfl ?_
        refine xe_getP dX5_takeUnit_14 flX5_22 (st7 hs) (by decide) rfl hI2 ?_
        refine xe_getP dX5_takeUnit_17 flX5_67 (st1 hs) (by decide) rfl (sp1_4 hs) ?_
        refine xe_aload_n dX5_takeUnit_20 rfl ?_
        refine xe_getIv dX5_takeUnit_21 flX5_33 (st7 hs) (by decide) rfl (v := nI t) (h4) ?_
        refine xn_laldv dX5_takeUnit_24 (st5 hs) (by omega) (by decide) (v := (q_J h 5 t)) (rfl) ?_
        refine xe_l2i dX5_takeUnit_25 rfl ?_
        refine xe_callVIq (d' := 0) (y' := mX3_emit) dX5_takeUnit_26 mlX5_150 mvX3_emit rfl (st22 hs) (by decide) rfl (by omega) (by decide) (Nat.le_of_ble_eq_true rfl) (g_emit22 l g _ hs hR hn (by first | omega | (simp only [List.length_append, List.length_nil, List.length_cons]; omega)) 0 _ (nI (tk_V K t)) _ rfl hv.1) rfl (fun g2 g2q => ?_)
        have hR := gd_R (by decide : 22 = 10 ∨ 22 = 22) hR g2q
        have hs := gd_s hs g2q
        have hg := gd_app hg g2q
        have hn := gd_n hg
        have h4 := hR.2.2.2.2.1
        have hI2 := hR.1
        have hI3 := hR.2.1
        refine xe_pop dX5_takeUnit_29 rfl ?_
        refine xe_aload_n dX5_takeUnit_30 rfl ?_
        refine xe_iconst dX5_takeUnit_31 kc_2 ?_
        refine xe_callVIq (d' := 0) (y' := mX5_take) dX5_takeUnit_32 mlX5_63 mvX5_take rfl (st7 hs) (by decide) rfl (by omega) (by decide) (Nat.le_of_ble_eq_true rfl) (b_take22 l g _ hs hR hn (by first | omega | (simp only [List.length_append, List.length_nil, List.length_cons]; omega)) 2 2 rfl (by decide) (by decide) (tx_ck_2 h2 h400)) rfl (fun g3 g3q => ?_)
        have hs := bad_s hs g3q
        have hb := gd_bad hg (by first | omega | (simp only [List.length_append, List.length_nil, List.length_cons]; omega)) g3q
        obtain ⟨nb, hnb, hnb2⟩ := g3q.1.2.2
        have hI2 := em_P g3q.1 hI2
        have hI3 := em_P g3q.1 hI3
        refine xe_ireturn dX5_takeUnit_35 rfl (by first | rfl | decide +kernel) ?_
        exact ⟨rfl, hb⟩
    · rw [if_neg h400]
      refine q_CtV mvX5_takeUnit (Nat.le_of_ble_eq_true rfl) ?_
      refine xe_aload_n dX5_takeUnit_0 rfl ?_
      refine xe_getIv dX5_takeUnit_1 flX5_41 (st7 hs) (by decide) rfl (v := nI 2) (hk5) ?_
      refine xe_iconst dX5_takeUnit_4 kc_2 ?_
      refine xn_icmp_ne (tgt := 36) dX5_takeUnit_5 rfl (by omega) (by omega) (fun c1 => ?_) (fun c1 => ?_)
      · omega
      · refine xe_aload_n dX5_takeUnit_8 rfl ?_
        refine xe_getP dX5_takeUnit_9 flX5_26 (st7 hs) (by decide) rfl hI3 ?_
        refine xe_iconst dX5_takeUnit_12 kc_0 ?_
        refine xe_aload_n dX5_takeUnit_13 rfl ?_
        refine xe_getP dX5_takeUnit_14 flX5_22 (st7 hs) (by decide) rfl hI2 ?_
        refine xe_getP dX5_takeUnit_17 flX5_67 (st1 hs) (by decide) rfl (sp1_4 hs) ?_
        refine xe_aload_n dX5_takeUnit_20 rfl ?_
        refine xe_getIv dX5_takeUnit_21 flX5_33 (st7 hs) (by decide) rfl (v := nI t) (h4) ?_
        refine xn_laldv dX5_takeUnit_24 (st5 hs) (by omega) (by decide) (v := (q_J h 5 t)) (rfl) ?_
        refine xe_l2i dX5_takeUnit_25 rfl ?_
        refine xe_callVIq (d' := 0) (y' := mX3_emit) dX5_takeUnit_26 mlX5_150 mvX3_emit rfl (st22 hs) (by decide) rfl (by omega) (by decide) (Nat.le_of_ble_eq_true rfl) (g_emit22 l g _ hs hR hn (by first | omega | (simp only [List.length_append, List.length_nil, List.length_cons]; omega)) 0 _ (nI (tk_V K t)) _ rfl hv.1) rfl (fun g2 g2q => ?_)
        have hR := gd_R (by decide : 22 = 10 ∨ 22 = 22) hR g2q
        have hs := gd_s hs g2q
        have hg := gd_app hg g2q
        have hn := gd_n hg
        have h4 := hR.2.2.2.2.1
        have hI2 := hR.1
        have hI3 := hR.2.1
        refine xe_pop dX5_takeUnit_29 rfl ?_
        refine xe_aload_n dX5_takeUnit_30 rfl ?_
        refine xe_iconst dX5_takeUnit_31 kc_2 ?_
        refine xe_callVIq (d' := 0) (y' := mX5_take) dX5_takeUnit_32 mlX5_63 mvX5_take rfl (st7 hs) (by decide) rfl (by omega) (by decide) (Nat.le_of_ble_eq_true rfl) (g_take22 l g _ hs hR hn 2 2 rfl (by decide) (by decide) (by decide) (tx_ck_0 h2 (by omega))) rfl (fun g3 g3q => ?_)
        have hR := gd_R (by decide : 22 = 10 ∨ 22 = 22) hR g3q
        have hs := gd_s hs g3q
        have hg := gd_tk hg g3q
        have hn := gd_n hg
        have h4 := hR.2.2.2.2.1
        have hI2 := hR.1
        have hI3 := hR.2.1
        refine xe_ireturn dX5_takeUnit_35 rfl (by first | rfl | decide +kernel) ?_
        exact ⟨rfl, hg⟩
  · rw [if_neg h2]
    by_cases hv : 31 ≤ tk_T K t ∧ tk_T K t ≤ 36
    · rw [if_pos hv]
      have ekn := q_kn_v hv
      have hk5 : q_I h 7 5 = nI (tk_T K t + 236) := h5.trans ((q_kap_n (by omega)).trans (congrArg nI ekn))
      by_cases h400 : 400 ≤ t
      · rw [if_pos h400]
        refine q_CtV mvX5_takeUnit (Nat.le_of_ble_eq_true rfl) ?_
        refine xe_aload_n dX5_takeUnit_0 rfl ?_
        refine xe_getIv dX5_takeUnit_1 flX5_41 (st7 hs) (by decide) rfl (v := nI (tk_T K t + 236)) (hk5) ?_
        refine xe_iconst dX5_takeUnit_4 kc_2 ?_
        refine xn_icmp_ne (tgt := 36) dX5_takeUnit_5 rfl (by omega) (by omega) (fun c1 => ?_) (fun c1 => ?_)
        · refine xe_aload_n dX5_takeUnit_36 rfl ?_
          refine xe_getIv dX5_takeUnit_37 flX5_41 (st7 hs) (by decide) rfl (v := nI (tk_T K t + 236)) (hk5) ?_
          refine xe_sipush dX5_takeUnit_40 ks_267 ?_
          refine xn_icmp_lt (tgt := 82) dX5_takeUnit_43 rfl (by omega) (by omega) (fun c2 => ?_) (fun c2 => ?_)
          · omega
          · refine xe_aload_n dX5_takeUnit_46 rfl ?_
            refine xe_getIv dX5_takeUnit_47 flX5_41 (st7 hs) (by decide) rfl (v := nI (tk_T K t + 236)) (hk5) ?_
            refine xe_sipush dX5_takeUnit_50 ks_272 ?_
            refine xn_icmp_gt (tgt := 82) dX5_takeUnit_53 rfl (by omega) (by omega) (fun c3 => ?_) (fun c3 => ?_)
            · omega
            · refine xe_aload_n dX5_takeUnit_56 rfl ?_
              refine xe_getP dX5_takeUnit_57 flX5_26 (st7 hs) (by decide) rfl hI3 ?_
              refine xe_iconst dX5_takeUnit_60 kc_1 ?_
              refine xe_aload_n dX5_takeUnit_61 rfl ?_
              refine xe_getIv dX5_takeUnit_62 flX5_41 (st7 hs) (by decide) rfl (v := nI (tk_T K t + 236)) (hk5) ?_
              refine xe_sipush dX5_takeUnit_65 ks_267 ?_
              refine xn_isub dX5_takeUnit_68 (by omega) ?_
              refine xe_callVIq (d' := 0) (y' := mX3_emit) dX5_takeUnit_69 mlX5_150 mvX3_emit rfl (st22 hs) (by decide) rfl (by omega) (by decide) (Nat.le_of_ble_eq_true rfl) (g_emit22 l g _ hs hR hn (by first | omega | (simp only [List.length_append, List.length_nil, List.length_cons]; omega)) 1 _ (nI (tk_T K t - 31)) _ rfl (congrArg nI (by omega))) rfl (fun g4 g4q => ?_)
              have hR := gd_R (by decide : 22 = 10 ∨ 22 = 22) hR g4q
              have hs := gd_s hs g4q
              have hg := gd_app hg g4q
              have hn := gd_n hg
              have h4 := hR.2.2.2.2.1
              have hI2 := hR.1
              have hI3 := hR.2.1
              refine xe_pop dX5_takeUnit_72 rfl ?_
              refine xe_aload_n dX5_takeUnit_73 rfl ?_
              refine xe_aload_n dX5_takeUnit_74 rfl ?_
              refine xe_getIv dX5_takeUnit_75 flX5_41 (st7 hs) (by decide) rfl (v := nI (q_kn (tk_T K t))) ((hR.2.2.2.2.2.trans (q_kap_n (a := tk_T K t) (by omega)))) ?_
              refine xe_callVIq (d' := 0) (y' := mX5_take) dX5_takeUnit_78 mlX5_63 mvX5_take rfl (st7 hs) (by decide) rfl (by omega) (by decide) (Nat.le_of_ble_eq_true rfl) (b_take22 l g _ hs hR hn (by first | omega | (simp only [List.length_append, List.length_nil, List.length_cons]; omega)) (tk_T K t) (q_kn (tk_T K t)) (rfl) hok (by omega) (tx_ck_2 rfl h400)) rfl (fun g5 g5q => ?_)
              have hs := bad_s hs g5q
              have hb := gd_bad hg (by first | omega | (simp only [List.length_append, List.length_nil, List.length_cons]; omega)) g5q
              obtain ⟨nb, hnb, hnb2⟩ := g5q.1.2.2
              have hI2 := em_P g5q.1 hI2
              have hI3 := em_P g5q.1 hI3
              refine xe_ireturn dX5_takeUnit_81 rfl (by first | rfl | decide +kernel) ?_
              exact ⟨rfl, hb⟩
        · omega
      · rw [if_neg h400]
        refine q_CtV mvX5_takeUnit (Nat.le_of_ble_eq_true rfl) ?_
        refine xe_aload_n dX5_takeUnit_0 rfl ?_
        refine xe_getIv dX5_takeUnit_1 flX5_41 (st7 hs) (by decide) rfl (v := nI (tk_T K t + 236)) (hk5) ?_
        refine xe_iconst dX5_takeUnit_4 kc_2 ?_
        refine xn_icmp_ne (tgt := 36) dX5_takeUnit_5 rfl (by omega) (by omega) (fun c1 => ?_) (fun c1 => ?_)
        · refine xe_aload_n dX5_takeUnit_36 rfl ?_
          refine xe_getIv dX5_takeUnit_37 flX5_41 (st7 hs) (by decide) rfl (v := nI (tk_T K t + 236)) (hk5) ?_
          refine xe_sipush dX5_takeUnit_40 ks_267 ?_
          refine xn_icmp_lt (tgt := 82) dX5_takeUnit_43 rfl (by omega) (by omega) (fun c2 => ?_) (fun c2 => ?_)
          · omega
          · refine xe_aload_n dX5_takeUnit_46 rfl ?_
            refine xe_getIv dX5_takeUnit_47 flX5_41 (st7 hs) (by decide) rfl (v := nI (tk_T K t + 236)) (hk5) ?_
            refine xe_sipush dX5_takeUnit_50 ks_272 ?_
            refine xn_icmp_gt (tgt := 82) dX5_takeUnit_53 rfl (by omega) (by omega) (fun c3 => ?_) (fun c3 => ?_)
            · omega
            · refine xe_aload_n dX5_takeUnit_56 rfl ?_
              refine xe_getP dX5_takeUnit_57 flX5_26 (st7 hs) (by decide) rfl hI3 ?_
              refine xe_iconst dX5_takeUnit_60 kc_1 ?_
              refine xe_aload_n dX5_takeUnit_61 rfl ?_
              refine xe_getIv dX5_takeUnit_62 flX5_41 (st7 hs) (by decide) rfl (v := nI (tk_T K t + 236)) (hk5) ?_
              refine xe_sipush dX5_takeUnit_65 ks_267 ?_
              refine xn_isub dX5_takeUnit_68 (by omega) ?_
              refine xe_callVIq (d' := 0) (y' := mX3_emit) dX5_takeUnit_69 mlX5_150 mvX3_emit rfl (st22 hs) (by decide) rfl (by omega) (by decide) (Nat.le_of_ble_eq_true rfl) (g_emit22 l g _ hs hR hn (by first | omega | (simp only [List.length_append, List.length_nil, List.length_cons]; omega)) 1 _ (nI (tk_T K t - 31)) _ rfl (congrArg nI (by omega))) rfl (fun g4 g4q => ?_)
              have hR := gd_R (by decide : 22 = 10 ∨ 22 = 22) hR g4q
              have hs := gd_s hs g4q
              have hg := gd_app hg g4q
              have hn := gd_n hg
              have h4 := hR.2.2.2.2.1
              have hI2 := hR.1
              have hI3 := hR.2.1
              refine xe_pop dX5_takeUnit_72 rfl ?_
              refine xe_aload_n dX5_takeUnit_73 rfl ?_
              refine xe_aload_n dX5_takeUnit_74 rfl ?_
              refine xe_getIv dX5_takeUnit_75 flX5_41 (st7 hs) (by decide) rfl (v := nI (q_kn (tk_T K t))) ((hR.2.2.2.2.2.trans (q_kap_n (a := tk_T K t) (by omega)))) ?_
              refine xe_callVIq (d' := 0) (y' := mX5_take) dX5_takeUnit_78 mlX5_63 mvX5_take rfl (st7 hs) (by decide) rfl (by omega) (by decide) (Nat.le_of_ble_eq_true rfl) (g_take22 l g _ hs hR hn (tk_T K t) (q_kn (tk_T K t)) (rfl) hok (by omega) (by omega) (tx_ck_0 rfl (by omega))) rfl (fun g5 g5q => ?_)
              have hR := gd_R (by decide : 22 = 10 ∨ 22 = 22) hR g5q
              have hs := gd_s hs g5q
              have hg := gd_tk hg g5q
              have hn := gd_n hg
              have h4 := hR.2.2.2.2.1
              have hI2 := hR.1
              have hI3 := hR.2.1
              refine xe_ireturn dX5_takeUnit_81 rfl (by first | rfl | decide +kernel) ?_
              exact ⟨rfl, hg⟩
        · omega
    · rw [if_neg hv]
      by_cases h6 : tk_T K t = 6
      · rw [if_pos h6]
        have hk5 : q_I h 7 5 = nI 40 := h5.trans (by rw [h6]; rfl)
        by_cases h400 : 400 ≤ t
        · rw [if_pos h400]
          refine q_CtV mvX5_takeUnit (Nat.le_of_ble_eq_true rfl) ?_
          refine xe_aload_n dX5_takeUnit_0 rfl ?_
          refine xe_getIv dX5_takeUnit_1 flX5_41 (st7 hs) (by decide) rfl (v := nI 40) (hk5) ?_
          refine xe_iconst dX5_takeUnit_4 kc_2 ?_
          refine xn_icmp_ne (tgt := 36) dX5_takeUnit_5 rfl (by omega) (by omega) (fun c1 => ?_) (fun c1 => ?_)
          · refine xe_aload_n dX5_takeUnit_36 rfl ?_
            refine xe_getIv dX5_takeUnit_37 flX5_41 (st7 hs) (by decide) rfl (v := nI 40) (hk5) ?_
            refine xe_sipush dX5_takeUnit_40 ks_267 ?_
            refine xn_icmp_lt (tgt := 82) dX5_takeUnit_43 rfl (by omega) (by omega) (fun c2 => ?_) (fun c2 => ?_)
            · refine xe_aload_n dX5_takeUnit_82 rfl ?_
              refine xe_getIv dX5_takeUnit_83 flX5_41 (st7 hs) (by decide) rfl (v := nI 40) (hk5) ?_
              refine xe_bipush dX5_takeUnit_86 kb_40 ?_
              refine xn_icmp_eq (tgt := 97) dX5_takeUnit_88 rfl (by omega) (by omega) (fun c3 => ?_) (fun c3 => ?_)
              · refine xe_iload_n dX5_takeUnit_97 rfl ?_
                refine xe_bipush dX5_takeUnit_98 kb_6 ?_
                refine xn_icmp_lt (tgt := 109) dX5_takeUnit_100 rfl (by omega) (by omega) (fun c4 => ?_) (fun c4 => ?_)
                · refine xe_aload_n dX5_takeUnit_109 rfl ?_
                  refine xe_bipush dX5_takeUnit_110 kb_40 ?_
                  refine xe_callVIq (d' := 0) (y' := mX5_take) dX5_takeUnit_112 mlX5_63 mvX5_take rfl (st7 hs) (by decide) rfl (by omega) (by decide) (Nat.le_of_ble_eq_true rfl) (b_take22 l g _ hs hR hn (by first | omega | (simp only [List.length_append, List.length_nil, List.length_cons]; omega)) 6 40 rfl (by decide) (by decide) (tx_ck_2 h6 h400)) rfl (fun g5 g5q => ?_)
                  have hs := bad_s hs g5q
                  have hb := gd_bad hg (by first | omega | (simp only [List.length_append, List.length_nil, List.length_cons]; omega)) g5q
                  obtain ⟨nb, hnb, hnb2⟩ := g5q.1.2.2
                  have hI2 := em_P g5q.1 hI2
                  have hI3 := em_P g5q.1 hI3
                  refine xn_if_eq (tgt := 141) dX5_takeUnit_115 rfl (by omega) (fun c6 => ?_) (fun c6 => ?_)
                  · refine xe_iconst dX5_takeUnit_141 kc_0 ?_
                    refine xe_ireturn dX5_takeUnit_142 rfl (by first | rfl | decide +kernel) ?_
                    exact ⟨rfl, hb⟩
                  · omega
                · omega
              · omega
            · omega
          · omega
        · rw [if_neg h400]
          cases hu : tx_sumU (tk_T K) (tx_un (tk_T K) (tk_V K) k) (t + 1) with
          | inl er =>
            refine q_CtV mvX5_takeUnit (Nat.le_of_ble_eq_true rfl) ?_
            refine xe_aload_n dX5_takeUnit_0 rfl ?_
            refine xe_getIv dX5_takeUnit_1 flX5_41 (st7 hs) (by decide) rfl (v := nI 40) (hk5) ?_
            refine xe_iconst dX5_takeUnit_4 kc_2 ?_
            refine xn_icmp_ne (tgt := 36) dX5_takeUnit_5 rfl (by omega) (by omega) (fun c1 => ?_) (fun c1 => ?_)
            · refine xe_aload_n dX5_takeUnit_36 rfl ?_
              refine xe_getIv dX5_takeUnit_37 flX5_41 (st7 hs) (by decide) rfl (v := nI 40) (hk5) ?_
              refine xe_sipush dX5_takeUnit_40 ks_267 ?_
              refine xn_icmp_lt (tgt := 82) dX5_takeUnit_43 rfl (by omega) (by omega) (fun c2 => ?_) (fun c2 => ?_)
              · refine xe_aload_n dX5_takeUnit_82 rfl ?_
                refine xe_getIv dX5_takeUnit_83 flX5_41 (st7 hs) (by decide) rfl (v := nI 40) (hk5) ?_
                refine xe_bipush dX5_takeUnit_86 kb_40 ?_
                refine xn_icmp_eq (tgt := 97) dX5_takeUnit_88 rfl (by omega) (by omega) (fun c3 => ?_) (fun c3 => ?_)
                · refine xe_iload_n dX5_takeUnit_97 rfl ?_
                  refine xe_bipush dX5_takeUnit_98 kb_6 ?_
                  refine xn_icmp_lt (tgt := 109) dX5_takeUnit_100 rfl (by omega) (by omega) (fun c4 => ?_) (fun c4 => ?_)
                  · refine xe_aload_n dX5_takeUnit_109 rfl ?_
                    refine xe_bipush dX5_takeUnit_110 kb_40 ?_
                    refine xe_callVIq (d' := 0) (y' := mX5_take) dX5_takeUnit_112 mlX5_63 mvX5_take rfl (st7 hs) (by decide) rfl (by omega) (by decide) (Nat.le_of_ble_eq_true rfl) (g_take22 l g _ hs hR hn 6 40 rfl (by decide) (by decide) (by decide) (tx_ck_0 h6 (by omega))) rfl (fun g5 g5q => ?_)
                    have hR := gd_R (by decide : 22 = 10 ∨ 22 = 22) hR g5q
                    have hs := gd_s hs g5q
                    have hg := gd_tk hg g5q
                    have hn := gd_n hg
                    have h4 := hR.2.2.2.2.1
                    have hI2 := hR.1
                    have hI3 := hR.2.1
                    refine xn_if_eq (tgt := 141) dX5_takeUnit_115 rfl (by omega) (fun c6 => ?_) (fun c6 => ?_)
                    · omega
                    · refine xe_aload_n dX5_takeUnit_118 rfl ?_
                      refine xe_iload_n dX5_takeUnit_119 rfl ?_
                      refine xe_iconst dX5_takeUnit_120 kc_1 ?_
                      refine xn_iadd dX5_takeUnit_121 ?_
                      refine xe_callVIq (d' := d) (y' := mX5_takeSum) dX5_takeUnit_122 mlX5_147 mvX5_takeSum rfl (st7 hs) (by decide) rfl (by omega) (by decide) (Nat.le_of_ble_eq_true rfl) ((show q_Ct l g d _ _ _ (fun r h1 => r = some (.int (nI 0)) ∧ q_bad K 22 _ er h1) from by have hC := hU _ hs _ _ hR hn (by first | omega | (simp only [List.length_append, List.length_nil, List.length_cons]; omega)); rw [hu] at hC; exact hC)) rfl (fun g7 g7q => ?_)
                      have hs := bad_s hs g7q
                      have hb := gd_bad hg (by first | omega | (simp only [List.length_append, List.length_nil, List.length_cons]; omega)) g7q
                      obtain ⟨nb, hnb, hnb2⟩ := g7q.1.2.2
                      have hI2 := em_P g7q.1 hI2
                      have hI3 := em_P g7q.1 hI3
                      refine xn_if_eq (tgt := 141) dX5_takeUnit_125 rfl (by omega) (fun c8 => ?_) (fun c8 => ?_)
                      · refine xe_iconst dX5_takeUnit_141 kc_0 ?_
                        refine xe_ireturn dX5_takeUnit_142 rfl (by first | rfl | decide +kernel) ?_
                        exact ⟨rfl, hb⟩
                      · omega
                  · omega
                · omega
              · omega
            · omega
          | inr x =>
            obtain ⟨g1, g2, g3, g4, g5⟩ := tx_sumU_ok (tx_un_ok k) _ _ hu
            show q_Ct l g (d + 1) mX5_takeUnit _ h (q_ans K m 22 n h (tx_b (tx_ck (tk_T K) 7 x.2) (.inr (x.1, x.2 + 1))))
            cases hc : tx_ck (tk_T K) 7 x.2 with
            | some er =>
              refine q_CtV mvX5_takeUnit (Nat.le_of_ble_eq_true rfl) ?_
              refine xe_aload_n dX5_takeUnit_0 rfl ?_
              refine xe_getIv dX5_takeUnit_1 flX5_41 (st7 hs) (by decide) rfl (v := nI 40) (hk5) ?_
              refine xe_iconst dX5_takeUnit_4 kc_2 ?_
              refine xn_icmp_ne (tgt := 36) dX5_takeUnit_5 rfl (by omega) (by omega) (fun c1 => ?_) (fun c1 => ?_)
              · refine xe_aload_n dX5_takeUnit_36 rfl ?_
                refine xe_getIv dX5_takeUnit_37 flX5_41 (st7 hs) (by decide) rfl (v := nI 40) (hk5) ?_
                refine xe_sipush dX5_takeUnit_40 ks_267 ?_
                refine xn_icmp_lt (tgt := 82) dX5_takeUnit_43 rfl (by omega) (by omega) (fun c2 => ?_) (fun c2 => ?_)
                · refine xe_aload_n dX5_takeUnit_82 rfl ?_
                  refine xe_getIv dX5_takeUnit_83 flX5_41 (st7 hs) (by decide) rfl (v := nI 40) (hk5) ?_
                  refine xe_bipush dX5_takeUnit_86 kb_40 ?_
                  refine xn_icmp_eq (tgt := 97) dX5_takeUnit_88 rfl (by omega) (by omega) (fun c3 => ?_) (fun c3 => ?_)
                  · refine xe_iload_n dX5_takeUnit_97 rfl ?_
                    refine xe_bipush dX5_takeUnit_98 kb_6 ?_
                    refine xn_icmp_lt (tgt := 109) dX5_takeUnit_100 rfl (by omega) (by omega) (fun c4 => ?_) (fun c4 => ?_)
                    · refine xe_aload_n dX5_takeUnit_109 rfl ?_
                      refine xe_bipush dX5_takeUnit_110 kb_40 ?_
                      refine xe_callVIq (d' := 0) (y' := mX5_take) dX5_takeUnit_112 mlX5_63 mvX5_take rfl (st7 hs) (by decide) rfl (by omega) (by decide) (Nat.le_of_ble_eq_true rfl) (g_take22 l g _ hs hR hn 6 40 rfl (by decide) (by decide) (by decide) (tx_ck_0 h6 (by omega))) rfl (fun g5 g5q => ?_)
                      have hR := gd_R (by decide : 22 = 10 ∨ 22 = 22) hR g5q
                      have hs := gd_s hs g5q
                      have hg := gd_tk hg g5q
                      have hn := gd_n hg
                      have h4 := hR.2.2.2.2.1
                      have hI2 := hR.1
                      have hI3 := hR.2.1
                      refine xn_if_eq (tgt := 141) dX5_takeUnit_115 rfl (by omega) (fun c6 => ?_) (fun c6 => ?_)
                      · omega
                      · refine xe_aload_n dX5_takeUnit_118 rfl ?_
                        refine xe_iload_n dX5_takeUnit_119 rfl ?_
                        refine xe_iconst dX5_takeUnit_120 kc_1 ?_
                        refine xn_iadd dX5_takeUnit_121 ?_
                        refine xe_callVIq (d' := d) (y' := mX5_takeSum) dX5_takeUnit_122 mlX5_147 mvX5_takeSum rfl (st7 hs) (by decide) rfl (by omega) (by decide) (Nat.le_of_ble_eq_true rfl) ((show q_Ct l g d _ _ _ (fun r h1 => r = some (.int (nI 1)) ∧ q_gd K m 22 _ _ x h1) from by have hC := hU _ hs _ _ hR hn (by first | omega | (simp only [List.length_append, List.length_nil, List.length_cons]; omega)); rw [hu] at hC; exact hC)) rfl (fun g7 g7q => ?_)
                        have hR := gd_R (by decide : 22 = 10 ∨ 22 = 22) hR g7q
                        have hs := gd_s hs g7q
                        have hg := gd_app hg g7q
                        have hn := gd_n hg
                        have h4 := hR.2.2.2.2.1
                        have hI2 := hR.1
                        have hI3 := hR.2.1
                        refine xn_if_eq (tgt := 141) dX5_takeUnit_125 rfl (by omega) (fun c8 => ?_) (fun c8 => ?_)
                        · omega
                        · refine xe_aload_n dX5_takeUnit_128 rfl ?_
                          refine xe_bipush dX5_takeUnit_129 kb_41 ?_
                          refine xe_callVIq (d' := 0) (y' := mX5_take) dX5_takeUnit_131 mlX5_63 mvX5_take rfl (st7 hs) (by decide) rfl (by omega) (by decide) (Nat.le_of_ble_eq_true rfl) (b_take22 l g _ hs hR hn (by first | omega | (simp only [List.length_append, List.length_nil, List.length_cons]; omega)) 7 41 rfl (by decide) (by decide) hc) rfl (fun g9 g9q => ?_)
                          have hs := bad_s hs g9q
                          have hb := gd_bad hg (by first | omega | (simp only [List.length_append, List.length_nil, List.length_cons]; omega)) g9q
                          obtain ⟨nb, hnb, hnb2⟩ := g9q.1.2.2
                          have hI2 := em_P g9q.1 hI2
                          have hI3 := em_P g9q.1 hI3
                          refine xn_if_eq (tgt := 141) dX5_takeUnit_134 rfl (by omega) (fun c10 => ?_) (fun c10 => ?_)
                          · refine xe_iconst dX5_takeUnit_141 kc_0 ?_
                            refine xe_ireturn dX5_takeUnit_142 rfl (by first | rfl | decide +kernel) ?_
                            exact ⟨rfl, hb⟩
                          · omega
                    · omega
                  · omega
                · omega
              · omega
            | none =>
              refine q_CtV mvX5_takeUnit (Nat.le_of_ble_eq_true rfl) ?_
              refine xe_aload_n dX5_takeUnit_0 rfl ?_
              refine xe_getIv dX5_takeUnit_1 flX5_41 (st7 hs) (by decide) rfl (v := nI 40) (hk5) ?_
              refine xe_iconst dX5_takeUnit_4 kc_2 ?_
              refine xn_icmp_ne (tgt := 36) dX5_takeUnit_5 rfl (by omega) (by omega) (fun c1 => ?_) (fun c1 => ?_)
              · refine xe_aload_n dX5_takeUnit_36 rfl ?_
                refine xe_getIv dX5_takeUnit_37 flX5_41 (st7 hs) (by decide) rfl (v := nI 40) (hk5) ?_
                refine xe_sipush dX5_takeUnit_40 ks_267 ?_
                refine xn_icmp_lt (tgt := 82) dX5_takeUnit_43 rfl (by omega) (by omega) (fun c2 => ?_) (fun c2 => ?_)
                · refine xe_aload_n dX5_takeUnit_82 rfl ?_
                  refine xe_getIv dX5_takeUnit_83 flX5_41 (st7 hs) (by decide) rfl (v := nI 40) (hk5) ?_
                  refine xe_bipush dX5_takeUnit_86 kb_40 ?_
                  refine xn_icmp_eq (tgt := 97) dX5_takeUnit_88 rfl (by omega) (by omega) (fun c3 => ?_) (fun c3 => ?_)
                  · refine xe_iload_n dX5_takeUnit_97 rfl ?_
                    refine xe_bipush dX5_takeUnit_98 kb_6 ?_
                    refine xn_icmp_lt (tgt := 109) dX5_takeUnit_100 rfl (by omega) (by omega) (fun c4 => ?_) (fun c4 => ?_)
                    · refine xe_aload_n dX5_takeUnit_109 rfl ?_
                      refine xe_bipush dX5_takeUnit_110 kb_40 ?_
                      refine xe_callVIq (d' := 0) (y' := mX5_take) dX5_takeUnit_112 mlX5_63 mvX5_take rfl (st7 hs) (by decide) rfl (by omega) (by decide) (Nat.le_of_ble_eq_true rfl) (g_take22 l g _ hs hR hn 6 40 rfl (by decide) (by decide) (by decide) (tx_ck_0 h6 (by omega))) rfl (fun g5 g5q => ?_)
                      have hR := gd_R (by decide : 22 = 10 ∨ 22 = 22) hR g5q
                      have hs := gd_s hs g5q
                      have hg := gd_tk hg g5q
                      have hn := gd_n hg
                      have h4 := hR.2.2.2.2.1
                      have hI2 := hR.1
                      have hI3 := hR.2.1
                      refine xn_if_eq (tgt := 141) dX5_takeUnit_115 rfl (by omega) (fun c6 => ?_) (fun c6 => ?_)
                      · omega
                      · refine xe_aload_n dX5_takeUnit_118 rfl ?_
                        refine xe_iload_n dX5_takeUnit_119 rfl ?_
                        refine xe_iconst dX5_takeUnit_120 kc_1 ?_
                        refine xn_iadd dX5_takeUnit_121 ?_
                        refine xe_callVIq (d' := d) (y' := mX5_takeSum) dX5_takeUnit_122 mlX5_147 mvX5_takeSum rfl (st7 hs) (by decide) rfl (by omega) (by decide) (Nat.le_of_ble_eq_true rfl) ((show q_Ct l g d _ _ _ (fun r h1 => r = some (.int (nI 1)) ∧ q_gd K m 22 _ _ x h1) from by have hC := hU _ hs _ _ hR hn (by first | omega | (simp only [List.length_append, List.length_nil, List.length_cons]; omega)); rw [hu] at hC; exact hC)) rfl (fun g7 g7q => ?_)
                        have hR := gd_R (by decide : 22 = 10 ∨ 22 = 22) hR g7q
                        have hs := gd_s hs g7q
                        have hg := gd_app hg g7q
                        have hn := gd_n hg
                        have h4 := hR.2.2.2.2.1
                        have hI2 := hR.1
                        have hI3 := hR.2.1
                        refine xn_if_eq (tgt := 141) dX5_takeUnit_125 rfl (by omega) (fun c8 => ?_) (fun c8 => ?_)
                        · omega
                        · refine xe_aload_n dX5_takeUnit_128 rfl ?_
                          refine xe_bipush dX5_takeUnit_129 kb_41 ?_
                          refine xe_callVIq (d' := 0) (y' := mX5_take) dX5_takeUnit_131 mlX5_63 mvX5_take rfl (st7 hs) (by decide) rfl (by omega) (by decide) (Nat.le_of_ble_eq_true rfl) (g_take22 l g _ hs hR hn 7 41 rfl (by decide) (by decide) (by decide) hc) rfl (fun g9 g9q => ?_)
                          have hR := gd_R (by decide : 22 = 10 ∨ 22 = 22) hR g9q
                          have hs := gd_s hs g9q
                          have hg := gd_tk hg g9q
                          have hn := gd_n hg
                          have h4 := hR.2.2.2.2.1
                          have hI2 := hR.1
                          have hI3 := hR.2.1
                          refine xn_if_eq (tgt := 141) dX5_takeUnit_134 rfl (by omega) (fun c10 => ?_) (fun c10 => ?_)
                          · omega
                          · refine xe_iconst dX5_takeUnit_137 kc_1 ?_
                            refine xe_goto (tgt := 142) dX5_takeUnit_138 rfl ?_
                            refine xe_ireturn dX5_takeUnit_142 rfl (by first | rfl | decide +kernel) ?_
                            exact ⟨rfl, by simpa using hg⟩
                    · omega
                  · omega
                · omega
              · omega
      · rw [if_neg h6]
        refine q_CtV mvX5_takeUnit (Nat.le_of_ble_eq_true rfl) ?_
        refine xe_aload_n dX5_takeUnit_0 rfl ?_
        refine xe_getIv dX5_takeUnit_1 flX5_41 (st7 hs) (by decide) rfl (v := (q_kap (tk_T K t))) (h5) ?_
        refine xe_iconst dX5_takeUnit_4 kc_2 ?_
        refine xe_icmp_ne (tgt := 36) dX5_takeUnit_5 rfl (fun c1 => ?_) (fun c1 => ?_)
        · refine xe_aload_n dX5_takeUnit_36 rfl ?_
          refine xe_getIv dX5_takeUnit_37 flX5_41 (st7 hs) (by decide) rfl (v := (q_kap (tk_T K t))) (h5) ?_
          refine xe_sipush dX5_takeUnit_40 ks_267 ?_
          refine xe_icmp_lt (tgt := 82) dX5_takeUnit_43 rfl (fun c_lo => ?_) (fun c_lo => ?_)
          · refine xe_aload_n dX5_takeUnit_82 rfl ?_
            refine xe_getIv dX5_takeUnit_83 flX5_41 (st7 hs) (by decide) rfl (v := (q_kap (tk_T K t))) (h5) ?_
            refine xe_bipush dX5_takeUnit_86 kb_40 ?_
            refine xe_icmp_eq (tgt := 97) dX5_takeUnit_88 rfl (fun c2 => ?_) (fun c2 => ?_)
            · exact absurd (q_kap_inj (b := 6) hok (by decide) (by decide) c2) h6
            · refine xe_aload_n dX5_takeUnit_91 rfl ?_
              refine xe_iconst dX5_takeUnit_92 kc_1 ?_
              refine xe_callVIq (d' := 0) (y' := mX5_fail) dX5_takeUnit_93 mlX5_119 mvX5_fail rfl (st7 hs) (by decide) rfl (by omega) (by decide) (Nat.le_of_ble_eq_true rfl) (b_fail22 l g _ hs hR hn (by first | omega | (simp only [List.length_append, List.length_nil, List.length_cons]; omega)) 1) rfl (fun g3 g3q => ?_)
              have hb := gd_bad hg (by first | omega | (simp only [List.length_append, List.length_nil, List.length_cons]; omega)) g3q
              refine xe_ireturn dX5_takeUnit_96 rfl (by first | rfl | decide +kernel) ?_
              exact ⟨rfl, hb⟩
          · refine xe_aload_n dX5_takeUnit_46 rfl ?_
            refine xe_getIv dX5_takeUnit_47 flX5_41 (st7 hs) (by decide) rfl (v := (q_kap (tk_T K t))) (h5) ?_
            refine xe_sipush dX5_takeUnit_50 ks_272 ?_
            refine xe_icmp_gt (tgt := 82) dX5_takeUnit_53 rfl (fun c4 => ?_) (fun c4 => ?_)
            · refine xe_aload_n dX5_takeUnit_82 rfl ?_
              refine xe_getIv dX5_takeUnit_83 flX5_41 (st7 hs) (by decide) rfl (v := (q_kap (tk_T K t))) (h5) ?_
              refine xe_bipush dX5_takeUnit_86 kb_40 ?_
              refine xe_icmp_eq (tgt := 97) dX5_takeUnit_88 rfl (fun c5 => ?_) (fun c5 => ?_)
              · exact absurd (q_kap_inj (b := 6) hok (by decide) (by decide) c5) h6
              · refine xe_aload_n dX5_takeUnit_91 rfl ?_
                refine xe_iconst dX5_takeUnit_92 kc_1 ?_
                refine xe_callVIq (d' := 0) (y' := mX5_fail) dX5_takeUnit_93 mlX5_119 mvX5_fail rfl (st7 hs) (by decide) rfl (by omega) (by decide) (Nat.le_of_ble_eq_true rfl) (b_fail22 l g _ hs hR hn (by first | omega | (simp only [List.length_append, List.length_nil, List.length_cons]; omega)) 1) rfl (fun g6 g6q => ?_)
                have hb := gd_bad hg (by first | omega | (simp only [List.length_append, List.length_nil, List.length_cons]; omega)) g6q
                refine xe_ireturn dX5_takeUnit_96 rfl (by first | rfl | decide +kernel) ?_
                exact ⟨rfl, hb⟩
            · exact absurd (q_kap_v ⟨tk_T K t, tk_lt hok⟩ hok c_lo c4) hv
        · exact absurd (q_kap_inj (b := 2) hok (by decide) (by decide) c1) h2
theorem xc_un22 (l : Launch) (g : q_GP) {K : q_TK} {m : Nat} : ∀ k, k ≤ 6 → q_XC l g mX5_takeUnit 22 K m (3 * k + 1) (6 - k) (tx_un (tk_T K) (tk_V K) k)
  | 0, _ => xc_un022 l g
  | k + 1, hk => by
    have ih := xc_un22 l g (K := K) (m := m) k (by omega)
    have hS := xc_takeSum22 l g (xc_takePart22 l g ih (tx_un_ok k)) (tx_seq_ok (tx_un_ok k))
    rw [show 6 - k = (6 - (k + 1)) + 1 by omega] at hS
    exact xc_unS22 l g (by omega) hS
theorem xc_sum22 (l : Launch) (g : q_GP) {K : q_TK} {m : Nat} : q_XC l g mX5_takeSum 22 K m 21 0 (tx_sum K 6) := xc_takeSum22 l g (xc_takePart22 l g (xc_un22 l g 6 (Nat.le_refl _)) (tx_un_ok 6)) (tx_seq_ok (tx_un_ok 6))
