/-! the reference: read, its loop and the whole -/
theorem rd_fin {K : q_TK} {sd : Nat} {h0 h2 : q_H} {e : Nat × Nat} (hF : q_rd sd h0 h2) (h2t : q_I h2 124 2 = nI 0) (he : 1 ≤ e.1) (he5 : e.1 ≤ 5) {r : Option Value} {h1 : q_H} (q : r = some (.int (nI e.1)) ∧ h1 = q_wI h2 124 (upd (q_I h2 124) 17 (nI (tk_P K e.2)))) : r = some (.int (nI e.1)) ∧ q_rd sd h0 h1 ∧ q_I h1 124 2 = nI 0 ∧ q_I h1 124 17 = nI (tk_P K e.2) ∧ 1 ≤ e.1 ∧ e.1 ≤ 5 := by
  obtain ⟨q1, rfl⟩ := q
  exact ⟨q1, rd_w hF (Or.inr ⟨rfl, by decide⟩), h2t, rfl, he, he5⟩
theorem rd_188 (l : Launch) (g : q_GP) {K : q_TK} {m sd : Nat} {h0 : q_H} (hinc : q_inc K m) : ∀ (f : Nat) (s : q_PS) (t cc bb : Nat) (h2 : q_H), 401 ≤ f + t → q_rs h2 K m sd t cc bb → 4 * (bb - 130 * sd) ≤ t → rv_V h2 K sd t cc bb s → q_rd sd h0 h2 → q_I h2 124 2 = nI 0 → q_Ex l g 7 mX10_read 188 [(0, .ref 124)] [] h2 (rd_A K sd h0 (tx_all K f s t)) := by
  intro f
  induction f with
  | zero =>
    intro s t cc bb h2 hf a hbt hV hF h2t
    have := a.2.1.2.1
    have := a.2.1.1.1
    omega
  | succ f ih =>
    intro s t cc bb h2 hf a hbt hV hF h2t
    have hs := a.1
    have hR := a.2.1
    have h13 := hR.2.2.2
    refine xe_aload_n dX10_read_188 rfl ?_
    refine xe_getIv dX10_read_189 flX10_198 (st124 hs) (by decide) rfl (v := nI 0) h13 ?_
    refine xn_if_ne (tgt := 210) dX10_read_192 rfl (by omega) (fun q => absurd q (by omega)) (fun _ => ?_)
    refine xe_aload_n dX10_read_195 rfl ?_
    refine xe_iconst dX10_read_196 kc_0 ?_
    by_cases hk : tk_T K t = 0
    · refine xe_callVI (d' := 0) (y' := mX10_is) (as := [.int (nI 0)]) (rest := []) dX10_read_197 mlX10_216 mvX10_is rfl (st124 hs) (by decide) rfl (by decide) (by decide) (Nat.le_of_ble_eq_true rfl) (c_X10_is_1 l g h2 hs hR hk) rfl ?_
      refine xn_if_ne (tgt := 210) dX10_read_200 rfl (by omega) (fun _ => ?_) (fun q => absurd q (by omega))
      rw [tx_all, if_pos hk]
      cases he : ps_e s with
      | none =>
        refine xe_post (fun r h1 q => ?_) (rd_g l g a hV he h2t)
        unfold rd_A
        show match ps_e s with | some e => _ | none => _
        rw [he]
        exact ⟨q.1, q.2.1.trans hF.1, fun r x y => (q.2.2.1 r x y).trans (hF.2.1 r x y), fun r hr => (q.2.2.2.1 r hr).trans (funext fun i => hF.2.2 r i (by unfold q_os; omega) (by omega) (by omega) (by omega) (by omega) (by omega)), q.2.2.2.2⟩
      | some e =>
        have hE := hV.2.2.2.2.2.2.2.2.2.2.2.2.2.2.2
        rw [he] at hE
        refine xe_post (fun r h1 q => ?_) (rd_f2 l g hs hE.2.1 hE.2.2.1 h13 hE.1 hE.2.2.2.1)
        unfold rd_A
        show match ps_e s with | some e => _ | none => _
        rw [he]
        exact rd_fin hF h2t hE.2.1 hE.2.2.1 q
    · refine xe_callVI (d' := 0) (y' := mX10_is) (as := [.int (nI 0)]) (rest := []) dX10_read_197 mlX10_216 mvX10_is rfl (st124 hs) (by decide) rfl (by decide) (by decide) (Nat.le_of_ble_eq_true rfl) (c_X10_is_0 l g h2 hs hR (by decide) hk) rfl ?_
      refine xn_if_ne (tgt := 210) dX10_read_200 rfl (by omega) (fun q => absurd q (by omega)) (fun _ => ?_)
      refine xe_aload_n dX10_read_203 rfl ?_
      refine xe_callV (d' := 6) (y' := mX10_tell) (as := []) (rest := []) dX10_read_204 mlX10_243 mvX10_tell rfl (st124 hs) (by decide) rfl (by decide) (by decide) (Nat.le_of_ble_eq_true rfl) (r_tell l g h2 a hbt hV hinc) rfl (fun r h3 q => ?_)
      rw [tx_all, if_neg hk]
      cases hx : tx_tell K s t with
      | inl e =>
        rw [hx] at q
        obtain ⟨rfl, q2, q3, q4, q5, q6⟩ := q
        have hs3 := q_Stat_3 q2.1 hs
        refine xe_goto (tgt := 188) dX10_read_207 rfl ?_
        refine xe_aload_n dX10_read_188 rfl ?_
        refine xe_getIv dX10_read_189 flX10_198 (st124 hs3) (by decide) rfl (v := nI e.1) q3 ?_
        refine xn_if_ne (tgt := 210) dX10_read_192 rfl (by omega) (fun _ => ?_) (fun q => absurd q (by omega))
        refine xe_post (fun r h1 q => ?_) (rd_f1 l g hs3 q5 q6 q3 q4)
        exact rd_fin (rd_t hF (rd_rt q2)) ((q2.2.2 124 2 (by unfold q_os; omega)).trans h2t) q5 q6 q
      | inr x =>
        rw [hx] at q
        obtain ⟨rfl, q2, cc1, bb1, q3, q4, q5⟩ := q
        have hlt := tx_tell_lt hx
        refine xe_goto (tgt := 188) dX10_read_207 rfl ?_
        exact ih x.1 x.2 cc1 bb1 h3 (by omega) q3 q4 q5 (rd_t hF (rd_rt q2)) ((q2.2.2 124 2 (by unfold q_os; omega)).trans h2t)
theorem c_X10_read (l : Launch) (g : q_GP) (h : q_H) (hs : q_Stat h) {n lv : Nat} {B : Nat → Nat} (ht : q_I h 124 2 = nI n) (hn : n ≤ 2000) (hB : ∀ i, i < n → q_I h 125 i &&& nI 255 = nI (B i)) (hBl : ∀ i, B i < 256) (hW : rk_W h) (h18 : q_I h 124 18 = nI lv) (hlv : lv < 2) : q_Ct l g 7 mX10_read [.ref 124] h (rd_A (tz_K n B) (1 - lv) h (tx_all (tz_K n B) 401 tx_0 0)) := by
  refine q_CtV mvX10_read (Nat.le_of_ble_eq_true rfl) ?_
  refine xe_aload_n dX10_read_0 rfl ?_
  refine xe_aload_n dX10_read_1 rfl ?_
  refine xe_getIv dX10_read_2 flX10_160 (st124 hs) (by decide) rfl (v := nI n) (ht) ?_
  refine xe_putI dX10_read_5 flX10_167 (st124 hs) (by decide) rfl (Or.inl rfl) rfl rfl ?_
  refine xe_iconst dX10_read_8 kc_0 ?_
  refine xe_istore_n (i := 1) dX10_read_9 rfl (by decide) rfl ?_
  refine xe_fin (L' := (fun (i : Nat) (s1 : (Nat → Int32)) => [(0, .ref 124), (1, .int (nI i))]) 0 (q_I h 126)) (h' := (fun (i : Nat) (s1 : (Nat → Int32)) => (q_wI (q_wI h 124 (upd (q_I h 124) 4 (nI n))) 126 s1)) 0 (q_I h 126)) ?_ (And.intro rfl (And.intro rfl trivial)) (q_heq [124, 126] (H := h) (by repeat (first | exact q_out_r | refine q_out_w rfl ?_)) (by repeat (first | exact q_out_r | refine q_out_w rfl ?_)) (And.intro (q_feq [4] (f := q_I h 124) (by repeat (first | exact q_fout_r | refine q_fout_w rfl ?_)) (by repeat (first | exact q_fout_r | refine q_fout_w rfl ?_)) (And.intro rfl trivial)) (And.intro rfl trivial)))
  refine xe_loopI (σ := (Nat → Int32)) (n) (fun i s => ∀ j, j < i → s j = (q_I h 125 j).toInt8.toInt32) (fun (i : Nat) (s1 : (Nat → Int32)) => [(0, .ref 124), (1, .int (nI i))]) (fun (i : Nat) (s1 : (Nat → Int32)) => (q_wI (q_wI h 124 (upd (q_I h 124) 4 (nI n))) 126 s1)) (q_I h 126) ((fun j hj => absurd hj (Nat.not_lt_zero _))) (fun i hi s1 e1 K1 => ?_) (fun s1 e1 => ?_)
  · refine xe_iload_n dX10_read_10 rfl ?_
    refine xe_aload_n dX10_read_11 rfl ?_
    refine xe_getIv dX10_read_12 flX10_167 (st124 hs) (by decide) rfl (v := nI n) (rfl) ?_
    refine xn_icmp_ge (tgt := 36) dX10_read_15 rfl (by omega) (by omega) (fun c2 => ?_) (fun c2 => ?_)
    · omega
    · refine xe_aload_n dX10_read_18 rfl ?_
      refine xe_getP dX10_read_19 flX10_17 (st124 hs) (by decide) rfl (sp124_3 hs) ?_
      refine xe_iload_n dX10_read_22 rfl ?_
      refine xe_aload_n dX10_read_23 rfl ?_
      refine xe_getP dX10_read_24 flX10_13 (st124 hs) (by decide) rfl (sp124_1 hs) ?_
      refine xe_iload_n dX10_read_27 rfl ?_
      refine xn_baldv dX10_read_28 (st125 hs) (by omega) (by decide) (v := ((q_I h 125) i)) (rfl) ?_
      refine xn_bast dX10_read_29 (st126 hs) (by omega) (by decide) (v := ((q_I h 125 i).toInt8.toInt32)) (rfl) ?_
      refine xn_iinc dX10_read_30 rfl kc_1 ?_
      refine xe_goto (tgt := 10) dX10_read_33 rfl ?_
      exact xe_fin (K1 (upd s1 i ((q_I h 125 i).toInt8.toInt32)) ((fun j hj => by
        by_cases q : j = i
        · subst q
          exact if_pos rfl
        · exact (pk_un q).trans (e1 j (by omega))))) (And.intro rfl (And.intro rfl trivial)) (q_heq [124, 126] (H := h) (by repeat (first | exact q_out_r | refine q_out_w rfl ?_)) (by repeat (first | exact q_out_r | refine q_out_w rfl ?_)) (And.intro (q_feq [4] (f := q_I h 124) (by repeat (first | exact q_fout_r | refine q_fout_w rfl ?_)) (by repeat (first | exact q_fout_r | refine q_fout_w rfl ?_)) (And.intro rfl trivial)) (And.intro rfl trivial)))
  · refine xe_iload_n dX10_read_10 rfl ?_
    refine xe_aload_n dX10_read_11 rfl ?_
    refine xe_getIv dX10_read_12 flX10_167 (st124 hs) (by decide) rfl (v := nI n) (rfl) ?_
    refine xn_icmp_ge (tgt := 36) dX10_read_15 rfl (by omega) (by omega) (fun c3 => ?_) (fun c3 => ?_)
    · refine xe_aload_n dX10_read_36 rfl ?_
      refine xe_iconst dX10_read_37 kc_0 ?_
      refine xe_putI dX10_read_38 flX10_160 (st124 hs) (by decide) rfl (Or.inl rfl) rfl rfl ?_
      refine xe_aload_n dX10_read_41 rfl ?_
      refine xe_callV (d' := 2) (y' := mX10_cut) (as := []) (rest := []) dX10_read_42 mlX10_222 mvX10_cut rfl (st124 hs) (by decide) rfl (by decide) (by decide) (Nat.le_of_ble_eq_true rfl) (c_X10_cut l g _ (by exact hs) (n := n) (B := B) (by exact ⟨rfl, hn, fun j hj => (congrArg (fun x => x &&& nI 255) (e1 j hj)).trans ((tz_by8 _).trans (hB j hj)), hBl⟩) (by exact hW)) rfl (fun r h1 q => ?_)
      obtain ⟨rfl, q⟩ := q
      obtain ⟨m, hT, hinc⟩ := tz_rtT hn q
      obtain ⟨m2, -, -, -, hS⟩ := q
      have hs1 : q_Stat h1 := q_Stat_3 hS.1 hs
      have h12 : q_I h1 124 2 = nI 0 := hS.2.2.1 2 (by decide)
      have h118 : q_I h1 124 18 = nI lv := (hS.2.2.1 18 (by decide)).trans h18
      have hF : q_rd (1 - lv) h h1 := by
        refine ⟨hS.1, fun r x y => hS.2.2.2.1 r x, fun r i x x1 x2 x3 x4 x5 => ?_⟩
        by_cases r4 : r = 124
        · subst r4
          obtain ⟨y1, y2, y3, y4, y5⟩ := x5 rfl
          refine (hS.2.2.1 i y3).trans ?_
          repeat (first | exact rfl | refine (pk_un (by assumption)).trans ?_)
        · refine congrFun ((hS.2.1 r r4 x2 x3 x4).trans ?_) i
          repeat (first | exact rfl | refine (q_Ine (by assumption)).trans ?_)
      refine xe_locals (L' := [(0, .ref 124)]) ⟨rfl, trivial⟩ (rd_45 l g hs1 hT h118 hlv (fun h2 a1 a2 a3 a4 => ?_))
      exact rd_188 l g hinc 401 tx_0 0 _ _ h2 (by omega) a1 (by omega) a2 (rd_t hF a3) (a4.trans h12)
    · omega
