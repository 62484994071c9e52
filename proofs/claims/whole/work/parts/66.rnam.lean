/-! the reference: tellLaw, names, later faults, ints -/
/-- a law whole: behind it the codes end at cc', the branches at bb' -/
def q_lr (h : q_H) (K : q_TK) (m sd cc bb t' cc' bb' : Nat) (L : q_lawT) (hm : q_H) : Prop := q_rf sd cc bb h hm ∧ q_rs hm K m sd t' cc' bb' ∧ 4 * (bb' - 130 * sd) ≤ t' ∧ bb' = bb + L.1.length + 1 ∧ q_br hm bb L.1 L.2 ∧ cc ≤ cc' ∧ (∀ j, j ≤ L.1.length → (∃ z, z ≤ cc' ∧ q_I hm 148 (bb + j) = nI z) ∧ q_lo sd hm bb L.1.length j) ∧ 130 * sd ≤ bb
def q_lrA (h : q_H) (K : q_TK) (m sd cc bb : Nat) (W : q_H → Nat → q_H) (o : (Nat × Nat) ⊕ (q_lawT × Nat)) (r : Option Value) (h1 : q_H) : Prop := match o with
  | .inl e => r = none ∧ q_rf sd cc bb h h1 ∧ q_rb h1 K sd e
  | .inr x => r = none ∧ ∃ hm cc' bb', q_lr h K m sd cc bb x.2 cc' bb' x.1 hm ∧ h1 = W hm bb'
theorem r_tellLaw_k (l : Launch) (g : q_GP) (h : q_H) {K : q_TK} {m sd t cc bb : Nat} (a : q_rs h K m sd t cc bb) {k : Nat} (hk : k < 20) (hbt : 4 * (bb - 130 * sd) + 1 ≤ t) : q_Ct l g 5 mX10_tellLaw [.ref 124, .int (nI k)] h (q_lrA h K m sd cc bb (fun hm b => q_wI (q_wI hm 142 (upd (q_I hm 142) (20 * sd + k) (nI bb))) 143 (upd (q_I hm 143) (20 * sd + k) (nI b))) (tx_law K t)) := by
  have hs := a.1
  have hR := a.2.1
  have h11 := hR.2.2.1
  have h13 := hR.2.2.2
  have h33 := a.2.2.2.2.2.1
  have h39 := a.2.2.2.2.2.2.1
  have h19 := a.2.2.2.1
  have hsd := a.2.2.2.2.1
  have hc1 := a.2.2.2.2.2.2.2.1
  have hc2 := a.2.2.2.2.2.2.2.2.1
  have hb1 := a.2.2.2.2.2.2.2.2.2.1
  have hb2 := a.2.2.2.2.2.2.2.2.2.2
  have hm4 := hR.1.1
  have htm := hR.2.1
  unfold tx_law
  cases hc : tx_ck (tk_T K) 5 t with
  | some er =>
    have he := ck_15 hc
    refine q_CtV mvX10_tellLaw (Nat.le_of_ble_eq_true rfl) ?_
    refine xe_aload_n dX10_tellLaw_0 rfl ?_
    refine xe_iconst dX10_tellLaw_1 kc_5 ?_
    refine xe_callVV (d' := 2) (y' := mX10_must) dX10_tellLaw_2 mlX10_275 mvX10_must rfl (st124 hs) (by decide) rfl (by decide) (by decide) (Nat.le_of_ble_eq_true rfl) (c_X10_must_f l g _ (by exact hs) (t := t) hR (k := 5) (by decide) (f := er.1) (u := er.2) hc) rfl ?_
    refine xe_aload_n dX10_tellLaw_5 rfl ?_
    refine xe_getIv dX10_tellLaw_6 flX10_237 (st124 hs) (by decide) rfl (v := nI bb) (h33) ?_
    refine xe_istore_n (i := 2) dX10_tellLaw_9 rfl (by decide) rfl ?_
    refine xe_iconst dX10_tellLaw_10 kc_0 ?_
    refine xe_istore_n (i := 3) dX10_tellLaw_11 rfl (by decide) rfl ?_
    refine xe_locals (L' := [(0, .ref 124), (1, .int (nI k)), (2, .int (nI bb)), (3, .int (nI 0))]) (And.intro rfl (And.intro rfl (And.intro rfl (And.intro rfl trivial)))) ?_
    exact tl_b12 l g _ (rs_f a he.1 he.2) h33 (by omega) (fun h1 f3 a3 => ⟨rfl, rf_t (rf_o rf_r (fun k x1 x2 x3 x4 x5 x6 x7 => (pk_un x4).trans (pk_un x3))) f3 (by omega) (Nat.le_refl _), a3⟩)
  | none =>
    have hgo := rt_gn hR.1 htm hc (by decide)
    refine q_CtV mvX10_tellLaw (Nat.le_of_ble_eq_true rfl) ?_
    refine xe_aload_n dX10_tellLaw_0 rfl ?_
    refine xe_iconst dX10_tellLaw_1 kc_5 ?_
    refine xe_callVV (d' := 2) (y' := mX10_must) dX10_tellLaw_2 mlX10_275 mvX10_must rfl (st124 hs) (by decide) rfl (by decide) (by decide) (Nat.le_of_ble_eq_true rfl) (c_X10_must_t l g _ (by exact hs) (t := t) hR (k := 5) hc) rfl ?_
    refine xe_aload_n dX10_tellLaw_5 rfl ?_
    refine xe_getIv dX10_tellLaw_6 flX10_237 (st124 hs) (by decide) rfl (v := nI bb) (h33) ?_
    refine xe_istore_n (i := 2) dX10_tellLaw_9 rfl (by decide) rfl ?_
    refine xe_iconst dX10_tellLaw_10 kc_0 ?_
    refine xe_istore_n (i := 3) dX10_tellLaw_11 rfl (by decide) rfl ?_
    refine xe_locals (L' := [(0, .ref 124), (1, .int (nI k)), (2, .int (nI bb)), (3, .int (nI 0))]) (And.intro rfl (And.intro rfl (And.intro rfl (And.intro rfl trivial)))) ?_
    have f0 : q_rf sd cc bb h (q_wI h 124 (upd (q_I h 124) 11 (nI (t + 1)))) := rf_o rf_r (fun k x1 x2 x3 x4 x5 x6 x7 => pk_un x1)
    refine law_r l g 4 0 _ (t + 1) cc bb _ (rs_go a hgo) (by omega) rfl (fun rows e t' cc' h1 hx f3 a3 hb3 br hcc hz i' => ?_) (fun er h1 hx f3 a3 => ?_)
    rotate_right
    · show q_lrA h K m sd cc bb _ (tx_ifs K 4 [] (t + 1)) none h1
      rw [hx]
      exact ⟨rfl, rf_t f0 f3 (Nat.le_refl _) (Nat.le_refl _), a3⟩
    have hL : q_lr h K m sd cc bb t' cc' (bb + rows.length + 1) (rows, e) h1 := ⟨rf_t f0 f3 (Nat.le_refl _) (Nat.le_refl _), a3, hb3, rfl, br, hcc, hz, hb1⟩
    obtain ⟨hs, hR, k12, h19, -, h33, -, -, -, -, -⟩ := id a3
    have h13 := hR.2.2.2
    refine xe_aload_n dX10_tellLaw_148 rfl ?_
    refine xe_getIv dX10_tellLaw_149 flX10_198 (st124 hs) (by decide) rfl (v := nI 0) (h13) ?_
    refine xn_if_gt (tgt := 159) dX10_tellLaw_152 rfl (by omega) (fun c1 => ?_) (fun c1 => ?_)
    · omega
    · refine xe_iload_n dX10_tellLaw_155 rfl ?_
      refine xn_if_ge (tgt := 160) dX10_tellLaw_156 rfl (by omega) ?_
      refine xe_aload_n dX10_tellLaw_160 rfl ?_
      refine xe_getP dX10_tellLaw_161 flX10_70 (st124 hs) (by decide) rfl (sp124_31 hs) ?_
      refine xe_bipush dX10_tellLaw_164 kb_20 ?_
      refine xe_aload_n dX10_tellLaw_166 rfl ?_
      refine xe_getIv dX10_tellLaw_167 flX10_231 (st124 hs) (by decide) rfl (v := nI sd) (h19) ?_
      refine xn_imul dX10_tellLaw_170 ?_
      refine xe_iload_n dX10_tellLaw_171 rfl ?_
      refine xn_iadd dX10_tellLaw_172 ?_
      refine xe_iload_n dX10_tellLaw_173 rfl ?_
      refine xn_iast dX10_tellLaw_174 (st142 hs) (by omega) (by decide) ?_
      refine xe_aload_n dX10_tellLaw_175 rfl ?_
      refine xe_getP dX10_tellLaw_176 flX10_73 (st124 hs) (by decide) rfl (sp124_32 hs) ?_
      refine xe_bipush dX10_tellLaw_179 kb_20 ?_
      refine xe_aload_n dX10_tellLaw_181 rfl ?_
      refine xe_getIv dX10_tellLaw_182 flX10_231 (st124 hs) (by decide) rfl (v := nI sd) (h19) ?_
      refine xn_imul dX10_tellLaw_185 ?_
      refine xe_iload_n dX10_tellLaw_186 rfl ?_
      refine xn_iadd dX10_tellLaw_187 ?_
      refine xe_aload_n dX10_tellLaw_188 rfl ?_
      refine xe_getIv dX10_tellLaw_189 flX10_237 (st124 hs) (by decide) rfl (v := nI (bb + rows.length + 1)) (h33) ?_
      refine xn_iast dX10_tellLaw_192 (st143 hs) (by omega) (by decide) ?_
      refine xe_return dX10_tellLaw_193 rfl ?_
      show q_lrA h K m sd cc bb _ (tx_ifs K 4 [] (t + 1)) none _
      rw [hx]
      exact ⟨rfl, h1, cc', _, hL, rfl⟩
theorem r_tellLaw_n (l : Launch) (g : q_GP) (h : q_H) {K : q_TK} {m sd t cc bb : Nat} (a : q_rs h K m sd t cc bb) (hbt : 4 * (bb - 130 * sd) + 1 ≤ t) : q_Ct l g 5 mX10_tellLaw [.ref 124, .int (-1)] h (q_lrA h K m sd cc bb (fun hm _ => hm) (tx_law K t)) := by
  have hs := a.1
  have hR := a.2.1
  have h11 := hR.2.2.1
  have h13 := hR.2.2.2
  have h33 := a.2.2.2.2.2.1
  have h39 := a.2.2.2.2.2.2.1
  have h19 := a.2.2.2.1
  have hsd := a.2.2.2.2.1
  have hc1 := a.2.2.2.2.2.2.2.1
  have hc2 := a.2.2.2.2.2.2.2.2.1
  have hb1 := a.2.2.2.2.2.2.2.2.2.1
  have hb2 := a.2.2.2.2.2.2.2.2.2.2
  have hm4 := hR.1.1
  have htm := hR.2.1
  unfold tx_law
  cases hc : tx_ck (tk_T K) 5 t with
  | some er =>
    have he := ck_15 hc
    refine q_CtV mvX10_tellLaw (Nat.le_of_ble_eq_true rfl) ?_
    refine xe_aload_n dX10_tellLaw_0 rfl ?_
    refine xe_iconst dX10_tellLaw_1 kc_5 ?_
    refine xe_callVV (d' := 2) (y' := mX10_must) dX10_tellLaw_2 mlX10_275 mvX10_must rfl (st124 hs) (by decide) rfl (by decide) (by decide) (Nat.le_of_ble_eq_true rfl) (c_X10_must_f l g _ (by exact hs) (t := t) hR (k := 5) (by decide) (f := er.1) (u := er.2) hc) rfl ?_
    refine xe_aload_n dX10_tellLaw_5 rfl ?_
    refine xe_getIv dX10_tellLaw_6 flX10_237 (st124 hs) (by decide) rfl (v := nI bb) (h33) ?_
    refine xe_istore_n (i := 2) dX10_tellLaw_9 rfl (by decide) rfl ?_
    refine xe_iconst dX10_tellLaw_10 kc_0 ?_
    refine xe_istore_n (i := 3) dX10_tellLaw_11 rfl (by decide) rfl ?_
    refine xe_locals (L' := [(0, .ref 124), (1, .int (-1)), (2, .int (nI bb)), (3, .int (nI 0))]) (And.intro rfl (And.intro rfl (And.intro rfl (And.intro rfl trivial)))) ?_
    exact tl_b12 l g _ (rs_f a he.1 he.2) h33 (by omega) (fun h1 f3 a3 => ⟨rfl, rf_t (rf_o rf_r (fun k x1 x2 x3 x4 x5 x6 x7 => (pk_un x4).trans (pk_un x3))) f3 (by omega) (Nat.le_refl _), a3⟩)
  | none =>
    have hgo := rt_gn hR.1 htm hc (by decide)
    refine q_CtV mvX10_tellLaw (Nat.le_of_ble_eq_true rfl) ?_
    refine xe_aload_n dX10_tellLaw_0 rfl ?_
    refine xe_iconst dX10_tellLaw_1 kc_5 ?_
    refine xe_callVV (d' := 2) (y' := mX10_must) dX10_tellLaw_2 mlX10_275 mvX10_must rfl (st124 hs) (by decide) rfl (by decide) (by decide) (Nat.le_of_ble_eq_true rfl) (c_X10_must_t l g _ (by exact hs) (t := t) hR (k := 5) hc) rfl ?_
    refine xe_aload_n dX10_tellLaw_5 rfl ?_
    refine xe_getIv dX10_tellLaw_6 flX10_237 (st124 hs) (by decide) rfl (v := nI bb) (h33) ?_
    refine xe_istore_n (i := 2) dX10_tellLaw_9 rfl (by decide) rfl ?_
    refine xe_iconst dX10_tellLaw_10 kc_0 ?_
    refine xe_istore_n (i := 3) dX10_tellLaw_11 rfl (by decide) rfl ?_
    refine xe_locals (L' := [(0, .ref 124), (1, .int (-1)), (2, .int (nI bb)), (3, .int (nI 0))]) (And.intro rfl (And.intro rfl (And.intro rfl (And.intro rfl trivial)))) ?_
    have f0 : q_rf sd cc bb h (q_wI h 124 (upd (q_I h 124) 11 (nI (t + 1)))) := rf_o rf_r (fun k x1 x2 x3 x4 x5 x6 x7 => pk_un x1)
    refine law_r l g 4 0 _ (t + 1) cc bb _ (rs_go a hgo) (by omega) rfl (fun rows e t' cc' h1 hx f3 a3 hb3 br hcc hz i' => ?_) (fun er h1 hx f3 a3 => ?_)
    rotate_right
    · show q_lrA h K m sd cc bb _ (tx_ifs K 4 [] (t + 1)) none h1
      rw [hx]
      exact ⟨rfl, rf_t f0 f3 (Nat.le_refl _) (Nat.le_refl _), a3⟩
    have hL : q_lr h K m sd cc bb t' cc' (bb + rows.length + 1) (rows, e) h1 := ⟨rf_t f0 f3 (Nat.le_refl _) (Nat.le_refl _), a3, hb3, rfl, br, hcc, hz, hb1⟩
    obtain ⟨hs, hR, k12, h19, -, h33, -, -, -, -, -⟩ := id a3
    have h13 := hR.2.2.2
    refine xe_aload_n dX10_tellLaw_148 rfl ?_
    refine xe_getIv dX10_tellLaw_149 flX10_198 (st124 hs) (by decide) rfl (v := nI 0) (h13) ?_
    refine xn_if_gt (tgt := 159) dX10_tellLaw_152 rfl (by omega) (fun c1 => ?_) (fun c1 => ?_)
    · omega
    · refine xe_iload_n dX10_tellLaw_155 rfl ?_
      refine xe_if_ge (tgt := 160) dX10_tellLaw_156 rfl (fun c2 => ?_) (fun c2 => ?_)
      · exact absurd c2 (by decide)
      · refine xe_return dX10_tellLaw_159 rfl ?_
        show q_lrA h K m sd cc bb _ (tx_ifs K 4 [] (t + 1)) none _
        rw [hx]
        exact ⟨rfl, h1, cc', _, hL, rfl⟩
theorem r_tellLaw_b (l : Launch) (g : q_GP) {K : q_TK} {sd BB : Nat} {e : Nat × Nat} (kx : Int32) (h : q_H) (a : q_rb h K sd e) (h33 : q_I h 124 33 = nI BB) (hB : BB ≤ 130 * sd + 107) : q_Ct l g 5 mX10_tellLaw [.ref 124, .int kx] h (fun r h1 => r = none ∧ q_rf sd (420 * sd + 420) BB h h1 ∧ q_rb h1 K sd e) := by
  obtain ⟨hs, h19, hsd, h13, h14, he1, he5, ⟨t1, ht1, h11⟩, ⟨n1, hn1, h39⟩, b1, h33b, hb1, hb2⟩ := id a
  refine q_CtV mvX10_tellLaw (Nat.le_of_ble_eq_true rfl) ?_
  refine xe_aload_n dX10_tellLaw_0 rfl ?_
  refine xe_iconst dX10_tellLaw_1 kc_5 ?_
  refine xe_callVV (d' := 2) (y' := mX10_must) dX10_tellLaw_2 mlX10_275 mvX10_must rfl (st124 hs) (by decide) rfl (by decide) (by decide) (Nat.le_of_ble_eq_true rfl) (c_X10_must_b l g _ (by exact hs) (by exact h13) (by omega) he5 _) rfl ?_
  refine xe_aload_n dX10_tellLaw_5 rfl ?_
  refine xe_getIv dX10_tellLaw_6 flX10_237 (st124 hs) (by decide) rfl (v := nI BB) (h33) ?_
  refine xe_istore_n (i := 2) dX10_tellLaw_9 rfl (by decide) rfl ?_
  refine xe_iconst dX10_tellLaw_10 kc_0 ?_
  refine xe_istore_n (i := 3) dX10_tellLaw_11 rfl (by decide) rfl ?_
  refine xe_locals (L' := [(0, .ref 124), (1, .int kx), (2, .int (nI BB)), (3, .int (nI 0))]) (And.intro rfl (And.intro rfl (And.intro rfl (And.intro rfl trivial)))) ?_
  exact tl_b12 l g _ a h33 hB (fun h1 f3 a3 => ⟨rfl, f3, a3⟩)
/-- the first later fault of the reference, ahead of token t -/
def q_lfr (K : q_TK) (t : Nat) (a b : Int32) (e : Option (Nat × Nat)) : Prop := match e with
  | none => a = nI 0
  | some (k, u) => a = nI k ∧ 1 ≤ k ∧ k ≤ 5 ∧ b = nI (tk_P K u) ∧ u < t
/-- places go up -/
def q_inc (K : q_TK) (m : Nat) : Prop := ∀ i j, i < j → j ≤ m → tk_P K i < tk_P K j
theorem lfr_up {K : q_TK} {t t1 : Nat} {a b : Int32} {e : Option (Nat × Nat)} (h : q_lfr K t a b e) (ht : t ≤ t1) : q_lfr K t1 a b e := by
  cases e with
  | none => exact h
  | some e => exact ⟨h.1, h.2.1, h.2.2.1, h.2.2.2.1, by have := h.2.2.2.2; omega⟩
/-- ahead of token u, or of u itself with the same kind -/
def q_lfu (K : q_TK) (k u : Nat) (a b : Int32) (e : Option (Nat × Nat)) : Prop := match e with
  | none => a = nI 0
  | some (k0, u0) => a = nI k0 ∧ 1 ≤ k0 ∧ k0 ≤ 5 ∧ b = nI (tk_P K u0) ∧ (u0 < u ∨ (u0 = u ∧ k0 = k))
theorem lfu_of {K : q_TK} {k u : Nat} {a b : Int32} {e : Option (Nat × Nat)} (h : q_lfr K u a b e) : q_lfu K k u a b e := by
  cases e with
  | none => exact h
  | some e => exact ⟨h.1, h.2.1, h.2.2.1, h.2.2.2.1, Or.inl h.2.2.2.2⟩
theorem lfu_to {K : q_TK} {k u : Nat} {a b : Int32} {e : Option (Nat × Nat)} (h : q_lfu K k u a b e) : q_lfr K (u + 1) a b e := by
  cases e with
  | none => exact h
  | some e => exact ⟨h.1, h.2.1, h.2.2.1, h.2.2.2.1, by have := h.2.2.2.2; omega⟩
theorem lf_true {e : Option (Nat × Nat)} {k u : Nat} {a b : Int32} {K : q_TK} (h : q_lfu K k u a b e) : ∀ c, tx_lf (tx_lf e true k u) c k u = tx_lf e true k u := fun c => by cases e <;> rfl
theorem c_X10_wrong (l : Launch) (g : q_GP) (h : q_H) (hs : q_Stat h) {K : q_TK} {m : Nat} (hT : rt_T h K m) (hi : q_inc K m) (h13 : q_I h 124 13 = nI 0) {e : Option (Nat × Nat)} {k u : Nat} (hlf : q_lfu K k u (q_I h 124 15) (q_I h 124 16) e) (hk1 : 1 ≤ k) (hk5 : k ≤ 5) (hu : u ≤ m) : q_Ct l g 0 mX10_wrong [.ref 124, .int (nI k), .int (nI u)] h (fun r h1 => r = none ∧ ∃ a b, h1 = q_wI h 124 (upd (upd (q_I h 124) 15 a) 16 b) ∧ q_lfu K k u a b (tx_lf e true k u)) := by
  have hm4 := hT.1
  obtain ⟨z1, z2, z3, z4, z5, z6⟩ := hT.2.2 u hu
  cases e with
  | none =>
    have l15 : q_I h 124 15 = nI 0 := hlf
    refine q_CtV mvX10_wrong (Nat.le_of_ble_eq_true rfl) ?_
    refine xe_aload_n dX10_wrong_0 rfl ?_
    refine xe_getP dX10_wrong_1 flX10_24 (st124 hs) (by decide) rfl (sp124_6 hs) ?_
    refine xe_iload_n dX10_wrong_4 rfl ?_
    refine xn_ialdv dX10_wrong_5 (st128 hs) (by omega) (by decide) (v := nI (tk_P K u)) (z4) ?_
    refine xe_istore_n (i := 3) dX10_wrong_6 rfl (by decide) rfl ?_
    refine xe_aload_n dX10_wrong_7 rfl ?_
    refine xe_getIv dX10_wrong_8 flX10_198 (st124 hs) (by decide) rfl (v := nI 0) (h13) ?_
    refine xn_if_gt (tgt := 45) dX10_wrong_11 rfl (by omega) (fun c1 => ?_) (fun c1 => ?_)
    · omega
    · refine xe_aload_n dX10_wrong_14 rfl ?_
      refine xe_getIv dX10_wrong_15 flX10_207 (st124 hs) (by decide) rfl (v := nI 0) (l15) ?_
      refine xn_if_eq (tgt := 46) dX10_wrong_18 rfl (by omega) (fun c2 => ?_) (fun c2 => ?_)
      · refine xe_aload_n dX10_wrong_46 rfl ?_
        refine xe_iload_n dX10_wrong_47 rfl ?_
        refine xe_putI dX10_wrong_48 flX10_207 (st124 hs) (by decide) rfl (Or.inl rfl) rfl rfl ?_
        refine xe_aload_n dX10_wrong_51 rfl ?_
        refine xe_iload_n dX10_wrong_52 rfl ?_
        refine xe_putI dX10_wrong_53 flX10_210 (st124 hs) (by decide) rfl (Or.inl rfl) rfl rfl ?_
        refine xe_return dX10_wrong_56 rfl ?_
        exact ⟨rfl, _, _, (q_heq [124] (H := h) (by repeat (first | exact q_out_r | refine q_out_w rfl ?_)) (by repeat (first | exact q_out_r | refine q_out_w rfl ?_)) (And.intro (q_feq [15, 16] (f := q_I h 124) (by repeat (first | exact q_fout_r | refine q_fout_w rfl ?_)) (by repeat (first | exact q_fout_r | refine q_fout_w rfl ?_)) (And.intro rfl (And.intro rfl trivial))) trivial)), rfl, hk1, hk5, rfl, Or.inr ⟨rfl, rfl⟩⟩
      · omega
  | some e =>
    obtain ⟨k0, u0⟩ := e
    obtain ⟨l15, l1, l5, l16, lu⟩ := hlf
    have hu0 : u0 ≤ m := by omega
    have zu := (hT.2.2 u0 hu0).2.1
    refine q_CtV mvX10_wrong (Nat.le_of_ble_eq_true rfl) ?_
    rcases lu with lu | ⟨rfl, rfl⟩
    · have hlt := hi u0 u lu hu
      refine xe_aload_n dX10_wrong_0 rfl ?_
      refine xe_getP dX10_wrong_1 flX10_24 (st124 hs) (by decide) rfl (sp124_6 hs) ?_
      refine xe_iload_n dX10_wrong_4 rfl ?_
      refine xn_ialdv dX10_wrong_5 (st128 hs) (by omega) (by decide) (v := nI (tk_P K u)) (z4) ?_
      refine xe_istore_n (i := 3) dX10_wrong_6 rfl (by decide) rfl ?_
      refine xe_aload_n dX10_wrong_7 rfl ?_
      refine xe_getIv dX10_wrong_8 flX10_198 (st124 hs) (by decide) rfl (v := nI 0) (h13) ?_
      refine xn_if_gt (tgt := 45) dX10_wrong_11 rfl (by omega) (fun c1 => ?_) (fun c1 => ?_)
      · omega
      · refine xe_aload_n dX10_wrong_14 rfl ?_
        refine xe_getIv dX10_wrong_15 flX10_207 (st124 hs) (by decide) rfl (v := nI k0) (l15) ?_
        refine xn_if_eq (tgt := 46) dX10_wrong_18 rfl (by omega) (fun c2 => ?_) (fun c2 => ?_)
        · omega
        · refine xe_iload_n dX10_wrong_21 rfl ?_
          refine xe_aload_n dX10_wrong_22 rfl ?_
          refine xe_getIv dX10_wrong_23 flX10_210 (st124 hs) (by decide) rfl (v := nI (tk_P K u0)) (l16) ?_
          refine xn_icmp_gt (tgt := 45) dX10_wrong_26 rfl (by omega) (by omega) (fun c3 => ?_) (fun c3 => ?_)
          · refine xe_return dX10_wrong_45 rfl ?_
            exact ⟨rfl, _, _, (by rw [q_upd_s rfl, q_upd_s rfl, q_wsI]), l15, l1, l5, l16, Or.inl lu⟩
          · omega
    · refine xe_aload_n dX10_wrong_0 rfl ?_
      refine xe_getP dX10_wrong_1 flX10_24 (st124 hs) (by decide) rfl (sp124_6 hs) ?_
      refine xe_iload_n dX10_wrong_4 rfl ?_
      refine xn_ialdv dX10_wrong_5 (st128 hs) (by omega) (by decide) (v := nI (tk_P K u0)) (z4) ?_
      refine xe_istore_n (i := 3) dX10_wrong_6 rfl (by decide) rfl ?_
      refine xe_aload_n dX10_wrong_7 rfl ?_
      refine xe_getIv dX10_wrong_8 flX10_198 (st124 hs) (by decide) rfl (v := nI 0) (h13) ?_
      refine xn_if_gt (tgt := 45) dX10_wrong_11 rfl (by omega) (fun c1 => ?_) (fun c1 => ?_)
      · omega
      · refine xe_aload_n dX10_wrong_14 rfl ?_
        refine xe_getIv dX10_wrong_15 flX10_207 (st124 hs) (by decide) rfl (v := nI k0) (l15) ?_
        refine xn_if_eq (tgt := 46) dX10_wrong_18 rfl (by omega) (fun c2 => ?_) (fun c2 => ?_)
        · omega
        · refine xe_iload_n dX10_wrong_21 rfl ?_
          refine xe_aload_n dX10_wrong_22 rfl ?_
          refine xe_getIv dX10_wrong_23 flX10_210 (st124 hs) (by decide) rfl (v := nI (tk_P K u0)) (l16) ?_
          refine xn_icmp_gt (tgt := 45) dX10_wrong_26 rfl (by omega) (by omega) (fun c3 => ?_) (fun c3 => ?_)
          · omega
          · refine xe_iload_n dX10_wrong_29 rfl ?_
            refine xe_aload_n dX10_wrong_30 rfl ?_
            refine xe_getIv dX10_wrong_31 flX10_210 (st124 hs) (by decide) rfl (v := nI (tk_P K u0)) (l16) ?_
            refine xn_icmp_ne (tgt := 46) dX10_wrong_34 rfl (by omega) (by omega) (fun c4 => ?_) (fun c4 => ?_)
            · omega
            · refine xe_iload_n dX10_wrong_37 rfl ?_
              refine xe_aload_n dX10_wrong_38 rfl ?_
              refine xe_getIv dX10_wrong_39 flX10_207 (st124 hs) (by decide) rfl (v := nI k0) (l15) ?_
              refine xn_icmp_lt (tgt := 46) dX10_wrong_42 rfl (by omega) (by omega) (fun c5 => ?_) (fun c5 => ?_)
              · omega
              · refine xe_return dX10_wrong_45 rfl ?_
                exact ⟨rfl, _, _, (by rw [q_upd_s rfl, q_upd_s rfl, q_wsI]), l15, l1, l5, l16, Or.inr ⟨rfl, rfl⟩⟩
/-- names as they were told: letters, sort (0: man, 1: deed), number -/
abbrev q_NM : Type := List (List Nat × Nat × Nat)
def nm_two : q_NM → Nat → Nat → List (List Nat) → List (List Nat) → Prop
  | [], _, _, m, d => m = [] ∧ d = []
  | (x, s, a) :: N, i, j, m, d => (s = 0 ∧ a = i ∧ ∃ m', m = x :: m' ∧ nm_two N (i + 1) j m' d) ∨ (s = 1 ∧ a = j ∧ ∃ d', d = x :: d' ∧ nm_two N i (j + 1) m d')
def nm_find (x : List Nat) (s : Nat) : q_NM → Option Nat
  | [] => none
  | (y, s', a) :: N => if y = x ∧ s' = s then some a else nm_find x s N
def nm_has (x : List Nat) : q_NM → Bool
  | [] => false
  | (y, _, _) :: N => decide (y = x) || nm_has x N
theorem nm_find0 {x : List Nat} : ∀ {N : q_NM} {i j : Nat} {m d : List (List Nat)}, nm_two N i j m d → nm_find x 0 N = tx_find x m i
  | [], i, j, m, d, h => by
    rw [h.1]
    rfl
  | (y, s, a) :: N, i, j, m, d, h => by
    rcases h with ⟨rfl, rfl, m', rfl, h⟩ | ⟨rfl, rfl, d', rfl, h⟩
    · unfold nm_find tx_find
      by_cases q : y = x
      · rw [if_pos ⟨q, rfl⟩, if_pos q]
      · rw [if_neg (fun z => q z.1), if_neg q]
        exact nm_find0 h
    · unfold nm_find
      rw [if_neg (fun z => absurd z.2 (by decide))]
      exact nm_find0 h
theorem nm_find1 {x : List Nat} : ∀ {N : q_NM} {i j : Nat} {m d : List (List Nat)}, nm_two N i j m d → nm_find x 1 N = tx_find x d j
  | [], i, j, m, d, h => by
    rw [h.2]
    rfl
  | (y, s, a) :: N, i, j, m, d, h => by
    rcases h with ⟨rfl, rfl, m', rfl, h⟩ | ⟨rfl, rfl, d', rfl, h⟩
    · unfold nm_find
      rw [if_neg (fun z => absurd z.2 (by decide))]
      exact nm_find1 h
    · unfold nm_find tx_find
      by_cases q : y = x
      · rw [if_pos ⟨q, rfl⟩, if_pos q]
      · rw [if_neg (fun z => q z.1), if_neg q]
        exact nm_find1 h
theorem tx_find_c {x y : List Nat} {r : List (List Nat)} {i : Nat} : tx_find x (y :: r) i = if y = x then some i else tx_find x r (i + 1) := rfl
theorem nm_has_c {x y : List Nat} {s a : Nat} {N : q_NM} : nm_has x ((y, s, a) :: N) = (decide (y = x) || nm_has x N) := rfl
theorem nm_hasE {x : List Nat} : ∀ {N : q_NM} {i j : Nat} {m d : List (List Nat)}, nm_two N i j m d → nm_has x N = ((tx_find x m i).isSome || (tx_find x d j).isSome)
  | [], i, j, m, d, h => by
    rw [h.1, h.2]
    rfl
  | (y, s, a) :: N, i, j, m, d, h => by
    rcases h with ⟨rfl, rfl, m', rfl, h⟩ | ⟨rfl, rfl, d', rfl, h⟩
    · rw [nm_has_c, tx_find_c]
      by_cases q : y = x
      · rw [if_pos q, decide_eq_true q]
        rfl
      · rw [if_neg q, decide_eq_false q, nm_hasE h]
        rfl
    · rw [nm_has_c, nm_hasE h, tx_find_c]
      by_cases q : y = x
      · rw [if_pos q, decide_eq_true q]
        simp
      · rw [if_neg q, decide_eq_false q]
        rfl
theorem nm_app0 {x : List Nat} : ∀ {N : q_NM} {i j : Nat} {m d : List (List Nat)}, nm_two N i j m d → nm_two (N ++ [(x, 0, i + m.length)]) i j (m ++ [x]) d
  | [], i, j, m, d, h => by
    obtain ⟨rfl, rfl⟩ := h
    exact Or.inl ⟨rfl, rfl, [], rfl, rfl, rfl⟩
  | (y, s, a) :: N, i, j, m, d, h => by
    rcases h with ⟨rfl, ha, m', rfl, h⟩ | ⟨rfl, ha, d', rfl, h⟩
    · refine Or.inl ⟨rfl, ha, m' ++ [x], rfl, ?_⟩
      have := nm_app0 (x := x) h
      rw [show i + 1 + m'.length = i + (y :: m').length by rw [List.length_cons]; omega] at this
      exact this
    · exact Or.inr ⟨rfl, ha, d', rfl, nm_app0 h⟩
theorem nm_app1 {x : List Nat} : ∀ {N : q_NM} {i j : Nat} {m d : List (List Nat)}, nm_two N i j m d → nm_two (N ++ [(x, 1, j + d.length)]) i j m (d ++ [x])
  | [], i, j, m, d, h => by
    obtain ⟨rfl, rfl⟩ := h
    exact Or.inr ⟨rfl, rfl, [], rfl, rfl, rfl⟩
  | (y, s, a) :: N, i, j, m, d, h => by
    rcases h with ⟨rfl, ha, m', rfl, h⟩ | ⟨rfl, ha, d', rfl, h⟩
    · exact Or.inl ⟨rfl, ha, m', rfl, nm_app1 h⟩
    · refine Or.inr ⟨rfl, ha, d' ++ [x], rfl, ?_⟩
      have := nm_app1 (x := x) h
      rw [show j + 1 + d'.length = j + (y :: d').length by rw [List.length_cons]; omega] at this
      exact this
theorem nm_len : ∀ {N : q_NM} {i j : Nat} {m d : List (List Nat)}, nm_two N i j m d → N.length = m.length + d.length
  | [], i, j, m, d, h => by
    rw [h.1, h.2]
    rfl
  | (y, s, a) :: N, i, j, m, d, h => by
    rcases h with ⟨rfl, rfl, m', rfl, h⟩ | ⟨rfl, rfl, d', rfl, h⟩
    · have := nm_len h
      show N.length + 1 = m'.length + 1 + d.length
      omega
    · have := nm_len h
      show N.length + 1 = m.length + (d'.length + 1)
      omega
def q_nd : List Nat × Nat × Nat := ([], 0, 0)
/-- the reference's names -/
def rn_N (h : q_H) (N : q_NM) : Prop := q_I h 124 20 = nI N.length ∧ N.length ≤ 16 ∧ ∀ i, i < N.length → q_J h 132 i = q_e27 (N.getD i q_nd).1 ∧ nm_ok (N.getD i q_nd).1 ∧ q_I h 133 i = nI (N.getD i q_nd).2.1 ∧ (N.getD i q_nd).2.1 < 2 ∧ q_I h 134 i = nI (N.getD i q_nd).2.2
theorem nm_find_st {x : List Nat} {s : Nat} {N : q_NM} {i : Nat} (h : i < N.length) : nm_find x s (N.drop i) = if (N.getD i q_nd).1 = x ∧ (N.getD i q_nd).2.1 = s then some (N.getD i q_nd).2.2 else nm_find x s (N.drop (i + 1)) := by
  rw [List.drop_eq_getElem_cons h, nm_find, List.getD_eq_getElem?_getD, List.getElem?_eq_getElem h, Option.getD_some]
theorem nm_has_st {x : List Nat} {N : q_NM} {i : Nat} (h : i < N.length) : nm_has x (N.drop i) = (decide ((N.getD i q_nd).1 = x) || nm_has x (N.drop (i + 1))) := by
  rw [List.drop_eq_getElem_cons h, nm_has, List.getD_eq_getElem?_getD, List.getElem?_eq_getElem h, Option.getD_some]
