/-! the reference: cold, all tells -/
def q_rco (K : q_TK) (m sd cc bb : Nat) (h0 h : q_H) (t : Nat) (c : List Nat) (e : Option (Nat × Nat)) : Prop := q_rs h K m sd t cc bb ∧ q_rt sd h0 h ∧ (∀ r, r ≠ 124 → r ≠ 140 → q_I h r = q_I h0 r) ∧ q_J h 132 = q_J h0 132 ∧ q_I h 124 20 = q_I h0 124 20 ∧ (∀ i, i < c.length → q_I h 140 (12 * sd + i) = nI (c.getD i 0)) ∧ q_lfr K t (q_I h 124 15) (q_I h 124 16) e
def q_rcoA (K : q_TK) (m sd cc bb : Nat) (h0 : q_H) (o : (Nat × Nat) ⊕ ((List Nat × Option (Nat × Nat)) × Nat)) (r : Option Value) (h : q_H) : Prop := match o with
  | .inl e => r = none ∧ q_rt sd h0 h ∧ q_I h 124 13 = nI e.1 ∧ q_I h 124 14 = nI (tk_P K e.2) ∧ 1 ≤ e.1 ∧ e.1 ≤ 5
  | .inr x => r = none ∧ q_rt sd h0 h ∧ q_rs h K m sd x.2 cc bb ∧ (∀ r, r ≠ 124 → r ≠ 139 → r ≠ 140 → q_I h r = q_I h0 r) ∧ q_J h 132 = q_J h0 132 ∧ q_I h 124 20 = q_I h0 124 20 ∧ q_I h 139 sd = nI x.1.1.length ∧ (∀ i, i < x.1.1.length → q_I h 140 (12 * sd + i) = nI (x.1.1.getD i 0)) ∧ q_lfr K x.2 (q_I h 124 15) (q_I h 124 16) x.1.2 ∧ x.1.1.length ≤ 12
theorem rco_loop (l : Launch) (g : q_GP) {K : q_TK} {m sd cc bb : Nat} {h0 : q_H} (hinc : q_inc K m) : ∀ (k : Nat) (c : List Nat) (e : Option (Nat × Nat)) (t : Nat) (h : q_H), c.length + k = 12 → q_rco K m sd cc bb h0 h t c e → q_Ex l g 4 mX10_tellCold 2 [(0, .ref 124), (1, .int (nI c.length))] [] h (q_rcoA K m sd cc bb h0 (tx_co K k c e t)) := by
  intro k
  induction k with
  | zero =>
    intro c e t h hck ha
    obtain ⟨a, hrt, hro, hJ, h20, hC, vE⟩ := ha
    obtain ⟨hs, hR, h12, h19, hsd, h33, h39, hc1, hc2, hb1, hb2⟩ := id a
    obtain ⟨hT, htm, h11, h13⟩ := id hR
    have hm4 := hT.1
    rw [tx_co]
    by_cases h2 : tk_T K t = 2
    · rw [if_pos h2]
      refine xe_aload_n dX10_tellCold_2 rfl ?_
      refine xe_getIv dX10_tellCold_3 flX10_198 (st124 hs) (by decide) rfl (v := nI 0) (h13) ?_
      refine xn_if_ne (tgt := 64) dX10_tellCold_6 rfl (by omega) (fun c1 => ?_) (fun c1 => ?_)
      · omega
      · refine xe_aload_n dX10_tellCold_9 rfl ?_
        refine xe_iconst dX10_tellCold_10 kc_2 ?_
        refine xe_callVI (d' := 0) (y' := mX10_is) dX10_tellCold_11 mlX10_216 mvX10_is rfl (st124 hs) (by decide) rfl (by decide) (by decide) (Nat.le_of_ble_eq_true rfl) (c_X10_is_1 l g _ (by exact hs) hR h2) rfl ?_
        refine xn_if_eq (tgt := 64) dX10_tellCold_14 rfl (by omega) (fun c2 => ?_) (fun c2 => ?_)
        · omega
        · refine xe_iload_n dX10_tellCold_17 rfl ?_
          refine xe_bipush dX10_tellCold_18 kb_12 ?_
          refine xn_icmp_ne (tgt := 28) dX10_tellCold_20 rfl (by omega) (by omega) (fun c3 => ?_) (fun c3 => ?_)
          · omega
          · refine xe_aload_n dX10_tellCold_23 rfl ?_
            refine xe_iconst dX10_tellCold_24 kc_2 ?_
            refine xe_callVV (d' := 0) (y' := mX10_fail) dX10_tellCold_25 mlX10_213 mvX10_fail rfl (st124 hs) (by decide) rfl (by decide) (by decide) (Nat.le_of_ble_eq_true rfl) (c_X10_fail_0 l g _ (by exact hs) hR _) rfl ?_
            refine xe_aload_n dX10_tellCold_28 rfl ?_
            refine xe_getIv dX10_tellCold_29 flX10_198 (st124 hs) (by decide) rfl (v := nI 2) (rfl) ?_
            refine xn_if_le (tgt := 36) dX10_tellCold_32 rfl (by omega) (fun c4 => ?_) (fun c4 => ?_)
            · omega
            · refine xe_return dX10_tellCold_35 rfl ?_
              exact ⟨rfl, (by repeat (first | exact hrt | refine rt_J ?_ | refine rt_w ?_ (by first | exact os_135 (by decide) | exact os_133 (by decide) | exact os_136 (by decide) (by omega) | exact os_140 (by omega)) | refine rt_f ?_ (fun k hk => by obtain ⟨y1, y2, y3, y4, y5, y6, y7, y8, y9, y10⟩ := os_124 hk; repeat (first | exact rfl | refine (pk_un (by assumption)).trans ?_)))), rfl, rfl, (show 1 ≤ 2 by decide), (show 2 ≤ 5 by decide)⟩
    · skip
      rw [if_neg h2]
      cases k1 : tx_ck (tk_T K) 4 t with
      | some er =>
        have he := ck_15 k1
        refine xe_aload_n dX10_tellCold_2 rfl ?_
        refine xe_getIv dX10_tellCold_3 flX10_198 (st124 hs) (by decide) rfl (v := nI 0) (h13) ?_
        refine xn_if_ne (tgt := 64) dX10_tellCold_6 rfl (by omega) (fun c1 => ?_) (fun c1 => ?_)
        · omega
        · refine xe_aload_n dX10_tellCold_9 rfl ?_
          refine xe_iconst dX10_tellCold_10 kc_2 ?_
          refine xe_callVI (d' := 0) (y' := mX10_is) dX10_tellCold_11 mlX10_216 mvX10_is rfl (st124 hs) (by decide) rfl (by decide) (by decide) (Nat.le_of_ble_eq_true rfl) (c_X10_is_0 l g _ (by exact hs) hR (by decide) h2) rfl ?_
          refine xn_if_eq (tgt := 64) dX10_tellCold_14 rfl (by omega) (fun c2 => ?_) (fun c2 => ?_)
          · refine xe_aload_n dX10_tellCold_64 rfl ?_
            refine xe_iconst dX10_tellCold_65 kc_4 ?_
            refine xe_callVV (d' := 2) (y' := mX10_must) dX10_tellCold_66 mlX10_275 mvX10_must rfl (st124 hs) (by decide) rfl (by decide) (by decide) (Nat.le_of_ble_eq_true rfl) (c_X10_must_f l g _ (by exact hs) (t := t) (by refine ⟨rt_Tc hT ?_ ?_ ?_ ?_, (by omega), ?_, ?_⟩ <;> first | exact rfl | exact h11 | exact h13) (k := 4) (by decide) (f := er.1) (u := er.2) k1) rfl ?_
            refine xe_aload_n dX10_tellCold_69 rfl ?_
            refine xe_getP dX10_tellCold_70 flX10_61 (st124 hs) (by decide) rfl (sp124_28 hs) ?_
            refine xe_aload_n dX10_tellCold_73 rfl ?_
            refine xe_getIv dX10_tellCold_74 flX10_231 (st124 hs) (by decide) rfl (v := nI sd) (h19) ?_
            refine xe_iload_n dX10_tellCold_77 rfl ?_
            refine xn_iast dX10_tellCold_78 (st139 hs) (by omega) (by decide) ?_
            refine xe_return dX10_tellCold_79 rfl ?_
            exact ⟨rfl, (by repeat (first | exact hrt | refine rt_J ?_ | refine rt_w ?_ (by first | exact os_135 (by decide) | exact os_133 (by decide) | exact os_136 (by decide) (by omega) | exact os_140 (by omega)) | refine rt_f ?_ (fun k hk => by obtain ⟨y1, y2, y3, y4, y5, y6, y7, y8, y9, y10⟩ := os_124 hk; repeat (first | exact rfl | refine (pk_un (by assumption)).trans ?_)))), rfl, rfl, he.1, he.2⟩
          · omega
      | none =>
        have go1 := rt_gn hT htm k1 (by decide)
        refine xe_aload_n dX10_tellCold_2 rfl ?_
        refine xe_getIv dX10_tellCold_3 flX10_198 (st124 hs) (by decide) rfl (v := nI 0) (h13) ?_
        refine xn_if_ne (tgt := 64) dX10_tellCold_6 rfl (by omega) (fun c1 => ?_) (fun c1 => ?_)
        · omega
        · refine xe_aload_n dX10_tellCold_9 rfl ?_
          refine xe_iconst dX10_tellCold_10 kc_2 ?_
          refine xe_callVI (d' := 0) (y' := mX10_is) dX10_tellCold_11 mlX10_216 mvX10_is rfl (st124 hs) (by decide) rfl (by decide) (by decide) (Nat.le_of_ble_eq_true rfl) (c_X10_is_0 l g _ (by exact hs) hR (by decide) h2) rfl ?_
          refine xn_if_eq (tgt := 64) dX10_tellCold_14 rfl (by omega) (fun c2 => ?_) (fun c2 => ?_)
          · refine xe_aload_n dX10_tellCold_64 rfl ?_
            refine xe_iconst dX10_tellCold_65 kc_4 ?_
            refine xe_callVV (d' := 2) (y' := mX10_must) dX10_tellCold_66 mlX10_275 mvX10_must rfl (st124 hs) (by decide) rfl (by decide) (by decide) (Nat.le_of_ble_eq_true rfl) (c_X10_must_t l g _ (by exact hs) (t := t) (by refine ⟨rt_Tc hT ?_ ?_ ?_ ?_, (by omega), ?_, ?_⟩ <;> first | exact rfl | exact h11 | exact h13) (k := 4) k1) rfl ?_
            refine xe_aload_n dX10_tellCold_69 rfl ?_
            refine xe_getP dX10_tellCold_70 flX10_61 (st124 hs) (by decide) rfl (sp124_28 hs) ?_
            refine xe_aload_n dX10_tellCold_73 rfl ?_
            refine xe_getIv dX10_tellCold_74 flX10_231 (st124 hs) (by decide) rfl (v := nI sd) (h19) ?_
            refine xe_iload_n dX10_tellCold_77 rfl ?_
            refine xn_iast dX10_tellCold_78 (st139 hs) (by omega) (by decide) ?_
            refine xe_return dX10_tellCold_79 rfl ?_
            exact ⟨rfl, (by repeat (first | exact hrt | refine rt_J ?_ | refine rt_w ?_ (by first | exact os_135 (by decide) | exact os_133 (by decide) | exact os_136 (by decide) (by omega) | exact os_140 (by omega)) | refine rt_f ?_ (fun k hk => by obtain ⟨y1, y2, y3, y4, y5, y6, y7, y8, y9, y10⟩ := os_124 hk; repeat (first | exact rfl | refine (pk_un (by assumption)).trans ?_)))), rs_k a rfl rfl rfl rfl rfl rfl rfl rfl rfl rfl rfl (Nat.le_succ _) go1, (by intro r a1 a2 a3; exact (q_Ine a2).trans ((q_Ine a1).trans (hro r a1 a3))), hJ, h20, pk_us, hC, lfr_up vE (Nat.le_succ _), (by show c.length ≤ 12; omega)⟩
          · omega
  | succ k ih =>
    intro c e t h hck ha
    obtain ⟨a, hrt, hro, hJ, h20, hC, vE⟩ := ha
    obtain ⟨hs, hR, h12, h19, hsd, h33, h39, hc1, hc2, hb1, hb2⟩ := id a
    obtain ⟨hT, htm, h11, h13⟩ := id hR
    have hm4 := hT.1
    rw [tx_co]
    by_cases h2 : tk_T K t = 2
    · rw [if_pos h2]
      cases k1 : tx_ck (tk_T K) 2 t with
      | some er =>
        have he := ck_15 k1
        refine xe_aload_n dX10_tellCold_2 rfl ?_
        refine xe_getIv dX10_tellCold_3 flX10_198 (st124 hs) (by decide) rfl (v := nI 0) (h13) ?_
        refine xn_if_ne (tgt := 64) dX10_tellCold_6 rfl (by omega) (fun c1 => ?_) (fun c1 => ?_)
        · omega
        · refine xe_aload_n dX10_tellCold_9 rfl ?_
          refine xe_iconst dX10_tellCold_10 kc_2 ?_
          refine xe_callVI (d' := 0) (y' := mX10_is) dX10_tellCold_11 mlX10_216 mvX10_is rfl (st124 hs) (by decide) rfl (by decide) (by decide) (Nat.le_of_ble_eq_true rfl) (c_X10_is_1 l g _ (by exact hs) hR h2) rfl ?_
          refine xn_if_eq (tgt := 64) dX10_tellCold_14 rfl (by omega) (fun c2 => ?_) (fun c2 => ?_)
          · omega
          · refine xe_iload_n dX10_tellCold_17 rfl ?_
            refine xe_bipush dX10_tellCold_18 kb_12 ?_
            refine xn_icmp_ne (tgt := 28) dX10_tellCold_20 rfl (by omega) (by omega) (fun c3 => ?_) (fun c3 => ?_)
            · refine xe_aload_n dX10_tellCold_28 rfl ?_
              refine xe_getIv dX10_tellCold_29 flX10_198 (st124 hs) (by decide) rfl (v := nI 0) (h13) ?_
              refine xn_if_le (tgt := 36) dX10_tellCold_32 rfl (by omega) (fun c4 => ?_) (fun c4 => ?_)
              · refine xe_aload_n dX10_tellCold_36 rfl ?_
                refine xe_getP dX10_tellCold_37 flX10_64 (st124 hs) (by decide) rfl (sp124_29 hs) ?_
                refine xe_bipush dX10_tellCold_40 kb_12 ?_
                refine xe_aload_n dX10_tellCold_42 rfl ?_
                refine xe_getIv dX10_tellCold_43 flX10_231 (st124 hs) (by decide) rfl (v := nI sd) (h19) ?_
                refine xn_imul dX10_tellCold_46 ?_
                refine xe_iload_n dX10_tellCold_47 rfl ?_
                refine xn_iadd dX10_tellCold_48 ?_
                refine xe_aload_n dX10_tellCold_49 rfl ?_
                refine xe_iconst dX10_tellCold_50 kc_0 ?_
                refine xe_sipush dX10_tellCold_51 ks_999 ?_
                refine xe_callVIn (d' := 2) (y' := mX10_bounded) dX10_tellCold_54 mlX10_271 mvX10_bounded rfl (st124 hs) (by decide) rfl (by decide) (by decide) (Nat.le_of_ble_eq_true rfl) (c_X10_bounded_f l g _ (by exact hs) (t := t) (by refine ⟨rt_Tc hT ?_ ?_ ?_ ?_, (by omega), ?_, ?_⟩ <;> first | exact rfl | exact h11 | exact h13) hinc (by exact vE) (lo := 0) (hi_ := 999) (by decide) (by decide) k1) rfl (fun v5 h5 hq5 => ?_)
                obtain ⟨a5, b5, rfl⟩ := hq5
                refine xn_iast dX10_tellCold_57 (st140 hs) (by omega) (by decide) ?_
                refine xn_iinc dX10_tellCold_58 rfl kc_1 ?_
                refine xe_goto (tgt := 2) dX10_tellCold_61 rfl ?_
                refine xe_aload_n dX10_tellCold_2 rfl ?_
                refine xe_getIv dX10_tellCold_3 flX10_198 (st124 hs) (by decide) rfl (v := nI er.1) (rfl) ?_
                refine xn_if_ne (tgt := 64) dX10_tellCold_6 rfl (by omega) (fun c6 => ?_) (fun c6 => ?_)
                · refine xe_aload_n dX10_tellCold_64 rfl ?_
                  refine xe_iconst dX10_tellCold_65 kc_4 ?_
                  refine xe_callVV (d' := 2) (y' := mX10_must) dX10_tellCold_66 mlX10_275 mvX10_must rfl (st124 hs) (by decide) rfl (by decide) (by decide) (Nat.le_of_ble_eq_true rfl) (c_X10_must_b l g _ (by exact hs) (f := er.1) (by exact rfl) (by omega) (by omega) _) rfl ?_
                  refine xe_aload_n dX10_tellCold_69 rfl ?_
                  refine xe_getP dX10_tellCold_70 flX10_61 (st124 hs) (by decide) rfl (sp124_28 hs) ?_
                  refine xe_aload_n dX10_tellCold_73 rfl ?_
                  refine xe_getIv dX10_tellCold_74 flX10_231 (st124 hs) (by decide) rfl (v := nI sd) (h19) ?_
                  refine xe_iload_n dX10_tellCold_77 rfl ?_
                  refine xn_iast dX10_tellCold_78 (st139 hs) (by omega) (by decide) ?_
                  refine xe_return dX10_tellCold_79 rfl ?_
                  exact ⟨rfl, (by repeat (first | exact hrt | refine rt_J ?_ | refine rt_w ?_ (by first | exact os_135 (by decide) | exact os_133 (by decide) | exact os_136 (by decide) (by omega) | exact os_140 (by omega)) | refine rt_f ?_ (fun k hk => by obtain ⟨y1, y2, y3, y4, y5, y6, y7, y8, y9, y10⟩ := os_124 hk; repeat (first | exact rfl | refine (pk_un (by assumption)).trans ?_)))), rfl, rfl, he.1, he.2⟩
                · omega
              · omega
            · omega
      | none =>
        have go1 := rt_gn hT htm k1 (by decide)
        have hv := (hT.2.2 t htm).2.2.2.2.2 h2
        refine xe_aload_n dX10_tellCold_2 rfl ?_
        refine xe_getIv dX10_tellCold_3 flX10_198 (st124 hs) (by decide) rfl (v := nI 0) (h13) ?_
        refine xn_if_ne (tgt := 64) dX10_tellCold_6 rfl (by omega) (fun c1 => ?_) (fun c1 => ?_)
        · omega
        · refine xe_aload_n dX10_tellCold_9 rfl ?_
          refine xe_iconst dX10_tellCold_10 kc_2 ?_
          refine xe_callVI (d' := 0) (y' := mX10_is) dX10_tellCold_11 mlX10_216 mvX10_is rfl (st124 hs) (by decide) rfl (by decide) (by decide) (Nat.le_of_ble_eq_true rfl) (c_X10_is_1 l g _ (by exact hs) hR h2) rfl ?_
          refine xn_if_eq (tgt := 64) dX10_tellCold_14 rfl (by omega) (fun c2 => ?_) (fun c2 => ?_)
          · omega
          · refine xe_iload_n dX10_tellCold_17 rfl ?_
            refine xe_bipush dX10_tellCold_18 kb_12 ?_
            refine xn_icmp_ne (tgt := 28) dX10_tellCold_20 rfl (by omega) (by omega) (fun c3 => ?_) (fun c3 => ?_)
            · refine xe_aload_n dX10_tellCold_28 rfl ?_
              refine xe_getIv dX10_tellCold_29 flX10_198 (st124 hs) (by decide) rfl (v := nI 0) (h13) ?_
              refine xn_if_le (tgt := 36) dX10_tellCold_32 rfl (by omega) (fun c4 => ?_) (fun c4 => ?_)
              · refine xe_aload_n dX10_tellCold_36 rfl ?_
                refine xe_getP dX10_tellCold_37 flX10_64 (st124 hs) (by decide) rfl (sp124_29 hs) ?_
                refine xe_bipush dX10_tellCold_40 kb_12 ?_
                refine xe_aload_n dX10_tellCold_42 rfl ?_
                refine xe_getIv dX10_tellCold_43 flX10_231 (st124 hs) (by decide) rfl (v := nI sd) (h19) ?_
                refine xn_imul dX10_tellCold_46 ?_
                refine xe_iload_n dX10_tellCold_47 rfl ?_
                refine xn_iadd dX10_tellCold_48 ?_
                refine xe_aload_n dX10_tellCold_49 rfl ?_
                refine xe_iconst dX10_tellCold_50 kc_0 ?_
                refine xe_sipush dX10_tellCold_51 ks_999 ?_
                refine xe_callVIq (d' := 2) (y' := mX10_bounded) dX10_tellCold_54 mlX10_271 mvX10_bounded rfl (st124 hs) (by decide) rfl (by decide) (by decide) (Nat.le_of_ble_eq_true rfl) (c_X10_bounded_t l g _ (by exact hs) (t := t) (by refine ⟨rt_Tc hT ?_ ?_ ?_ ?_, (by omega), ?_, ?_⟩ <;> first | exact rfl | exact h11 | exact h13) hinc (by exact vE) (lo := 0) (hi_ := 999) (by decide) (by decide) k1) rfl (fun h5 hq5 => ?_)
                obtain ⟨a5, b5, rfl, hl5⟩ := hq5
                refine xn_iast dX10_tellCold_57 (st140 hs) (by omega) (by decide) ?_
                refine xn_iinc dX10_tellCold_58 rfl kc_1 ?_
                refine xe_goto (tgt := 2) dX10_tellCold_61 rfl ?_
                rw [show decide (tk_V K t < 0 ∨ 999 < tk_V K t) = decide (999 < tk_V K t) from decide_eq_decide.mpr ⟨fun q => q.elim (fun z => absurd z (Nat.not_lt_zero _)) id, Or.inr⟩] at hl5
                have el : (c ++ [tk_V K t]).length = c.length + 1 := List.length_append
                refine xe_locals (L' := [(0, .ref 124), (1, .int (nI (c.length + 1)))]) (And.intro rfl (And.intro rfl trivial)) ?_
                rw [← el]
                exact ih (c ++ [tk_V K t]) _ (t + 1) _ (by rw [el]; omega) ⟨rs_k a rfl rfl rfl rfl rfl rfl rfl rfl rfl rfl rfl (Nat.le_succ _) go1, (by repeat (first | exact hrt | refine rt_J ?_ | refine rt_w ?_ (by first | exact os_135 (by decide) | exact os_133 (by decide) | exact os_136 (by decide) (by omega) | exact os_140 (by omega)) | refine rt_f ?_ (fun k hk => by obtain ⟨y1, y2, y3, y4, y5, y6, y7, y8, y9, y10⟩ := os_124 hk; repeat (first | exact rfl | refine (pk_un (by assumption)).trans ?_)))), (by intro r a1 a2; exact (q_Ine a2).trans ((q_Ine a1).trans (hro r a1 a2))), hJ, h20, q_row_app2 hC rfl, hl5⟩
              · omega
            · omega
    · skip
      rw [if_neg h2]
      cases k1 : tx_ck (tk_T K) 4 t with
      | some er =>
        have he := ck_15 k1
        refine xe_aload_n dX10_tellCold_2 rfl ?_
        refine xe_getIv dX10_tellCold_3 flX10_198 (st124 hs) (by decide) rfl (v := nI 0) (h13) ?_
        refine xn_if_ne (tgt := 64) dX10_tellCold_6 rfl (by omega) (fun c1 => ?_) (fun c1 => ?_)
        · omega
        · refine xe_aload_n dX10_tellCold_9 rfl ?_
          refine xe_iconst dX10_tellCold_10 kc_2 ?_
          refine xe_callVI (d' := 0) (y' := mX10_is) dX10_tellCold_11 mlX10_216 mvX10_is rfl (st124 hs) (by decide) rfl (by decide) (by decide) (Nat.le_of_ble_eq_true rfl) (c_X10_is_0 l g _ (by exact hs) hR (by decide) h2) rfl ?_
          refine xn_if_eq (tgt := 64) dX10_tellCold_14 rfl (by omega) (fun c2 => ?_) (fun c2 => ?_)
          · refine xe_aload_n dX10_tellCold_64 rfl ?_
            refine xe_iconst dX10_tellCold_65 kc_4 ?_
            refine xe_callVV (d' := 2) (y' := mX10_must) dX10_tellCold_66 mlX10_275 mvX10_must rfl (st124 hs) (by decide) rfl (by decide) (by decide) (Nat.le_of_ble_eq_true rfl) (c_X10_must_f l g _ (by exact hs) (t := t) (by refine ⟨rt_Tc hT ?_ ?_ ?_ ?_, (by omega), ?_, ?_⟩ <;> first | exact rfl | exact h11 | exact h13) (k := 4) (by decide) (f := er.1) (u := er.2) k1) rfl ?_
            refine xe_aload_n dX10_tellCold_69 rfl ?_
            refine xe_getP dX10_tellCold_70 flX10_61 (st124 hs) (by decide) rfl (sp124_28 hs) ?_
            refine xe_aload_n dX10_tellCold_73 rfl ?_
            refine xe_getIv dX10_tellCold_74 flX10_231 (st124 hs) (by decide) rfl (v := nI sd) (h19) ?_
            refine xe_iload_n dX10_tellCold_77 rfl ?_
            refine xn_iast dX10_tellCold_78 (st139 hs) (by omega) (by decide) ?_
            refine xe_return dX10_tellCold_79 rfl ?_
            exact ⟨rfl, (by repeat (first | exact hrt | refine rt_J ?_ | refine rt_w ?_ (by first | exact os_135 (by decide) | exact os_133 (by decide) | exact os_136 (by decide) (by omega) | exact os_140 (by omega)) | refine rt_f ?_ (fun k hk => by obtain ⟨y1, y2, y3, y4, y5, y6, y7, y8, y9, y10⟩ := os_124 hk; repeat (first | exact rfl | refine (pk_un (by assumption)).trans ?_)))), rfl, rfl, he.1, he.2⟩
          · omega
      | none =>
        have go1 := rt_gn hT htm k1 (by decide)
        refine xe_aload_n dX10_tellCold_2 rfl ?_
        refine xe_getIv dX10_tellCold_3 flX10_198 (st124 hs) (by decide) rfl (v := nI 0) (h13) ?_
        refine xn_if_ne (tgt := 64) dX10_tellCold_6 rfl (by omega) (fun c1 => ?_) (fun c1 => ?_)
        · omega
        · refine xe_aload_n dX10_tellCold_9 rfl ?_
          refine xe_iconst dX10_tellCold_10 kc_2 ?_
          refine xe_callVI (d' := 0) (y' := mX10_is) dX10_tellCold_11 mlX10_216 mvX10_is rfl (st124 hs) (by decide) rfl (by decide) (by decide) (Nat.le_of_ble_eq_true rfl) (c_X10_is_0 l g _ (by exact hs) hR (by decide) h2) rfl ?_
          refine xn_if_eq (tgt := 64) dX10_tellCold_14 rfl (by omega) (fun c2 => ?_) (fun c2 => ?_)
          · refine xe_aload_n dX10_tellCold_64 rfl ?_
            refine xe_iconst dX10_tellCold_65 kc_4 ?_
            refine xe_callVV (d' := 2) (y' := mX10_must) dX10_tellCold_66 mlX10_275 mvX10_must rfl (st124 hs) (by decide) rfl (by decide) (by decide) (Nat.le_of_ble_eq_true rfl) (c_X10_must_t l g _ (by exact hs) (t := t) (by refine ⟨rt_Tc hT ?_ ?_ ?_ ?_, (by omega), ?_, ?_⟩ <;> first | exact rfl | exact h11 | exact h13) (k := 4) k1) rfl ?_
            refine xe_aload_n dX10_tellCold_69 rfl ?_
            refine xe_getP dX10_tellCold_70 flX10_61 (st124 hs) (by decide) rfl (sp124_28 hs) ?_
            refine xe_aload_n dX10_tellCold_73 rfl ?_
            refine xe_getIv dX10_tellCold_74 flX10_231 (st124 hs) (by decide) rfl (v := nI sd) (h19) ?_
            refine xe_iload_n dX10_tellCold_77 rfl ?_
            refine xn_iast dX10_tellCold_78 (st139 hs) (by omega) (by decide) ?_
            refine xe_return dX10_tellCold_79 rfl ?_
            exact ⟨rfl, (by repeat (first | exact hrt | refine rt_J ?_ | refine rt_w ?_ (by first | exact os_135 (by decide) | exact os_133 (by decide) | exact os_136 (by decide) (by omega) | exact os_140 (by omega)) | refine rt_f ?_ (fun k hk => by obtain ⟨y1, y2, y3, y4, y5, y6, y7, y8, y9, y10⟩ := os_124 hk; repeat (first | exact rfl | refine (pk_un (by assumption)).trans ?_)))), rs_k a rfl rfl rfl rfl rfl rfl rfl rfl rfl rfl rfl (Nat.le_succ _) go1, (by intro r a1 a2 a3; exact (q_Ine a2).trans ((q_Ine a1).trans (hro r a1 a3))), hJ, h20, pk_us, hC, lfr_up vE (Nat.le_succ _), (by show c.length ≤ 12; omega)⟩
          · omega
theorem r_tellCold (l : Launch) (g : q_GP) {K : q_TK} {m sd cc bb t : Nat} {h : q_H} (hinc : q_inc K m) {e : Option (Nat × Nat)} (a : q_rs h K m sd t cc bb) (vE : q_lfr K t (q_I h 124 15) (q_I h 124 16) e) : q_Ct l g 4 mX10_tellCold [.ref 124] h (q_rcoA K m sd cc bb h (tx_co K 12 [] e t)) := by
  refine q_CtV mvX10_tellCold (Nat.le_of_ble_eq_true rfl) ?_
  refine xe_iconst dX10_tellCold_0 kc_0 ?_
  refine xe_istore_n (i := 1) dX10_tellCold_1 rfl (by decide) rfl ?_
  refine xe_locals (L' := [(0, .ref 124), (1, .int (nI 0))]) (And.intro rfl (And.intro rfl trivial)) ?_
  exact rco_loop l g hinc 12 [] e t h rfl ⟨a, rt_r, fun _ _ _ => rfl, rfl, rfl, fun i q => absurd q (Nat.not_lt_zero _), vE⟩
theorem c_X10_roomFor_t (l : Launch) (g : q_GP) (h : q_H) (hs : q_Stat h) {K : q_TK} {m t : Nat} (hR : rt_R h K m t) {k : Nat} (hk : k < 8) (ht4 : t < 400) : q_Cd l g 2 mX10_roomFor [.ref 124, .int (nI k), .int (nI 8)] h none (q_wI h 124 (upd (q_I h 124) 11 (nI (t + 1)))) := by
  obtain ⟨hT, ht, h11, h13⟩ := id hR
  obtain ⟨hm4, hme, hti⟩ := id hT
  obtain ⟨z1, z2, z3, z4, z5, z6⟩ := hti t ht
  refine q_CdV mvX10_roomFor (Nat.le_of_ble_eq_true rfl) ?_
  refine xe_iload_n dX10_roomFor_0 rfl ?_
  refine xe_iload_n dX10_roomFor_1 rfl ?_
  refine xn_icmp_ne (tgt := 10) dX10_roomFor_2 rfl (by omega) (by omega) (fun c1 => ?_) (fun c1 => ?_)
  · refine xe_aload_n dX10_roomFor_10 rfl ?_
    refine xe_getIv dX10_roomFor_11 flX10_198 (st124 hs) (by decide) rfl (v := nI 0) (h13) ?_
    refine xn_if_ne (tgt := 21) dX10_roomFor_14 rfl (by omega) (fun c2 => ?_) (fun c2 => ?_)
    · omega
    · refine xe_aload_n dX10_roomFor_17 rfl ?_
      refine xe_callVV (d' := 1) (y' := mX10_goesOn) dX10_roomFor_18 mlX10_219 mvX10_goesOn rfl (st124 hs) (by decide) rfl (by decide) (by decide) (Nat.le_of_ble_eq_true rfl) (c_X10_goesOn_t l g _ (by exact hs) h11 ht4) rfl ?_
      refine xe_return dX10_roomFor_21 rfl ?_
      exact ⟨rfl, (q_heq [124] (H := h) (by repeat (first | exact q_out_r | refine q_out_w rfl ?_)) (by repeat (first | exact q_out_r | refine q_out_w rfl ?_)) (And.intro (q_feq [11] (f := q_I h 124) (by repeat (first | exact q_fout_r | refine q_fout_w rfl ?_)) (by repeat (first | exact q_fout_r | refine q_fout_w rfl ?_)) (And.intro rfl trivial)) trivial))⟩
  · omega
theorem c_X10_roomFor_f (l : Launch) (g : q_GP) (h : q_H) (hs : q_Stat h) {K : q_TK} {m t : Nat} (hR : rt_R h K m t) {k : Nat} (hk : k < 8) (ht4 : 400 ≤ t) : q_Cd l g 2 mX10_roomFor [.ref 124, .int (nI k), .int (nI 8)] h none (q_wI h 124 (upd (upd (q_I h 124) 13 (nI 2)) 14 (nI (tk_P K t)))) := by
  obtain ⟨hT, ht, h11, h13⟩ := id hR
  obtain ⟨hm4, hme, hti⟩ := id hT
  obtain ⟨z1, z2, z3, z4, z5, z6⟩ := hti t ht
  refine q_CdV mvX10_roomFor (Nat.le_of_ble_eq_true rfl) ?_
  refine xe_iload_n dX10_roomFor_0 rfl ?_
  refine xe_iload_n dX10_roomFor_1 rfl ?_
  refine xn_icmp_ne (tgt := 10) dX10_roomFor_2 rfl (by omega) (by omega) (fun c1 => ?_) (fun c1 => ?_)
  · refine xe_aload_n dX10_roomFor_10 rfl ?_
    refine xe_getIv dX10_roomFor_11 flX10_198 (st124 hs) (by decide) rfl (v := nI 0) (h13) ?_
    refine xn_if_ne (tgt := 21) dX10_roomFor_14 rfl (by omega) (fun c2 => ?_) (fun c2 => ?_)
    · omega
    · refine xe_aload_n dX10_roomFor_17 rfl ?_
      refine xe_callVV (d' := 1) (y' := mX10_goesOn) dX10_roomFor_18 mlX10_219 mvX10_goesOn rfl (st124 hs) (by decide) rfl (by decide) (by decide) (Nat.le_of_ble_eq_true rfl) (c_X10_goesOn_f l g _ (by exact hs) hR ht4) rfl ?_
      refine xe_return dX10_roomFor_21 rfl ?_
      exact ⟨rfl, (q_heq [124] (H := h) (by repeat (first | exact q_out_r | refine q_out_w rfl ?_)) (by repeat (first | exact q_out_r | refine q_out_w rfl ?_)) (And.intro (q_feq [13, 14] (f := q_I h 124) (by repeat (first | exact q_fout_r | refine q_fout_w rfl ?_)) (by repeat (first | exact q_fout_r | refine q_fout_w rfl ?_)) (And.intro rfl (And.intro rfl trivial))) trivial))⟩
  · omega
theorem c_X10_roomFor_8 (l : Launch) (g : q_GP) (h : q_H) (hs : q_Stat h) {K : q_TK} {m t : Nat} (hR : rt_R h K m t) : q_Cd l g 2 mX10_roomFor [.ref 124, .int (nI 8), .int (nI 8)] h none (q_wI h 124 (upd (upd (q_I h 124) 13 (nI 2)) 14 (nI (tk_P K t)))) := by
  obtain ⟨hT, ht, h11, h13⟩ := id hR
  obtain ⟨hm4, hme, hti⟩ := id hT
  obtain ⟨z1, z2, z3, z4, z5, z6⟩ := hti t ht
  refine q_CdV mvX10_roomFor (Nat.le_of_ble_eq_true rfl) ?_
  refine xe_iload_n dX10_roomFor_0 rfl ?_
  refine xe_iload_n dX10_roomFor_1 rfl ?_
  refine xn_icmp_ne (tgt := 10) dX10_roomFor_2 rfl (by omega) (by omega) (fun c1 => ?_) (fun c1 => ?_)
  · omega
  · refine xe_aload_n dX10_roomFor_5 rfl ?_
    refine xe_iconst dX10_roomFor_6 kc_2 ?_
    refine xe_callVV (d' := 0) (y' := mX10_fail) dX10_roomFor_7 mlX10_213 mvX10_fail rfl (st124 hs) (by decide) rfl (by decide) (by decide) (Nat.le_of_ble_eq_true rfl) (c_X10_fail_0 l g _ (by exact hs) hR _) rfl ?_
    refine xe_aload_n dX10_roomFor_10 rfl ?_
    refine xe_getIv dX10_roomFor_11 flX10_198 (st124 hs) (by decide) rfl (v := nI 2) (rfl) ?_
    refine xn_if_ne (tgt := 21) dX10_roomFor_14 rfl (by omega) (fun c2 => ?_) (fun c2 => ?_)
    · refine xe_return dX10_roomFor_21 rfl ?_
      exact ⟨rfl, (q_heq [124] (H := h) (by repeat (first | exact q_out_r | refine q_out_w rfl ?_)) (by repeat (first | exact q_out_r | refine q_out_w rfl ?_)) (And.intro (q_feq [13, 14] (f := q_I h 124) (by repeat (first | exact q_fout_r | refine q_fout_w rfl ?_)) (by repeat (first | exact q_fout_r | refine q_fout_w rfl ?_)) (And.intro rfl (And.intro rfl trivial))) trivial))⟩
    · omega
theorem rv_lawk {h hr hm h1 : q_H} {K : q_TK} {m sd t t' cc bb cc' bb' k : Nat} {s : q_PS} {L : q_lawT} {e : Option (Nat × Nat)} (hV : rv_V h K sd t cc bb s) (hk : k < 20) (hcc : cc ≤ 840) (hcc' : cc' ≤ 840) (eR : ∀ r, r ≠ 124 → q_I hr r = q_I h r) (eJ : q_J hr 132 = q_J h 132) (e20 : q_I hr 124 20 = q_I h 124 20) (hl : q_lr hr K m sd cc bb t' cc' bb' L hm) (el : q_lfr K t' (q_I hr 124 15) (q_I hr 124 16) e) (e1 : h1 = q_wI (q_wI hm 142 (upd (q_I hm 142) (20 * sd + k) (nI bb))) 143 (upd (q_I hm 143) (20 * sd + k) (nI bb'))) : rv_V h1 K sd t' cc' bb' (tx_putL s (tx_up (ps_L s) k (some L)) e) := by
  obtain ⟨v1, v2, v3, v4, v4b, vf, vg, vc, vm8, vd8, vF, vG, vC, vL, ⟨N, vN, vN2⟩, vE⟩ := id hV
  obtain ⟨f1, f2, f3, f4, f5, f6, f7, f8⟩ := hl
  subst e1
  have kk : ∀ r, r ≠ 124 → r < 142 → ∀ i, q_I (q_wI (q_wI hm 142 (upd (q_I hm 142) (20 * sd + k) (nI bb))) 143 (upd (q_I hm 143) (20 * sd + k) (nI bb'))) r i = q_I h r i := fun r a1 a2 i => ((congrFun (q_Ine (by omega)) i).trans (congrFun (q_Ine (by omega)) i)).trans ((congrFun (f1.2.1 r a1 (by omega)) i).trans (congrFun (eR r a1) i))
  have k24 : ∀ j, j ≠ 11 → j ≠ 12 → j ≠ 13 → j ≠ 14 → j ≠ 33 → j ≠ 39 → j ≠ 43 → q_I (q_wI (q_wI hm 142 (upd (q_I hm 142) (20 * sd + k) (nI bb))) 143 (upd (q_I hm 143) (20 * sd + k) (nI bb'))) 124 j = q_I hr 124 j := f1.2.2.1
  have eJ1 : q_J hm 132 = q_J h 132 := (congrArg (fun z => z.1 132) f1.1).trans eJ
  refine ⟨(kk _ (by decide) (by decide) _).trans v1, (kk _ (by decide) (by decide) _).trans v2, (kk _ (by decide) (by decide) _).trans v3, (kk _ (by decide) (by decide) _).trans v4, v4b, vf, vg, vc, vm8, vd8, fun i hi => (kk _ (by decide) (by decide) _).trans (vF i hi), fun i hi => (kk _ (by decide) (by decide) _).trans (vG i hi), fun i hi => (kk _ (by decide) (by decide) _).trans (vC i hi), ?_, ⟨N, rn_co vN ((k24 20 (by decide) (by decide) (by decide) (by decide) (by decide) (by decide) (by decide)).trans e20) eJ1 (funext (kk _ (by decide) (by decide))) (funext (kk _ (by decide) (by decide))), vN2⟩, ?_⟩
  · intro j hj
    show match tx_up (ps_L s) k (some L) j with | none => _ | some w => _
    unfold tx_up
    by_cases hjk : j = k
    · subst hjk
      rw [if_pos rfl]
      refine ⟨bb, ?_, ?_, by omega, q_br_k (bb := bb') (cc := cc') (fun r a1 a2 i _ => (congrFun (q_Ine (by omega)) i).trans (congrFun (q_Ine (by omega)) i)) (fun i _ => ⟨rfl, rfl⟩) hcc' _ _ _ (by omega) (fun j hj => (f7 j hj).1) f5, fun i hi => ⟨(f7 i hi).1, lo_k (by rfl) (by rfl) (f7 i hi).2⟩, f8⟩
      · exact pk_us
      · rw [← f4]
        exact pk_us
    · rw [if_neg hjk]
      have r1 : ∀ r, r = 142 ∨ r = 143 → q_I (q_wI (q_wI hm 142 (upd (q_I hm 142) (20 * sd + k) (nI bb))) 143 (upd (q_I hm 143) (20 * sd + k) (nI bb'))) r (20 * sd + j) = q_I h r (20 * sd + j) := fun r hr => by
        have e0 : q_I hm r (20 * sd + j) = q_I h r (20 * sd + j) := (congrFun (f1.2.1 r (by omega) (by omega)) _).trans (congrFun (eR r (by omega)) _)
        rcases hr with rfl | rfl
        · exact (pk_un (by omega)).trans e0
        · exact (pk_un (by omega)).trans e0
      have r2 : ∀ r, 144 ≤ r → r ≤ 148 → ∀ i, i < bb → q_I (q_wI (q_wI hm 142 (upd (q_I hm 142) (20 * sd + k) (nI bb))) 143 (upd (q_I hm 143) (20 * sd + k) (nI bb'))) r i = q_I h r i := fun r a1 a2 i hi => ((congrFun (q_Ine (by omega)) i).trans (congrFun (q_Ine (by omega)) i)).trans ((f1.2.2.2.2 r a1 a2 i (Or.inl hi)).trans (congrFun (eR r (by omega)) i))
      have r3 : ∀ i, i < cc → q_I hm 149 i = q_I h 149 i ∧ q_I hm 150 i = q_I h 150 i := fun i hi => ⟨((f1.2.2.2.1 i (Or.inl hi)).1).trans (congrFun (eR 149 (by decide)) i), ((f1.2.2.2.1 i (Or.inl hi)).2).trans (congrFun (eR 150 (by decide)) i)⟩
      have h0 := vL j hj
      cases hL : ps_L s j with
      | none =>
        rw [hL] at h0
        exact ⟨(r1 142 (Or.inl rfl)).trans h0.1, (r1 143 (Or.inr rfl)).trans h0.2⟩
      | some w =>
        rw [hL] at h0
        obtain ⟨b, g1, g2, g3, g4, g5, g6⟩ := h0
        refine ⟨b, (r1 142 (Or.inl rfl)).trans g1, (r1 143 (Or.inr rfl)).trans g2, by omega, q_br_k r2 r3 hcc _ _ _ g3 (fun j hj => (g5 j hj).1) g4, fun i hi => ?_, g6⟩
        obtain ⟨⟨z, z1, z2⟩, z3⟩ := g5 i hi
        exact ⟨⟨z, by omega, (r2 148 (by decide) (by decide) _ (by omega)).trans z2⟩, lo_k (r2 145 (by decide) (by decide) _ (by omega)) (r2 147 (by decide) (by decide) _ (by omega)) z3⟩
  · rw [k24 15 (by decide) (by decide) (by decide) (by decide) (by decide) (by decide) (by decide), k24 16 (by decide) (by decide) (by decide) (by decide) (by decide) (by decide) (by decide)]
    exact el
theorem rv_lawn {h hr hm : q_H} {K : q_TK} {m sd t t' cc bb cc' bb' : Nat} {s : q_PS} {L : q_lawT} {e : Option (Nat × Nat)} (hV : rv_V h K sd t cc bb s) (hcc : cc ≤ 840) (eR : ∀ r, r ≠ 124 → q_I hr r = q_I h r) (eJ : q_J hr 132 = q_J h 132) (e20 : q_I hr 124 20 = q_I h 124 20) (hl : q_lr hr K m sd cc bb t' cc' bb' L hm) (el : q_lfr K t' (q_I hr 124 15) (q_I hr 124 16) e) : rv_V hm K sd t' cc' bb' (tx_putL s (ps_L s) e) := by
  obtain ⟨v1, v2, v3, v4, v4b, vf, vg, vc, vm8, vd8, vF, vG, vC, vL, ⟨N, vN, vN2⟩, vE⟩ := id hV
  obtain ⟨f1, f2, f3, f4, f5, f6, f7, f8⟩ := hl
  have kk : ∀ r, r ≠ 124 → r < 144 → ∀ i, q_I hm r i = q_I h r i := fun r a1 a2 i => (congrFun (f1.2.1 r a1 (by omega)) i).trans (congrFun (eR r a1) i)
  have k24 := f1.2.2.1
  have eJ1 : q_J hm 132 = q_J h 132 := (congrArg (fun z => z.1 132) f1.1).trans eJ
  refine ⟨(kk _ (by decide) (by decide) _).trans v1, (kk _ (by decide) (by decide) _).trans v2, (kk _ (by decide) (by decide) _).trans v3, (kk _ (by decide) (by decide) _).trans v4, v4b, vf, vg, vc, vm8, vd8, fun i hi => (kk _ (by decide) (by decide) _).trans (vF i hi), fun i hi => (kk _ (by decide) (by decide) _).trans (vG i hi), fun i hi => (kk _ (by decide) (by decide) _).trans (vC i hi), ?_, ⟨N, rn_co vN ((k24 20 (by decide) (by decide) (by decide) (by decide) (by decide) (by decide) (by decide)).trans e20) eJ1 (funext (kk _ (by decide) (by decide))) (funext (kk _ (by decide) (by decide))), vN2⟩, ?_⟩
  · exact rvL_k vL hcc f6 (by omega) (fun j _ => ⟨kk _ (by decide) (by decide) _, kk _ (by decide) (by decide) _⟩) (fun r a1 a2 i hi => (f1.2.2.2.2 r a1 a2 i (Or.inl hi)).trans (congrFun (eR r (by omega)) i)) (fun i hi => ⟨((f1.2.2.2.1 i (Or.inl hi)).1).trans (congrFun (eR 149 (by decide)) i), ((f1.2.2.2.1 i (Or.inl hi)).2).trans (congrFun (eR 150 (by decide)) i)⟩)
  · rw [k24 15 (by decide) (by decide) (by decide) (by decide) (by decide) (by decide) (by decide), k24 16 (by decide) (by decide) (by decide) (by decide) (by decide) (by decide) (by decide)]
    exact el
theorem rv_up {h : q_H} {K : q_TK} {sd t t1 cc bb : Nat} {s : q_PS} (hV : rv_V h K sd t cc bb s) (ht : t ≤ t1) {h1 : q_H} (hcc : cc ≤ 840) (eR : ∀ r, r ≠ 124 → q_I h1 r = q_I h r) (eJ : q_J h1 132 = q_J h 132) (e20 : q_I h1 124 20 = q_I h 124 20) (e15 : q_I h1 124 15 = q_I h 124 15) (e16 : q_I h1 124 16 = q_I h 124 16) : rv_V h1 K sd t1 cc bb s := by
  obtain ⟨v1, v2, v3, v4, v4b, vf, vg, vc, vm8, vd8, vF, vG, vC, vL, ⟨N, vN, vN2⟩, vE⟩ := id hV
  have k : ∀ r, r ≠ 124 → ∀ i, q_I h1 r i = q_I h r i := fun r a1 i => congrFun (eR r a1) i
  exact ⟨(k _ (by decide) _).trans v1, (k _ (by decide) _).trans v2, (k _ (by decide) _).trans v3, (k _ (by decide) _).trans v4, v4b, vf, vg, vc, vm8, vd8, fun i hi => (k _ (by decide) _).trans (vF i hi), fun i hi => (k _ (by decide) _).trans (vG i hi), fun i hi => (k _ (by decide) _).trans (vC i hi), rvL_k vL hcc (Nat.le_refl _) (Nat.le_refl _) (fun j _ => ⟨k _ (by decide) _, k _ (by decide) _⟩) (fun r a1 a2 i _ => k r (by omega) i) (fun i _ => ⟨k _ (by decide) _, k _ (by decide) _⟩), ⟨N, rn_co vN e20 eJ (eR _ (by decide)) (eR _ (by decide)), vN2⟩, by rw [e15, e16]; exact lfr_up vE ht⟩
theorem rtA_t {K : q_TK} {m sd : Nat} {h0 h h1 : q_H} {o : (Nat × Nat) ⊕ (q_PS × Nat)} {r : Option Value} (a : q_rt sd h0 h) (b : q_rtA K m sd h o r h1) : q_rtA K m sd h0 o r h1 := by
  cases o with
  | inl e => exact ⟨b.1, rt_t a b.2.1, b.2.2⟩
  | inr x => exact ⟨b.1, rt_t a b.2.1, b.2.2⟩
