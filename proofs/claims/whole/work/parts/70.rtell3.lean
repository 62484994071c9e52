/-! the reference: all tells -/
theorem rtA_v {l : Launch} {g : q_GP} {d : Nat} {y : q_MI} {as : List Value} {h h' : q_H} {K : q_TK} {m sd : Nat} {o : (Nat × Nat) ⊕ (q_PS × Nat)} (C : q_Ct l g d y as h (q_rtA K m sd h' o)) : q_Ct l g d y as h (fun r h1 => r = none ∧ q_rtA K m sd h' o none h1) := q_Ct_post (fun r h1 q => by
  cases o with
  | inl e => exact ⟨q.1, rfl, q.2⟩
  | inr x => exact ⟨q.1, rfl, q.2⟩) C
theorem rco_v {l : Launch} {g : q_GP} {d : Nat} {y : q_MI} {as : List Value} {h h' : q_H} {K : q_TK} {m sd cc bb : Nat} {o : (Nat × Nat) ⊕ ((List Nat × Option (Nat × Nat)) × Nat)} (C : q_Ct l g d y as h (q_rcoA K m sd cc bb h' o)) : q_Ct l g d y as h (fun r h1 => r = none ∧ q_rcoA K m sd cc bb h' o none h1) := q_Ct_post (fun r h1 q => by
  cases o with
  | inl e => exact ⟨q.1, rfl, q.2⟩
  | inr x => exact ⟨q.1, rfl, q.2⟩) C
theorem lr_inl {l : Launch} {g : q_GP} {d : Nat} {y : q_MI} {as : List Value} {h h' : q_H} {K : q_TK} {m sd cc bb : Nat} {W : q_H → Nat → q_H} {o : (Nat × Nat) ⊕ (q_lawT × Nat)} {er : Nat × Nat} (e : o = .inl er) (C : q_Ct l g d y as h (q_lrA h' K m sd cc bb W o)) : q_Ct l g d y as h (fun r h1 => r = none ∧ (q_rf sd cc bb h' h1 ∧ q_rb h1 K sd er)) := by
  rw [e] at C
  exact C
theorem lr_inr {l : Launch} {g : q_GP} {d : Nat} {y : q_MI} {as : List Value} {h h' : q_H} {K : q_TK} {m sd cc bb : Nat} {W : q_H → Nat → q_H} {o : (Nat × Nat) ⊕ (q_lawT × Nat)} {x : q_lawT × Nat} (e : o = .inr x) (C : q_Ct l g d y as h (q_lrA h' K m sd cc bb W o)) : q_Ct l g d y as h (fun r h1 => r = none ∧ (∃ hm cc' bb', q_lr h' K m sd cc bb x.2 cc' bb' x.1 hm ∧ h1 = W hm bb')) := by
  rw [e] at C
  exact C
theorem q_tsw : ∀ a : Fin 37, ¬ (20 ≤ a.1 ∧ a.1 ≤ 27) → (nI a.1).toInt < 20 ∨ 27 < (nI a.1).toInt := by decide +kernel
theorem r_tellCold_b (l : Launch) (g : q_GP) (h : q_H) (hs : q_Stat h) {f : Nat} (h13 : q_I h 124 13 = nI f) (hf : 0 < f) (hf5 : f ≤ 5) {sd : Nat} (h19 : q_I h 124 19 = nI sd) (hsd : sd < 2) : q_Cd l g 4 mX10_tellCold [.ref 124] h none (q_wI h 139 (upd (q_I h 139) sd (nI 0))) := by
  refine q_CdV mvX10_tellCold (Nat.le_of_ble_eq_true rfl) ?_
  refine xe_iconst dX10_tellCold_0 kc_0 ?_
  refine xe_istore_n (i := 1) dX10_tellCold_1 rfl (by decide) rfl ?_
  refine xe_aload_n dX10_tellCold_2 rfl ?_
  refine xe_getIv dX10_tellCold_3 flX10_198 (st124 hs) (by decide) rfl (v := nI f) (h13) ?_
  refine xn_if_ne (tgt := 64) dX10_tellCold_6 rfl (by omega) (fun c1 => ?_) (fun c1 => ?_)
  · refine xe_aload_n dX10_tellCold_64 rfl ?_
    refine xe_iconst dX10_tellCold_65 kc_4 ?_
    refine xe_callVV (d' := 2) (y' := mX10_must) dX10_tellCold_66 mlX10_275 mvX10_must rfl (st124 hs) (by decide) rfl (by decide) (by decide) (Nat.le_of_ble_eq_true rfl) (c_X10_must_b l g _ (by exact hs) (by exact h13) hf hf5 _) rfl ?_
    refine xe_aload_n dX10_tellCold_69 rfl ?_
    refine xe_getP dX10_tellCold_70 flX10_61 (st124 hs) (by decide) rfl (sp124_28 hs) ?_
    refine xe_aload_n dX10_tellCold_73 rfl ?_
    refine xe_getIv dX10_tellCold_74 flX10_231 (st124 hs) (by decide) rfl (v := nI sd) (h19) ?_
    refine xe_iload_n dX10_tellCold_77 rfl ?_
    refine xn_iast dX10_tellCold_78 (st139 hs) (by omega) (by decide) ?_
    refine xe_return dX10_tellCold_79 rfl ?_
    exact ⟨rfl, rfl⟩
  · omega
theorem r_tell (l : Launch) (g : q_GP) (h : q_H) {K : q_TK} {m sd t cc bb : Nat} {s : q_PS} (a : q_rs h K m sd t cc bb) (hbt : 4 * (bb - 130 * sd) ≤ t) (hV : rv_V h K sd t cc bb s) (hinc : q_inc K m) : q_Ct l g 6 mX10_tell [.ref 124] h (q_rtA K m sd h (tx_tell K s t)) := by
  obtain ⟨hs, hR, h12, h19, hsd, h33, h39, hc1, hc2, hb1, hb2⟩ := id a
  obtain ⟨hT, htm, h11, h13⟩ := id hR
  obtain ⟨z1, z2, z3, z4, z5, z6⟩ := hT.2.2 t htm
  have hm4 := hT.1
  obtain ⟨v1, v2, v3, v4, v4b, vf, vg, vc, vm8, vd8, vF, vG, vC, vL, ⟨N, vN, vN2⟩, vE⟩ := id hV
  unfold tx_tell
  by_cases t20 : tk_T K t = 20
  · rw [if_pos t20]
    rw [tx_man_2]
    by_cases h8 : 8 ≤ (ps_m s).length
    · rw [if_pos h8]
      refine q_CtV mvX10_tell (Nat.le_of_ble_eq_true rfl) ?_
      refine xe_aload_n dX10_tell_0 rfl ?_
      refine xe_getP dX10_tell_1 flX10_20 (st124 hs) (by decide) rfl (sp124_5 hs) ?_
      refine xe_aload_n dX10_tell_4 rfl ?_
      refine xe_getIv dX10_tell_5 flX10_201 (st124 hs) (by decide) rfl (v := nI t) (h11) ?_
      refine xn_ialdv dX10_tell_8 (st127 hs) (by omega) (by decide) (v := nI 20) ((z3.trans (by rw [t20]))) ?_
      refine xe_tsw_in (tgt := 56) dX10_tell_9 (by decide) (by decide) rfl rfl ?_
      refine xe_aload_n dX10_tell_56 rfl ?_
      refine xe_aload_n dX10_tell_57 rfl ?_
      refine xe_getP dX10_tell_58 flX10_49 (st124 hs) (by decide) rfl (sp124_24 hs) ?_
      refine xe_aload_n dX10_tell_61 rfl ?_
      refine xe_getIv dX10_tell_62 flX10_231 (st124 hs) (by decide) rfl (v := nI sd) (h19) ?_
      refine xn_ialdv dX10_tell_65 (st135 hs) (by omega) (by decide) (v := nI 8) ((v1.trans (congrArg nI (by omega)))) ?_
      refine xe_bipush dX10_tell_66 kb_8 ?_
      refine xe_callVV (d' := 2) (y' := mX10_roomFor) dX10_tell_68 mlX10_252 mvX10_roomFor rfl (st124 hs) (by decide) rfl (by decide) (by decide) (Nat.le_of_ble_eq_true rfl) (c_X10_roomFor_8 l g _ (by exact hs) hR ) rfl ?_
      refine xe_aload_n dX10_tell_71 rfl ?_
      refine xe_getIv dX10_tell_72 flX10_198 (st124 hs) (by decide) rfl (v := nI 2) (rfl) ?_
      refine xn_if_ne (tgt := 231) dX10_tell_75 rfl (by omega) (fun c1 => ?_) (fun c1 => ?_)
      · refine xe_return dX10_tell_231 rfl ?_
        exact ⟨rfl, (by repeat (first | exact rt_r | refine rt_J ?_ | refine rt_w ?_ (by first | exact os_135 (by decide) | exact os_133 (by decide) | exact os_136 (by decide) (by omega) | exact os_140 (by omega)) | refine rt_f ?_ (fun k hk => by obtain ⟨y1, y2, y3, y4, y5, y6, y7, y8, y9, y10⟩ := os_124 hk; repeat (first | exact rfl | refine (pk_un (by assumption)).trans ?_)))), rfl, rfl, (show 1 ≤ 2 by decide), (show 2 ≤ 5 by decide)⟩
      · omega
    · rw [if_neg h8]
      by_cases h400 : 400 ≤ t
      · rw [tx_ck_2 t20 h400]
        refine q_CtV mvX10_tell (Nat.le_of_ble_eq_true rfl) ?_
        refine xe_aload_n dX10_tell_0 rfl ?_
        refine xe_getP dX10_tell_1 flX10_20 (st124 hs) (by decide) rfl (sp124_5 hs) ?_
        refine xe_aload_n dX10_tell_4 rfl ?_
        refine xe_getIv dX10_tell_5 flX10_201 (st124 hs) (by decide) rfl (v := nI t) (h11) ?_
        refine xn_ialdv dX10_tell_8 (st127 hs) (by omega) (by decide) (v := nI 20) ((z3.trans (by rw [t20]))) ?_
        refine xe_tsw_in (tgt := 56) dX10_tell_9 (by decide) (by decide) rfl rfl ?_
        refine xe_aload_n dX10_tell_56 rfl ?_
        refine xe_aload_n dX10_tell_57 rfl ?_
        refine xe_getP dX10_tell_58 flX10_49 (st124 hs) (by decide) rfl (sp124_24 hs) ?_
        refine xe_aload_n dX10_tell_61 rfl ?_
        refine xe_getIv dX10_tell_62 flX10_231 (st124 hs) (by decide) rfl (v := nI sd) (h19) ?_
        refine xn_ialdv dX10_tell_65 (st135 hs) (by omega) (by decide) (v := nI ((ps_m s).length)) (v1) ?_
        refine xe_bipush dX10_tell_66 kb_8 ?_
        refine xe_callVV (d' := 2) (y' := mX10_roomFor) dX10_tell_68 mlX10_252 mvX10_roomFor rfl (st124 hs) (by decide) rfl (by decide) (by decide) (Nat.le_of_ble_eq_true rfl) (c_X10_roomFor_f l g _ (by exact hs) hR (by omega) h400) rfl ?_
        refine xe_aload_n dX10_tell_71 rfl ?_
        refine xe_getIv dX10_tell_72 flX10_198 (st124 hs) (by decide) rfl (v := nI 2) (rfl) ?_
        refine xn_if_ne (tgt := 231) dX10_tell_75 rfl (by omega) (fun c1 => ?_) (fun c1 => ?_)
        · refine xe_return dX10_tell_231 rfl ?_
          exact ⟨rfl, (by repeat (first | exact rt_r | refine rt_J ?_ | refine rt_w ?_ (by first | exact os_135 (by decide) | exact os_133 (by decide) | exact os_136 (by decide) (by omega) | exact os_140 (by omega)) | refine rt_f ?_ (fun k hk => by obtain ⟨y1, y2, y3, y4, y5, y6, y7, y8, y9, y10⟩ := os_124 hk; repeat (first | exact rfl | refine (pk_un (by assumption)).trans ?_)))), rfl, rfl, (show 1 ≤ 2 by decide), (show 2 ≤ 5 by decide)⟩
        · omega
      · have hck := tx_ck_0 t20 (show t < 400 by omega)
        have go1 := rt_gn hT htm hck (by decide)
        rw [hck]
        show q_Ct l g 6 mX10_tell _ h (q_rtA K m sd h (tx_man2 K s (t + 1)))
        refine q_CtV mvX10_tell (Nat.le_of_ble_eq_true rfl) ?_
        refine xe_aload_n dX10_tell_0 rfl ?_
        refine xe_getP dX10_tell_1 flX10_20 (st124 hs) (by decide) rfl (sp124_5 hs) ?_
        refine xe_aload_n dX10_tell_4 rfl ?_
        refine xe_getIv dX10_tell_5 flX10_201 (st124 hs) (by decide) rfl (v := nI t) (h11) ?_
        refine xn_ialdv dX10_tell_8 (st127 hs) (by omega) (by decide) (v := nI 20) ((z3.trans (by rw [t20]))) ?_
        refine xe_tsw_in (tgt := 56) dX10_tell_9 (by decide) (by decide) rfl rfl ?_
        refine xe_aload_n dX10_tell_56 rfl ?_
        refine xe_aload_n dX10_tell_57 rfl ?_
        refine xe_getP dX10_tell_58 flX10_49 (st124 hs) (by decide) rfl (sp124_24 hs) ?_
        refine xe_aload_n dX10_tell_61 rfl ?_
        refine xe_getIv dX10_tell_62 flX10_231 (st124 hs) (by decide) rfl (v := nI sd) (h19) ?_
        refine xn_ialdv dX10_tell_65 (st135 hs) (by omega) (by decide) (v := nI ((ps_m s).length)) (v1) ?_
        refine xe_bipush dX10_tell_66 kb_8 ?_
        refine xe_callVV (d' := 2) (y' := mX10_roomFor) dX10_tell_68 mlX10_252 mvX10_roomFor rfl (st124 hs) (by decide) rfl (by decide) (by decide) (Nat.le_of_ble_eq_true rfl) (c_X10_roomFor_t l g _ (by exact hs) hR (by omega) (by omega)) rfl ?_
        refine xe_aload_n dX10_tell_71 rfl ?_
        refine xe_getIv dX10_tell_72 flX10_198 (st124 hs) (by decide) rfl (v := nI 0) (h13) ?_
        refine xn_if_ne (tgt := 231) dX10_tell_75 rfl (by omega) (fun c1 => ?_) (fun c1 => ?_)
        · omega
        · refine xe_aload_n dX10_tell_78 rfl ?_
          refine xe_callVVq (d' := 4) (y' := mX10_tellMan) dX10_tell_79 mlX10_256 mvX10_tellMan rfl (st124 hs) (by decide) rfl (by decide) (by decide) (Nat.le_of_ble_eq_true rfl) (rtA_v (r_tellMan l g _ (t := t + 1) (cc := cc) (bb := bb) (s := s) (by exact (rs_k a rfl rfl rfl rfl rfl rfl rfl rfl rfl rfl rfl (Nat.le_succ _) go1)) (by omega) (by exact (rv_up hV (Nat.le_succ _) (by omega) (by intro r a1; exact q_Ine a1) rfl rfl rfl rfl)) hinc (by omega))) rfl (fun h1 hq => ?_)
          refine xe_goto (tgt := 231) dX10_tell_82 rfl ?_
          refine xe_return dX10_tell_231 rfl ?_
          exact rtA_t (by repeat (first | exact rt_r | refine rt_J ?_ | refine rt_w ?_ (by first | exact os_135 (by decide) | exact os_133 (by decide) | exact os_136 (by decide) (by omega) | exact os_140 (by omega)) | refine rt_f ?_ (fun k hk => by obtain ⟨y1, y2, y3, y4, y5, y6, y7, y8, y9, y10⟩ := os_124 hk; repeat (first | exact rfl | refine (pk_un (by assumption)).trans ?_)))) hq
  rw [if_neg t20]
  by_cases t21 : tk_T K t = 21
  · rw [if_pos t21]
    rw [tx_deed_2]
    by_cases h8 : 8 ≤ (ps_d s).length
    · rw [if_pos h8]
      refine q_CtV mvX10_tell (Nat.le_of_ble_eq_true rfl) ?_
      refine xe_aload_n dX10_tell_0 rfl ?_
      refine xe_getP dX10_tell_1 flX10_20 (st124 hs) (by decide) rfl (sp124_5 hs) ?_
      refine xe_aload_n dX10_tell_4 rfl ?_
      refine xe_getIv dX10_tell_5 flX10_201 (st124 hs) (by decide) rfl (v := nI t) (h11) ?_
      refine xn_ialdv dX10_tell_8 (st127 hs) (by omega) (by decide) (v := nI 21) ((z3.trans (by rw [t21]))) ?_
      refine xe_tsw_in (tgt := 85) dX10_tell_9 (by decide) (by decide) rfl rfl ?_
      refine xe_aload_n dX10_tell_85 rfl ?_
      refine xe_aload_n dX10_tell_86 rfl ?_
      refine xe_getP dX10_tell_87 flX10_55 (st124 hs) (by decide) rfl (sp124_26 hs) ?_
      refine xe_aload_n dX10_tell_90 rfl ?_
      refine xe_getIv dX10_tell_91 flX10_231 (st124 hs) (by decide) rfl (v := nI sd) (h19) ?_
      refine xn_ialdv dX10_tell_94 (st137 hs) (by omega) (by decide) (v := nI 8) ((v2.trans (congrArg nI (by omega)))) ?_
      refine xe_bipush dX10_tell_95 kb_8 ?_
      refine xe_callVV (d' := 2) (y' := mX10_roomFor) dX10_tell_97 mlX10_252 mvX10_roomFor rfl (st124 hs) (by decide) rfl (by decide) (by decide) (Nat.le_of_ble_eq_true rfl) (c_X10_roomFor_8 l g _ (by exact hs) hR ) rfl ?_
      refine xe_aload_n dX10_tell_100 rfl ?_
      refine xe_getIv dX10_tell_101 flX10_198 (st124 hs) (by decide) rfl (v := nI 2) (rfl) ?_
      refine xn_if_ne (tgt := 231) dX10_tell_104 rfl (by omega) (fun c1 => ?_) (fun c1 => ?_)
      · refine xe_return dX10_tell_231 rfl ?_
        exact ⟨rfl, (by repeat (first | exact rt_r | refine rt_J ?_ | refine rt_w ?_ (by first | exact os_135 (by decide) | exact os_133 (by decide) | exact os_136 (by decide) (by omega) | exact os_140 (by omega)) | refine rt_f ?_ (fun k hk => by obtain ⟨y1, y2, y3, y4, y5, y6, y7, y8, y9, y10⟩ := os_124 hk; repeat (first | exact rfl | refine (pk_un (by assumption)).trans ?_)))), rfl, rfl, (show 1 ≤ 2 by decide), (show 2 ≤ 5 by decide)⟩
      · omega
    · rw [if_neg h8]
      by_cases h400 : 400 ≤ t
      · rw [tx_ck_2 t21 h400]
        refine q_CtV mvX10_tell (Nat.le_of_ble_eq_true rfl) ?_
        refine xe_aload_n dX10_tell_0 rfl ?_
        refine xe_getP dX10_tell_1 flX10_20 (st124 hs) (by decide) rfl (sp124_5 hs) ?_
        refine xe_aload_n dX10_tell_4 rfl ?_
        refine xe_getIv dX10_tell_5 flX10_201 (st124 hs) (by decide) rfl (v := nI t) (h11) ?_
        refine xn_ialdv dX10_tell_8 (st127 hs) (by omega) (by decide) (v := nI 21) ((z3.trans (by rw [t21]))) ?_
        refine xe_tsw_in (tgt := 85) dX10_tell_9 (by decide) (by decide) rfl rfl ?_
        refine xe_aload_n dX10_tell_85 rfl ?_
        refine xe_aload_n dX10_tell_86 rfl ?_
        refine xe_getP dX10_tell_87 flX10_55 (st124 hs) (by decide) rfl (sp124_26 hs) ?_
        refine xe_aload_n dX10_tell_90 rfl ?_
        refine xe_getIv dX10_tell_91 flX10_231 (st124 hs) (by decide) rfl (v := nI sd) (h19) ?_
        refine xn_ialdv dX10_tell_94 (st137 hs) (by omega) (by decide) (v := nI ((ps_d s).length)) (v2) ?_
        refine xe_bipush dX10_tell_95 kb_8 ?_
        refine xe_callVV (d' := 2) (y' := mX10_roomFor) dX10_tell_97 mlX10_252 mvX10_roomFor rfl (st124 hs) (by decide) rfl (by decide) (by decide) (Nat.le_of_ble_eq_true rfl) (c_X10_roomFor_f l g _ (by exact hs) hR (by omega) h400) rfl ?_
        refine xe_aload_n dX10_tell_100 rfl ?_
        refine xe_getIv dX10_tell_101 flX10_198 (st124 hs) (by decide) rfl (v := nI 2) (rfl) ?_
        refine xn_if_ne (tgt := 231) dX10_tell_104 rfl (by omega) (fun c1 => ?_) (fun c1 => ?_)
        · refine xe_return dX10_tell_231 rfl ?_
          exact ⟨rfl, (by repeat (first | exact rt_r | refine rt_J ?_ | refine rt_w ?_ (by first | exact os_135 (by decide) | exact os_133 (by decide) | exact os_136 (by decide) (by omega) | exact os_140 (by omega)) | refine rt_f ?_ (fun k hk => by obtain ⟨y1, y2, y3, y4, y5, y6, y7, y8, y9, y10⟩ := os_124 hk; repeat (first | exact rfl | refine (pk_un (by assumption)).trans ?_)))), rfl, rfl, (show 1 ≤ 2 by decide), (show 2 ≤ 5 by decide)⟩
        · omega
      · have hck := tx_ck_0 t21 (show t < 400 by omega)
        have go1 := rt_gn hT htm hck (by decide)
        rw [hck]
        show q_Ct l g 6 mX10_tell _ h (q_rtA K m sd h (tx_deed2 K s (t + 1)))
        refine q_CtV mvX10_tell (Nat.le_of_ble_eq_true rfl) ?_
        refine xe_aload_n dX10_tell_0 rfl ?_
        refine xe_getP dX10_tell_1 flX10_20 (st124 hs) (by decide) rfl (sp124_5 hs) ?_
        refine xe_aload_n dX10_tell_4 rfl ?_
        refine xe_getIv dX10_tell_5 flX10_201 (st124 hs) (by decide) rfl (v := nI t) (h11) ?_
        refine xn_ialdv dX10_tell_8 (st127 hs) (by omega) (by decide) (v := nI 21) ((z3.trans (by rw [t21]))) ?_
        refine xe_tsw_in (tgt := 85) dX10_tell_9 (by decide) (by decide) rfl rfl ?_
        refine xe_aload_n dX10_tell_85 rfl ?_
        refine xe_aload_n dX10_tell_86 rfl ?_
        refine xe_getP dX10_tell_87 flX10_55 (st124 hs) (by decide) rfl (sp124_26 hs) ?_
        refine xe_aload_n dX10_tell_90 rfl ?_
        refine xe_getIv dX10_tell_91 flX10_231 (st124 hs) (by decide) rfl (v := nI sd) (h19) ?_
        refine xn_ialdv dX10_tell_94 (st137 hs) (by omega) (by decide) (v := nI ((ps_d s).length)) (v2) ?_
        refine xe_bipush dX10_tell_95 kb_8 ?_
        refine xe_callVV (d' := 2) (y' := mX10_roomFor) dX10_tell_97 mlX10_252 mvX10_roomFor rfl (st124 hs) (by decide) rfl (by decide) (by decide) (Nat.le_of_ble_eq_true rfl) (c_X10_roomFor_t l g _ (by exact hs) hR (by omega) (by omega)) rfl ?_
        refine xe_aload_n dX10_tell_100 rfl ?_
        refine xe_getIv dX10_tell_101 flX10_198 (st124 hs) (by decide) rfl (v := nI 0) (h13) ?_
        refine xn_if_ne (tgt := 231) dX10_tell_104 rfl (by omega) (fun c1 => ?_) (fun c1 => ?_)
        · omega
        · refine xe_aload_n dX10_tell_107 rfl ?_
          refine xe_callVVq (d' := 4) (y' := mX10_tellDeed) dX10_tell_108 mlX10_259 mvX10_tellDeed rfl (st124 hs) (by decide) rfl (by decide) (by decide) (Nat.le_of_ble_eq_true rfl) (rtA_v (r_tellDeed l g _ (t := t + 1) (cc := cc) (bb := bb) (s := s) (by exact (rs_k a rfl rfl rfl rfl rfl rfl rfl rfl rfl rfl rfl (Nat.le_succ _) go1)) (by omega) (by exact (rv_up hV (Nat.le_succ _) (by omega) (by intro r a1; exact q_Ine a1) rfl rfl rfl rfl)) hinc (by omega))) rfl (fun h1 hq => ?_)
          refine xe_goto (tgt := 231) dX10_tell_111 rfl ?_
          refine xe_return dX10_tell_231 rfl ?_
          exact rtA_t (by repeat (first | exact rt_r | refine rt_J ?_ | refine rt_w ?_ (by first | exact os_135 (by decide) | exact os_133 (by decide) | exact os_136 (by decide) (by omega) | exact os_140 (by omega)) | refine rt_f ?_ (fun k hk => by obtain ⟨y1, y2, y3, y4, y5, y6, y7, y8, y9, y10⟩ := os_124 hk; repeat (first | exact rfl | refine (pk_un (by assumption)).trans ?_)))) hq
  rw [if_neg t21]
  by_cases t22 : tk_T K t = 22
  · rw [if_pos t22]
    unfold tx_named
    by_cases h400 : 400 ≤ t
    · rw [tx_ck_2 t22 h400]
      refine q_CtV mvX10_tell (Nat.le_of_ble_eq_true rfl) ?_
      refine xe_aload_n dX10_tell_0 rfl ?_
      refine xe_getP dX10_tell_1 flX10_20 (st124 hs) (by decide) rfl (sp124_5 hs) ?_
      refine xe_aload_n dX10_tell_4 rfl ?_
      refine xe_getIv dX10_tell_5 flX10_201 (st124 hs) (by decide) rfl (v := nI t) (h11) ?_
      refine xn_ialdv dX10_tell_8 (st127 hs) (by omega) (by decide) (v := nI 22) ((z3.trans (by rw [t22]))) ?_
      refine xe_tsw_in (tgt := 114) dX10_tell_9 (by decide) (by decide) rfl rfl ?_
      refine xe_aload_n dX10_tell_114 rfl ?_
      refine xe_callVV (d' := 1) (y' := mX10_goesOn) dX10_tell_115 mlX10_219 mvX10_goesOn rfl (st124 hs) (by decide) rfl (by decide) (by decide) (Nat.le_of_ble_eq_true rfl) (c_X10_goesOn_f l g _ (by exact hs) hR h400) rfl ?_
      refine xe_aload_n dX10_tell_118 rfl ?_
      refine xe_aload_n dX10_tell_119 rfl ?_
      refine xe_iconst dX10_tell_120 kc_1 ?_
      refine xe_callVI (d' := 3) (y' := mX10_known) dX10_tell_121 mlX10_262 mvX10_known rfl (st124 hs) (by decide) rfl (by decide) (by decide) (Nat.le_of_ble_eq_true rfl) (c_X10_known_b l g _ (by exact hs) (f := 2) (by exact rfl) (by decide) (by decide) (t := t) (by exact h11) _) rfl ?_
      refine xe_callVVq (d' := 5) (y' := mX10_tellLaw) dX10_tell_124 mlX10_265 mvX10_tellLaw rfl (st124 hs) (by decide) rfl (by decide) (by decide) (Nat.le_of_ble_eq_true rfl) (r_tellLaw_b l g (BB := bb) (-1) _ (by exact rs_f (e := (2, t)) a (show 1 ≤ 2 by decide) (show 2 ≤ 5 by decide)) (by exact h33) (by omega)) rfl (fun h1 hq => ?_)
      refine xe_goto (tgt := 231) dX10_tell_127 rfl ?_
      refine xe_return dX10_tell_231 rfl ?_
      exact ⟨rfl, rt_rf (by repeat (first | exact rt_r | refine rt_J ?_ | refine rt_w ?_ (by first | exact os_135 (by decide) | exact os_133 (by decide) | exact os_136 (by decide) (by omega) | exact os_140 (by omega)) | refine rt_f ?_ (fun k hk => by obtain ⟨y1, y2, y3, y4, y5, y6, y7, y8, y9, y10⟩ := os_124 hk; repeat (first | exact rfl | refine (pk_un (by assumption)).trans ?_)))) hq.1 (by omega) hb1, hq.2.2.2.2.1, hq.2.2.2.2.2.1, hq.2.2.2.2.2.2.1, hq.2.2.2.2.2.2.2.1⟩
    · have hck := tx_ck_0 t22 (show t < 400 by omega)
      have go1 := rt_gn hT htm hck (by decide)
      rw [hck]
      show q_Ct l g 6 mX10_tell _ h (q_rtA K m sd h (tx_b (tx_ck (tk_T K) 1 (t + 1)) _))
      cases k2 : tx_ck (tk_T K) 1 (t + 1) with
      | some er =>
        have he := ck_15 k2
        refine q_CtV mvX10_tell (Nat.le_of_ble_eq_true rfl) ?_
        refine xe_aload_n dX10_tell_0 rfl ?_
        refine xe_getP dX10_tell_1 flX10_20 (st124 hs) (by decide) rfl (sp124_5 hs) ?_
        refine xe_aload_n dX10_tell_4 rfl ?_
        refine xe_getIv dX10_tell_5 flX10_201 (st124 hs) (by decide) rfl (v := nI t) (h11) ?_
        refine xn_ialdv dX10_tell_8 (st127 hs) (by omega) (by decide) (v := nI 22) ((z3.trans (by rw [t22]))) ?_
        refine xe_tsw_in (tgt := 114) dX10_tell_9 (by decide) (by decide) rfl rfl ?_
        refine xe_aload_n dX10_tell_114 rfl ?_
        refine xe_callVV (d' := 1) (y' := mX10_goesOn) dX10_tell_115 mlX10_219 mvX10_goesOn rfl (st124 hs) (by decide) rfl (by decide) (by decide) (Nat.le_of_ble_eq_true rfl) (c_X10_goesOn_t l g _ (by exact hs) (t := t) (by exact h11) (by omega)) rfl ?_
        refine xe_aload_n dX10_tell_118 rfl ?_
        refine xe_aload_n dX10_tell_119 rfl ?_
        refine xe_iconst dX10_tell_120 kc_1 ?_
        refine xe_callVI (d' := 3) (y' := mX10_known) dX10_tell_121 mlX10_262 mvX10_known rfl (st124 hs) (by decide) rfl (by decide) (by decide) (Nat.le_of_ble_eq_true rfl) (c_X10_known_f l g _ (by exact hs) (t := t + 1) (by refine ⟨rt_Tc hT ?_ ?_ ?_ ?_, (by omega), ?_, ?_⟩ <;> first | exact rfl | exact h11 | exact h13) k2 _) rfl ?_
        refine xe_callVVq (d' := 5) (y' := mX10_tellLaw) dX10_tell_124 mlX10_265 mvX10_tellLaw rfl (st124 hs) (by decide) rfl (by decide) (by decide) (Nat.le_of_ble_eq_true rfl) (r_tellLaw_b l g (BB := bb) (-1) _ (by exact rs_f (e := er) (rs_k a rfl rfl rfl rfl rfl rfl rfl rfl rfl rfl rfl (Nat.le_succ _) go1) he.1 he.2) (by exact h33) (by omega)) rfl (fun h1 hq => ?_)
        refine xe_goto (tgt := 231) dX10_tell_127 rfl ?_
        refine xe_return dX10_tell_231 rfl ?_
        exact ⟨rfl, rt_rf (by repeat (first | exact rt_r | refine rt_J ?_ | refine rt_w ?_ (by first | exact os_135 (by decide) | exact os_133 (by decide) | exact os_136 (by decide) (by omega) | exact os_140 (by omega)) | refine rt_f ?_ (fun k hk => by obtain ⟨y1, y2, y3, y4, y5, y6, y7, y8, y9, y10⟩ := os_124 hk; repeat (first | exact rfl | refine (pk_un (by assumption)).trans ?_)))) hq.1 (by omega) hb1, hq.2.2.2.2.1, hq.2.2.2.2.2.1, hq.2.2.2.2.2.2.1, hq.2.2.2.2.2.2.2.1⟩
      | none =>
        have go2 := rt_gn hT go1 k2 (by decide)
        show q_Ct l g 6 mX10_tell _ h (q_rtA K m sd h (tx_r (tx_law K (t + 2)) _))
        cases kf : tx_find (tk_N K (t + 1)) (ps_d s) 0 with
        | some j =>
          have kj := tx_find_lt _ 0 j kf
          cases kl : tx_law K (t + 2) with
          | inl er =>
            refine q_CtV mvX10_tell (Nat.le_of_ble_eq_true rfl) ?_
            refine xe_aload_n dX10_tell_0 rfl ?_
            refine xe_getP dX10_tell_1 flX10_20 (st124 hs) (by decide) rfl (sp124_5 hs) ?_
            refine xe_aload_n dX10_tell_4 rfl ?_
            refine xe_getIv dX10_tell_5 flX10_201 (st124 hs) (by decide) rfl (v := nI t) (h11) ?_
            refine xn_ialdv dX10_tell_8 (st127 hs) (by omega) (by decide) (v := nI 22) ((z3.trans (by rw [t22]))) ?_
            refine xe_tsw_in (tgt := 114) dX10_tell_9 (by decide) (by decide) rfl rfl ?_
            refine xe_aload_n dX10_tell_114 rfl ?_
            refine xe_callVV (d' := 1) (y' := mX10_goesOn) dX10_tell_115 mlX10_219 mvX10_goesOn rfl (st124 hs) (by decide) rfl (by decide) (by decide) (Nat.le_of_ble_eq_true rfl) (c_X10_goesOn_t l g _ (by exact hs) (t := t) (by exact h11) (by omega)) rfl ?_
            refine xe_aload_n dX10_tell_118 rfl ?_
            refine xe_aload_n dX10_tell_119 rfl ?_
            refine xe_iconst dX10_tell_120 kc_1 ?_
            refine xe_callVIn (d' := 3) (y' := mX10_known) dX10_tell_121 mlX10_262 mvX10_known rfl (st124 hs) (by decide) rfl (by decide) (by decide) (Nat.le_of_ble_eq_true rfl) (c_X10_known_1 l g _ (by exact hs) (t := t + 1) (by refine ⟨rt_Tc hT ?_ ?_ ?_ ?_, (by omega), ?_, ?_⟩ <;> first | exact rfl | exact h11 | exact h13) hinc (by exact lfr_up vE (Nat.le_succ _)) (N := N) (by exact vN) k2) rfl (fun kv hk1 hkq => ?_)
            obtain ⟨hkv, ka, kb, rfl, hl⟩ := hkq
            rw [nm_find1 vN2, kf] at hkv hl
            have hkv : kv = nI j := hkv
            subst hkv
            refine xe_callVVq (d' := 5) (y' := mX10_tellLaw) dX10_tell_124 mlX10_265 mvX10_tellLaw rfl (st124 hs) (by decide) rfl (by decide) (by decide) (Nat.le_of_ble_eq_true rfl) (lr_inl kl (r_tellLaw_k l g _ (t := t + 2) (cc := cc) (bb := bb) (by exact (rs_k a rfl rfl rfl rfl rfl rfl rfl rfl rfl rfl rfl (by show t ≤ t + 2; omega) go2)) (k := j) (by omega) (by omega))) rfl (fun h1 hq => ?_)
            refine xe_goto (tgt := 231) dX10_tell_127 rfl ?_
            refine xe_return dX10_tell_231 rfl ?_
            exact ⟨rfl, rt_rf (by repeat (first | exact rt_r | refine rt_J ?_ | refine rt_w ?_ (by first | exact os_135 (by decide) | exact os_133 (by decide) | exact os_136 (by decide) (by omega) | exact os_140 (by omega)) | refine rt_f ?_ (fun k hk => by obtain ⟨y1, y2, y3, y4, y5, y6, y7, y8, y9, y10⟩ := os_124 hk; repeat (first | exact rfl | refine (pk_un (by assumption)).trans ?_)))) hq.1 (by omega) hb1, hq.2.2.2.2.1, hq.2.2.2.2.2.1, hq.2.2.2.2.2.2.1, hq.2.2.2.2.2.2.2.1⟩
          | inr x =>
            refine q_CtV mvX10_tell (Nat.le_of_ble_eq_true rfl) ?_
            refine xe_aload_n dX10_tell_0 rfl ?_
            refine xe_getP dX10_tell_1 flX10_20 (st124 hs) (by decide) rfl (sp124_5 hs) ?_
            refine xe_aload_n dX10_tell_4 rfl ?_
            refine xe_getIv dX10_tell_5 flX10_201 (st124 hs) (by decide) rfl (v := nI t) (h11) ?_
            refine xn_ialdv dX10_tell_8 (st127 hs) (by omega) (by decide) (v := nI 22) ((z3.trans (by rw [t22]))) ?_
            refine xe_tsw_in (tgt := 114) dX10_tell_9 (by decide) (by decide) rfl rfl ?_
            refine xe_aload_n dX10_tell_114 rfl ?_
            refine xe_callVV (d' := 1) (y' := mX10_goesOn) dX10_tell_115 mlX10_219 mvX10_goesOn rfl (st124 hs) (by decide) rfl (by decide) (by decide) (Nat.le_of_ble_eq_true rfl) (c_X10_goesOn_t l g _ (by exact hs) (t := t) (by exact h11) (by omega)) rfl ?_
            refine xe_aload_n dX10_tell_118 rfl ?_
            refine xe_aload_n dX10_tell_119 rfl ?_
            refine xe_iconst dX10_tell_120 kc_1 ?_
            refine xe_callVIn (d' := 3) (y' := mX10_known) dX10_tell_121 mlX10_262 mvX10_known rfl (st124 hs) (by decide) rfl (by decide) (by decide) (Nat.le_of_ble_eq_true rfl) (c_X10_known_1 l g _ (by exact hs) (t := t + 1) (by refine ⟨rt_Tc hT ?_ ?_ ?_ ?_, (by omega), ?_, ?_⟩ <;> first | exact rfl | exact h11 | exact h13) hinc (by exact lfr_up vE (Nat.le_succ _)) (N := N) (by exact vN) k2) rfl (fun kv hk1 hkq => ?_)
            obtain ⟨hkv, ka, kb, rfl, hl⟩ := hkq
            rw [nm_find1 vN2, kf] at hkv hl
            have hkv : kv = nI j := hkv
            subst hkv
            refine xe_callVVq (d' := 5) (y' := mX10_tellLaw) dX10_tell_124 mlX10_265 mvX10_tellLaw rfl (st124 hs) (by decide) rfl (by decide) (by decide) (Nat.le_of_ble_eq_true rfl) (lr_inr kl (r_tellLaw_k l g _ (t := t + 2) (cc := cc) (bb := bb) (by exact (rs_k a rfl rfl rfl rfl rfl rfl rfl rfl rfl rfl rfl (by show t ≤ t + 2; omega) go2)) (k := j) (by omega) (by omega))) rfl (fun h1 hq => ?_)
            obtain ⟨hm, cc9, bb9, hlr, rfl⟩ := hq
            refine xe_goto (tgt := 231) dX10_tell_127 rfl ?_
            refine xe_return dX10_tell_231 rfl ?_
            have a9 := hlr.2.1
            obtain ⟨p1, p2, p3, p4, p5, p6, p7, p8, p9, p10, p11⟩ := id a9
            have hx4 := p2.1.1
            have hxm := p2.2.1
            refine ⟨rfl, rt_w (rt_w (rt_rf (by repeat (first | exact rt_r | refine rt_J ?_ | refine rt_w ?_ (by first | exact os_135 (by decide) | exact os_133 (by decide) | exact os_136 (by decide) (by omega) | exact os_140 (by omega)) | refine rt_f ?_ (fun k hk => by obtain ⟨y1, y2, y3, y4, y5, y6, y7, y8, y9, y10⟩ := os_124 hk; repeat (first | exact rfl | refine (pk_un (by assumption)).trans ?_)))) hlr.1 (by omega) hb1) (os_142 (by decide) (by omega))) (os_142 (by decide) (by omega)), cc9, bb9, rs_k a9 rfl rfl rfl rfl rfl rfl rfl rfl rfl rfl p2.2.2.1 (Nat.le_refl _) hxm, hlr.2.2.1, ?_⟩
            show rv_V _ K sd x.2 cc9 bb9 (tx_putL s (tx_setL (ps_L s) 0 (some j) x.1) (tx_lf (ps_e s) false 4 (t + 1)))
            show rv_V _ K sd x.2 cc9 bb9 (tx_putL s (tx_up (ps_L s) (0 + j) (some x.1)) _)
            rw [Nat.zero_add]
            refine rv_lawk hV (by omega) (by omega) (by omega) ?_ ?_ ?_ hlr (lfr_up hl ?_) rfl
            · intro r a1
              repeat (first | exact rfl | refine (q_Ine (by assumption)).trans ?_)
            · rfl
            · rfl
            · exact Nat.le_of_lt (tx_law_lt kl)
        | none =>
          cases kl : tx_law K (t + 2) with
          | inl er =>
            refine q_CtV mvX10_tell (Nat.le_of_ble_eq_true rfl) ?_
            refine xe_aload_n dX10_tell_0 rfl ?_
            refine xe_getP dX10_tell_1 flX10_20 (st124 hs) (by decide) rfl (sp124_5 hs) ?_
            refine xe_aload_n dX10_tell_4 rfl ?_
            refine xe_getIv dX10_tell_5 flX10_201 (st124 hs) (by decide) rfl (v := nI t) (h11) ?_
            refine xn_ialdv dX10_tell_8 (st127 hs) (by omega) (by decide) (v := nI 22) ((z3.trans (by rw [t22]))) ?_
            refine xe_tsw_in (tgt := 114) dX10_tell_9 (by decide) (by decide) rfl rfl ?_
            refine xe_aload_n dX10_tell_114 rfl ?_
            refine xe_callVV (d' := 1) (y' := mX10_goesOn) dX10_tell_115 mlX10_219 mvX10_goesOn rfl (st124 hs) (by decide) rfl (by decide) (by decide) (Nat.le_of_ble_eq_true rfl) (c_X10_goesOn_t l g _ (by exact hs) (t := t) (by exact h11) (by omega)) rfl ?_
            refine xe_aload_n dX10_tell_118 rfl ?_
            refine xe_aload_n dX10_tell_119 rfl ?_
            refine xe_iconst dX10_tell_120 kc_1 ?_
            refine xe_callVIn (d' := 3) (y' := mX10_known) dX10_tell_121 mlX10_262 mvX10_known rfl (st124 hs) (by decide) rfl (by decide) (by decide) (Nat.le_of_ble_eq_true rfl) (c_X10_known_1 l g _ (by exact hs) (t := t + 1) (by refine ⟨rt_Tc hT ?_ ?_ ?_ ?_, (by omega), ?_, ?_⟩ <;> first | exact rfl | exact h11 | exact h13) hinc (by exact lfr_up vE (Nat.le_succ _)) (N := N) (by exact vN) k2) rfl (fun kv hk1 hkq => ?_)
            obtain ⟨hkv, ka, kb, rfl, hl⟩ := hkq
            rw [nm_find1 vN2, kf] at hkv hl
            have hkv : kv = (-1) := hkv
            subst hkv
            refine xe_callVVq (d' := 5) (y' := mX10_tellLaw) dX10_tell_124 mlX10_265 mvX10_tellLaw rfl (st124 hs) (by decide) rfl (by decide) (by decide) (Nat.le_of_ble_eq_true rfl) (lr_inl kl (r_tellLaw_n l g _ (t := t + 2) (cc := cc) (bb := bb) (by exact (rs_k a rfl rfl rfl rfl rfl rfl rfl rfl rfl rfl rfl (by show t ≤ t + 2; omega) go2)) (by omega))) rfl (fun h1 hq => ?_)
            refine xe_goto (tgt := 231) dX10_tell_127 rfl ?_
            refine xe_return dX10_tell_231 rfl ?_
            exact ⟨rfl, rt_rf (by repeat (first | exact rt_r | refine rt_J ?_ | refine rt_w ?_ (by first | exact os_135 (by decide) | exact os_133 (by decide) | exact os_136 (by decide) (by omega) | exact os_140 (by omega)) | refine rt_f ?_ (fun k hk => by obtain ⟨y1, y2, y3, y4, y5, y6, y7, y8, y9, y10⟩ := os_124 hk; repeat (first | exact rfl | refine (pk_un (by assumption)).trans ?_)))) hq.1 (by omega) hb1, hq.2.2.2.2.1, hq.2.2.2.2.2.1, hq.2.2.2.2.2.2.1, hq.2.2.2.2.2.2.2.1⟩
          | inr x =>
            refine q_CtV mvX10_tell (Nat.le_of_ble_eq_true rfl) ?_
            refine xe_aload_n dX10_tell_0 rfl ?_
            refine xe_getP dX10_tell_1 flX10_20 (st124 hs) (by decide) rfl (sp124_5 hs) ?_
            refine xe_aload_n dX10_tell_4 rfl ?_
            refine xe_getIv dX10_tell_5 flX10_201 (st124 hs) (by decide) rfl (v := nI t) (h11) ?_
            refine xn_ialdv dX10_tell_8 (st127 hs) (by omega) (by decide) (v := nI 22) ((z3.trans (by rw [t22]))) ?_
            refine xe_tsw_in (tgt := 114) dX10_tell_9 (by decide) (by decide) rfl rfl ?_
            refine xe_aload_n dX10_tell_114 rfl ?_
            refine xe_callVV (d' := 1) (y' := mX10_goesOn) dX10_tell_115 mlX10_219 mvX10_goesOn rfl (st124 hs) (by decide) rfl (by decide) (by decide) (Nat.le_of_ble_eq_true rfl) (c_X10_goesOn_t l g _ (by exact hs) (t := t) (by exact h11) (by omega)) rfl ?_
            refine xe_aload_n dX10_tell_118 rfl ?_
            refine xe_aload_n dX10_tell_119 rfl ?_
            refine xe_iconst dX10_tell_120 kc_1 ?_
            refine xe_callVIn (d' := 3) (y' := mX10_known) dX10_tell_121 mlX10_262 mvX10_known rfl (st124 hs) (by decide) rfl (by decide) (by decide) (Nat.le_of_ble_eq_true rfl) (c_X10_known_1 l g _ (by exact hs) (t := t + 1) (by refine ⟨rt_Tc hT ?_ ?_ ?_ ?_, (by omega), ?_, ?_⟩ <;> first | exact rfl | exact h11 | exact h13) hinc (by exact lfr_up vE (Nat.le_succ _)) (N := N) (by exact vN) k2) rfl (fun kv hk1 hkq => ?_)
            obtain ⟨hkv, ka, kb, rfl, hl⟩ := hkq
            rw [nm_find1 vN2, kf] at hkv hl
            have hkv : kv = (-1) := hkv
            subst hkv
            refine xe_callVVq (d' := 5) (y' := mX10_tellLaw) dX10_tell_124 mlX10_265 mvX10_tellLaw rfl (st124 hs) (by decide) rfl (by decide) (by decide) (Nat.le_of_ble_eq_true rfl) (lr_inr kl (r_tellLaw_n l g _ (t := t + 2) (cc := cc) (bb := bb) (by exact (rs_k a rfl rfl rfl rfl rfl rfl rfl rfl rfl rfl rfl (by show t ≤ t + 2; omega) go2)) (by omega))) rfl (fun h1 hq => ?_)
            obtain ⟨hm, cc9, bb9, hlr, rfl⟩ := hq
            refine xe_goto (tgt := 231) dX10_tell_127 rfl ?_
            refine xe_return dX10_tell_231 rfl ?_
            have a9 := hlr.2.1
            obtain ⟨p1, p2, p3, p4, p5, p6, p7, p8, p9, p10, p11⟩ := id a9
            refine ⟨rfl, rt_rf (by repeat (first | exact rt_r | refine rt_J ?_ | refine rt_w ?_ (by first | exact os_135 (by decide) | exact os_133 (by decide) | exact os_136 (by decide) (by omega) | exact os_140 (by omega)) | refine rt_f ?_ (fun k hk => by obtain ⟨y1, y2, y3, y4, y5, y6, y7, y8, y9, y10⟩ := os_124 hk; repeat (first | exact rfl | refine (pk_un (by assumption)).trans ?_)))) hlr.1 (by omega) hb1, cc9, bb9, a9, hlr.2.2.1, ?_⟩
            show rv_V _ K sd x.2 cc9 bb9 (tx_putL s (ps_L s) (tx_lf (ps_e s) true 4 (t + 1)))
            refine rv_lawn hV (by omega) ?_ ?_ ?_ hlr (lfr_up hl ?_)
            · intro r a1
              repeat (first | exact rfl | refine (q_Ine (by assumption)).trans ?_)
            · rfl
            · rfl
            · exact Nat.le_of_lt (tx_law_lt kl)
  rw [if_neg t22]
  by_cases t23 : tk_T K t = 23
  · rw [if_pos t23]
    unfold tx_plain
    by_cases h400 : 400 ≤ t
    · rw [tx_ck_2 t23 h400]
      refine q_CtV mvX10_tell (Nat.le_of_ble_eq_true rfl) ?_
      refine xe_aload_n dX10_tell_0 rfl ?_
      refine xe_getP dX10_tell_1 flX10_20 (st124 hs) (by decide) rfl (sp124_5 hs) ?_
      refine xe_aload_n dX10_tell_4 rfl ?_
      refine xe_getIv dX10_tell_5 flX10_201 (st124 hs) (by decide) rfl (v := nI t) (h11) ?_
      refine xn_ialdv dX10_tell_8 (st127 hs) (by omega) (by decide) (v := nI 23) ((z3.trans (by rw [t23]))) ?_
      refine xe_tsw_in (tgt := 159) dX10_tell_9 (by decide) (by decide) rfl rfl ?_
      refine xe_bipush dX10_tell_159 kb_16 ?_
      refine xe_aload_n dX10_tell_161 rfl ?_
      refine xe_getP dX10_tell_162 flX10_20 (st124 hs) (by decide) rfl (sp124_5 hs) ?_
      refine xe_aload_n dX10_tell_165 rfl ?_
      refine xe_getIv dX10_tell_166 flX10_201 (st124 hs) (by decide) rfl (v := nI t) (h11) ?_
      refine xn_ialdv dX10_tell_169 (st127 hs) (by omega) (by decide) (v := nI 23) ((z3.trans (by rw [t23]))) ?_
      refine xn_iadd dX10_tell_170 ?_
      refine xe_bipush dX10_tell_171 kb_23 ?_
      refine xn_isub dX10_tell_173 (by omega) ?_
      refine xe_istore_n (i := 1) dX10_tell_174 rfl (by decide) rfl ?_
      refine xe_aload_n dX10_tell_175 rfl ?_
      refine xe_callVV (d' := 1) (y' := mX10_goesOn) dX10_tell_176 mlX10_219 mvX10_goesOn rfl (st124 hs) (by decide) rfl (by decide) (by decide) (Nat.le_of_ble_eq_true rfl) (c_X10_goesOn_f l g _ (by exact hs) hR h400) rfl ?_
      refine xe_aload_n dX10_tell_179 rfl ?_
      refine xe_iload_n dX10_tell_180 rfl ?_
      refine xe_callVVq (d' := 5) (y' := mX10_tellLaw) dX10_tell_181 mlX10_265 mvX10_tellLaw rfl (st124 hs) (by decide) rfl (by decide) (by decide) (Nat.le_of_ble_eq_true rfl) (r_tellLaw_b l g (BB := bb) _ _ (by exact rs_f (e := (2, t)) a (show 1 ≤ 2 by decide) (show 2 ≤ 5 by decide)) (by exact h33) (by omega)) rfl (fun h1 hq => ?_)
      refine xe_goto (tgt := 231) dX10_tell_184 rfl ?_
      refine xe_return dX10_tell_231 rfl ?_
      exact ⟨rfl, rt_rf (by repeat (first | exact rt_r | refine rt_J ?_ | refine rt_w ?_ (by first | exact os_135 (by decide) | exact os_133 (by decide) | exact os_136 (by decide) (by omega) | exact os_140 (by omega)) | refine rt_f ?_ (fun k hk => by obtain ⟨y1, y2, y3, y4, y5, y6, y7, y8, y9, y10⟩ := os_124 hk; repeat (first | exact rfl | refine (pk_un (by assumption)).trans ?_)))) hq.1 (by omega) hb1, hq.2.2.2.2.1, hq.2.2.2.2.2.1, hq.2.2.2.2.2.2.1, hq.2.2.2.2.2.2.2.1⟩
    · have hck := tx_ck_0 t23 (show t < 400 by omega)
      have go1 := rt_gn hT htm hck (by decide)
      rw [hck]
      show q_Ct l g 6 mX10_tell _ h (q_rtA K m sd h (tx_r (tx_law K (t + 1)) _))
      cases kl : tx_law K (t + 1) with
      | inl er =>
        refine q_CtV mvX10_tell (Nat.le_of_ble_eq_true rfl) ?_
        refine xe_aload_n dX10_tell_0 rfl ?_
        refine xe_getP dX10_tell_1 flX10_20 (st124 hs) (by decide) rfl (sp124_5 hs) ?_
        refine xe_aload_n dX10_tell_4 rfl ?_
        refine xe_getIv dX10_tell_5 flX10_201 (st124 hs) (by decide) rfl (v := nI t) (h11) ?_
        refine xn_ialdv dX10_tell_8 (st127 hs) (by omega) (by decide) (v := nI 23) ((z3.trans (by rw [t23]))) ?_
        refine xe_tsw_in (tgt := 159) dX10_tell_9 (by decide) (by decide) rfl rfl ?_
        refine xe_bipush dX10_tell_159 kb_16 ?_
        refine xe_aload_n dX10_tell_161 rfl ?_
        refine xe_getP dX10_tell_162 flX10_20 (st124 hs) (by decide) rfl (sp124_5 hs) ?_
        refine xe_aload_n dX10_tell_165 rfl ?_
        refine xe_getIv dX10_tell_166 flX10_201 (st124 hs) (by decide) rfl (v := nI t) (h11) ?_
        refine xn_ialdv dX10_tell_169 (st127 hs) (by omega) (by decide) (v := nI 23) ((z3.trans (by rw [t23]))) ?_
        refine xn_iadd dX10_tell_170 ?_
        refine xe_bipush dX10_tell_171 kb_23 ?_
        refine xn_isub dX10_tell_173 (by omega) ?_
        refine xe_istore_n (i := 1) dX10_tell_174 rfl (by decide) rfl ?_
        refine xe_aload_n dX10_tell_175 rfl ?_
        refine xe_callVV (d' := 1) (y' := mX10_goesOn) dX10_tell_176 mlX10_219 mvX10_goesOn rfl (st124 hs) (by decide) rfl (by decide) (by decide) (Nat.le_of_ble_eq_true rfl) (c_X10_goesOn_t l g _ (by exact hs) (t := t) (by exact h11) (by omega)) rfl ?_
        refine xe_aload_n dX10_tell_179 rfl ?_
        refine xe_iload_n dX10_tell_180 rfl ?_
        refine xe_callVVq (d' := 5) (y' := mX10_tellLaw) dX10_tell_181 mlX10_265 mvX10_tellLaw rfl (st124 hs) (by decide) rfl (by decide) (by decide) (Nat.le_of_ble_eq_true rfl) (lr_inl kl (r_tellLaw_k l g _ (t := t + 1) (cc := cc) (bb := bb) (by exact (rs_k a rfl rfl rfl rfl rfl rfl rfl rfl rfl rfl rfl (Nat.le_succ _) go1)) (k := 16) (by decide) (by omega))) rfl (fun h1 hq => ?_)
        refine xe_goto (tgt := 231) dX10_tell_184 rfl ?_
        refine xe_return dX10_tell_231 rfl ?_
        exact ⟨rfl, rt_rf (by repeat (first | exact rt_r | refine rt_J ?_ | refine rt_w ?_ (by first | exact os_135 (by decide) | exact os_133 (by decide) | exact os_136 (by decide) (by omega) | exact os_140 (by omega)) | refine rt_f ?_ (fun k hk => by obtain ⟨y1, y2, y3, y4, y5, y6, y7, y8, y9, y10⟩ := os_124 hk; repeat (first | exact rfl | refine (pk_un (by assumption)).trans ?_)))) hq.1 (by omega) hb1, hq.2.2.2.2.1, hq.2.2.2.2.2.1, hq.2.2.2.2.2.2.1, hq.2.2.2.2.2.2.2.1⟩
      | inr x =>
        refine q_CtV mvX10_tell (Nat.le_of_ble_eq_true rfl) ?_
        refine xe_aload_n dX10_tell_0 rfl ?_
        refine xe_getP dX10_tell_1 flX10_20 (st124 hs) (by decide) rfl (sp124_5 hs) ?_
        refine xe_aload_n dX10_tell_4 rfl ?_
        refine xe_getIv dX10_tell_5 flX10_201 (st124 hs) (by decide) rfl (v := nI t) (h11) ?_
        refine xn_ialdv dX10_tell_8 (st127 hs) (by omega) (by decide) (v := nI 23) ((z3.trans (by rw [t23]))) ?_
        refine xe_tsw_in (tgt := 159) dX10_tell_9 (by decide) (by decide) rfl rfl ?_
        refine xe_bipush dX10_tell_159 kb_16 ?_
        refine xe_aload_n dX10_tell_161 rfl ?_
        refine xe_getP dX10_tell_162 flX10_20 (st124 hs) (by decide) rfl (sp124_5 hs) ?_
        refine xe_aload_n dX10_tell_165 rfl ?_
        refine xe_getIv dX10_tell_166 flX10_201 (st124 hs) (by decide) rfl (v := nI t) (h11) ?_
        refine xn_ialdv dX10_tell_169 (st127 hs) (by omega) (by decide) (v := nI 23) ((z3.trans (by rw [t23]))) ?_
        refine xn_iadd dX10_tell_170 ?_
        refine xe_bipush dX10_tell_171 kb_23 ?_
        refine xn_isub dX10_tell_173 (by omega) ?_
        refine xe_istore_n (i := 1) dX10_tell_174 rfl (by decide) rfl ?_
        refine xe_aload_n dX10_tell_175 rfl ?_
        refine xe_callVV (d' := 1) (y' := mX10_goesOn) dX10_tell_176 mlX10_219 mvX10_goesOn rfl (st124 hs) (by decide) rfl (by decide) (by decide) (Nat.le_of_ble_eq_true rfl) (c_X10_goesOn_t l g _ (by exact hs) (t := t) (by exact h11) (by omega)) rfl ?_
        refine xe_aload_n dX10_tell_179 rfl ?_
        refine xe_iload_n dX10_tell_180 rfl ?_
        refine xe_callVVq (d' := 5) (y' := mX10_tellLaw) dX10_tell_181 mlX10_265 mvX10_tellLaw rfl (st124 hs) (by decide) rfl (by decide) (by decide) (Nat.le_of_ble_eq_true rfl) (lr_inr kl (r_tellLaw_k l g _ (t := t + 1) (cc := cc) (bb := bb) (by exact (rs_k a rfl rfl rfl rfl rfl rfl rfl rfl rfl rfl rfl (Nat.le_succ _) go1)) (k := 16) (by decide) (by omega))) rfl (fun h1 hq => ?_)
        obtain ⟨hm, cc9, bb9, hlr, rfl⟩ := hq
        refine xe_goto (tgt := 231) dX10_tell_184 rfl ?_
        refine xe_return dX10_tell_231 rfl ?_
        have a9 := hlr.2.1
        obtain ⟨p1, p2, p3, p4, p5, p6, p7, p8, p9, p10, p11⟩ := id a9
        have hx4 := p2.1.1
        have hxm := p2.2.1
        refine ⟨rfl, rt_w (rt_w (rt_rf (by repeat (first | exact rt_r | refine rt_J ?_ | refine rt_w ?_ (by first | exact os_135 (by decide) | exact os_133 (by decide) | exact os_136 (by decide) (by omega) | exact os_140 (by omega)) | refine rt_f ?_ (fun k hk => by obtain ⟨y1, y2, y3, y4, y5, y6, y7, y8, y9, y10⟩ := os_124 hk; repeat (first | exact rfl | refine (pk_un (by assumption)).trans ?_)))) hlr.1 (by omega) hb1) (os_142 (by decide) (by decide))) (os_142 (by decide) (by decide)), cc9, bb9, rs_k a9 rfl rfl rfl rfl rfl rfl rfl rfl rfl rfl p2.2.2.1 (Nat.le_refl _) hxm, hlr.2.2.1, ?_⟩
        refine rv_lawk hV (by decide) (by omega) (by omega) ?_ ?_ ?_ hlr (lfr_up vE ?_) rfl
        · intro r a1
          repeat (first | exact rfl | refine (q_Ine (by assumption)).trans ?_)
        · rfl
        · rfl
        · have := tx_law_lt kl
          omega
  rw [if_neg t23]
  by_cases t24 : tk_T K t = 24
  · rw [if_pos t24]
    unfold tx_plain
    by_cases h400 : 400 ≤ t
    · rw [tx_ck_2 t24 h400]
      refine q_CtV mvX10_tell (Nat.le_of_ble_eq_true rfl) ?_
      refine xe_aload_n dX10_tell_0 rfl ?_
      refine xe_getP dX10_tell_1 flX10_20 (st124 hs) (by decide) rfl (sp124_5 hs) ?_
      refine xe_aload_n dX10_tell_4 rfl ?_
      refine xe_getIv dX10_tell_5 flX10_201 (st124 hs) (by decide) rfl (v := nI t) (h11) ?_
      refine xn_ialdv dX10_tell_8 (st127 hs) (by omega) (by decide) (v := nI 24) ((z3.trans (by rw [t24]))) ?_
      refine xe_tsw_in (tgt := 159) dX10_tell_9 (by decide) (by decide) rfl rfl ?_
      refine xe_bipush dX10_tell_159 kb_16 ?_
      refine xe_aload_n dX10_tell_161 rfl ?_
      refine xe_getP dX10_tell_162 flX10_20 (st124 hs) (by decide) rfl (sp124_5 hs) ?_
      refine xe_aload_n dX10_tell_165 rfl ?_
      refine xe_getIv dX10_tell_166 flX10_201 (st124 hs) (by decide) rfl (v := nI t) (h11) ?_
      refine xn_ialdv dX10_tell_169 (st127 hs) (by omega) (by decide) (v := nI 24) ((z3.trans (by rw [t24]))) ?_
      refine xn_iadd dX10_tell_170 ?_
      refine xe_bipush dX10_tell_171 kb_23 ?_
      refine xn_isub dX10_tell_173 (by omega) ?_
      refine xe_istore_n (i := 1) dX10_tell_174 rfl (by decide) rfl ?_
      refine xe_aload_n dX10_tell_175 rfl ?_
      refine xe_callVV (d' := 1) (y' := mX10_goesOn) dX10_tell_176 mlX10_219 mvX10_goesOn rfl (st124 hs) (by decide) rfl (by decide) (by decide) (Nat.le_of_ble_eq_true rfl) (c_X10_goesOn_f l g _ (by exact hs) hR h400) rfl ?_
      refine xe_aload_n dX10_tell_179 rfl ?_
      refine xe_iload_n dX10_tell_180 rfl ?_
      refine xe_callVVq (d' := 5) (y' := mX10_tellLaw) dX10_tell_181 mlX10_265 mvX10_tellLaw rfl (st124 hs) (by decide) rfl (by decide) (by decide) (Nat.le_of_ble_eq_true rfl) (r_tellLaw_b l g (BB := bb) _ _ (by exact rs_f (e := (2, t)) a (show 1 ≤ 2 by decide) (show 2 ≤ 5 by decide)) (by exact h33) (by omega)) rfl (fun h1 hq => ?_)
      refine xe_goto (tgt := 231) dX10_tell_184 rfl ?_
      refine xe_return dX10_tell_231 rfl ?_
      exact ⟨rfl, rt_rf (by repeat (first | exact rt_r | refine rt_J ?_ | refine rt_w ?_ (by first | exact os_135 (by decide) | exact os_133 (by decide) | exact os_136 (by decide) (by omega) | exact os_140 (by omega)) | refine rt_f ?_ (fun k hk => by obtain ⟨y1, y2, y3, y4, y5, y6, y7, y8, y9, y10⟩ := os_124 hk; repeat (first | exact rfl | refine (pk_un (by assumption)).trans ?_)))) hq.1 (by omega) hb1, hq.2.2.2.2.1, hq.2.2.2.2.2.1, hq.2.2.2.2.2.2.1, hq.2.2.2.2.2.2.2.1⟩
    · have hck := tx_ck_0 t24 (show t < 400 by omega)
      have go1 := rt_gn hT htm hck (by decide)
      rw [hck]
      show q_Ct l g 6 mX10_tell _ h (q_rtA K m sd h (tx_r (tx_law K (t + 1)) _))
      cases kl : tx_law K (t + 1) with
      | inl er =>
        refine q_CtV mvX10_tell (Nat.le_of_ble_eq_true rfl) ?_
        refine xe_aload_n dX10_tell_0 rfl ?_
        refine xe_getP dX10_tell_1 flX10_20 (st124 hs) (by decide) rfl (sp124_5 hs) ?_
        refine xe_aload_n dX10_tell_4 rfl ?_
        refine xe_getIv dX10_tell_5 flX10_201 (st124 hs) (by decide) rfl (v := nI t) (h11) ?_
        refine xn_ialdv dX10_tell_8 (st127 hs) (by omega) (by decide) (v := nI 24) ((z3.trans (by rw [t24]))) ?_
        refine xe_tsw_in (tgt := 159) dX10_tell_9 (by decide) (by decide) rfl rfl ?_
        refine xe_bipush dX10_tell_159 kb_16 ?_
        refine xe_aload_n dX10_tell_161 rfl ?_
        refine xe_getP dX10_tell_162 flX10_20 (st124 hs) (by decide) rfl (sp124_5 hs) ?_
        refine xe_aload_n dX10_tell_165 rfl ?_
        refine xe_getIv dX10_tell_166 flX10_201 (st124 hs) (by decide) rfl (v := nI t) (h11) ?_
        refine xn_ialdv dX10_tell_169 (st127 hs) (by omega) (by decide) (v := nI 24) ((z3.trans (by rw [t24]))) ?_
        refine xn_iadd dX10_tell_170 ?_
        refine xe_bipush dX10_tell_171 kb_23 ?_
        refine xn_isub dX10_tell_173 (by omega) ?_
        refine xe_istore_n (i := 1) dX10_tell_174 rfl (by decide) rfl ?_
        refine xe_aload_n dX10_tell_175 rfl ?_
        refine xe_callVV (d' := 1) (y' := mX10_goesOn) dX10_tell_176 mlX10_219 mvX10_goesOn rfl (st124 hs) (by decide) rfl (by decide) (by decide) (Nat.le_of_ble_eq_true rfl) (c_X10_goesOn_t l g _ (by exact hs) (t := t) (by exact h11) (by omega)) rfl ?_
        refine xe_aload_n dX10_tell_179 rfl ?_
        refine xe_iload_n dX10_tell_180 rfl ?_
        refine xe_callVVq (d' := 5) (y' := mX10_tellLaw) dX10_tell_181 mlX10_265 mvX10_tellLaw rfl (st124 hs) (by decide) rfl (by decide) (by decide) (Nat.le_of_ble_eq_true rfl) (lr_inl kl (r_tellLaw_k l g _ (t := t + 1) (cc := cc) (bb := bb) (by exact (rs_k a rfl rfl rfl rfl rfl rfl rfl rfl rfl rfl rfl (Nat.le_succ _) go1)) (k := 17) (by decide) (by omega))) rfl (fun h1 hq => ?_)
        refine xe_goto (tgt := 231) dX10_tell_184 rfl ?_
        refine xe_return dX10_tell_231 rfl ?_
        exact ⟨rfl, rt_rf (by repeat (first | exact rt_r | refine rt_J ?_ | refine rt_w ?_ (by first | exact os_135 (by decide) | exact os_133 (by decide) | exact os_136 (by decide) (by omega) | exact os_140 (by omega)) | refine rt_f ?_ (fun k hk => by obtain ⟨y1, y2, y3, y4, y5, y6, y7, y8, y9, y10⟩ := os_124 hk; repeat (first | exact rfl | refine (pk_un (by assumption)).trans ?_)))) hq.1 (by omega) hb1, hq.2.2.2.2.1, hq.2.2.2.2.2.1, hq.2.2.2.2.2.2.1, hq.2.2.2.2.2.2.2.1⟩
      | inr x =>
        refine q_CtV mvX10_tell (Nat.le_of_ble_eq_true rfl) ?_
        refine xe_aload_n dX10_tell_0 rfl ?_
        refine xe_getP dX10_tell_1 flX10_20 (st124 hs) (by decide) rfl (sp124_5 hs) ?_
        refine xe_aload_n dX10_tell_4 rfl ?_
        refine xe_getIv dX10_tell_5 flX10_201 (st124 hs) (by decide) rfl (v := nI t) (h11) ?_
        refine xn_ialdv dX10_tell_8 (st127 hs) (by omega) (by decide) (v := nI 24) ((z3.trans (by rw [t24]))) ?_
        refine xe_tsw_in (tgt := 159) dX10_tell_9 (by decide) (by decide) rfl rfl ?_
        refine xe_bipush dX10_tell_159 kb_16 ?_
        refine xe_aload_n dX10_tell_161 rfl ?_
        refine xe_getP dX10_tell_162 flX10_20 (st124 hs) (by decide) rfl (sp124_5 hs) ?_
        refine xe_aload_n dX10_tell_165 rfl ?_
        refine xe_getIv dX10_tell_166 flX10_201 (st124 hs) (by decide) rfl (v := nI t) (h11) ?_
        refine xn_ialdv dX10_tell_169 (st127 hs) (by omega) (by decide) (v := nI 24) ((z3.trans (by rw [t24]))) ?_
        refine xn_iadd dX10_tell_170 ?_
        refine xe_bipush dX10_tell_171 kb_23 ?_
        refine xn_isub dX10_tell_173 (by omega) ?_
        refine xe_istore_n (i := 1) dX10_tell_174 rfl (by decide) rfl ?_
        refine xe_aload_n dX10_tell_175 rfl ?_
        refine xe_callVV (d' := 1) (y' := mX10_goesOn) dX10_tell_176 mlX10_219 mvX10_goesOn rfl (st124 hs) (by decide) rfl (by decide) (by decide) (Nat.le_of_ble_eq_true rfl) (c_X10_goesOn_t l g _ (by exact hs) (t := t) (by exact h11) (by omega)) rfl ?_
        refine xe_aload_n dX10_tell_179 rfl ?_
        refine xe_iload_n dX10_tell_180 rfl ?_
        refine xe_callVVq (d' := 5) (y' := mX10_tellLaw) dX10_tell_181 mlX10_265 mvX10_tellLaw rfl (st124 hs) (by decide) rfl (by decide) (by decide) (Nat.le_of_ble_eq_true rfl) (lr_inr kl (r_tellLaw_k l g _ (t := t + 1) (cc := cc) (bb := bb) (by exact (rs_k a rfl rfl rfl rfl rfl rfl rfl rfl rfl rfl rfl (Nat.le_succ _) go1)) (k := 17) (by decide) (by omega))) rfl (fun h1 hq => ?_)
        obtain ⟨hm, cc9, bb9, hlr, rfl⟩ := hq
        refine xe_goto (tgt := 231) dX10_tell_184 rfl ?_
        refine xe_return dX10_tell_231 rfl ?_
        have a9 := hlr.2.1
        obtain ⟨p1, p2, p3, p4, p5, p6, p7, p8, p9, p10, p11⟩ := id a9
        have hx4 := p2.1.1
        have hxm := p2.2.1
        refine ⟨rfl, rt_w (rt_w (rt_rf (by repeat (first | exact rt_r | refine rt_J ?_ | refine rt_w ?_ (by first | exact os_135 (by decide) | exact os_133 (by decide) | exact os_136 (by decide) (by omega) | exact os_140 (by omega)) | refine rt_f ?_ (fun k hk => by obtain ⟨y1, y2, y3, y4, y5, y6, y7, y8, y9, y10⟩ := os_124 hk; repeat (first | exact rfl | refine (pk_un (by assumption)).trans ?_)))) hlr.1 (by omega) hb1) (os_142 (by decide) (by decide))) (os_142 (by decide) (by decide)), cc9, bb9, rs_k a9 rfl rfl rfl rfl rfl rfl rfl rfl rfl rfl p2.2.2.1 (Nat.le_refl _) hxm, hlr.2.2.1, ?_⟩
        refine rv_lawk hV (by decide) (by omega) (by omega) ?_ ?_ ?_ hlr (lfr_up vE ?_) rfl
        · intro r a1
          repeat (first | exact rfl | refine (q_Ine (by assumption)).trans ?_)
        · rfl
        · rfl
        · have := tx_law_lt kl
          omega
  rw [if_neg t24]
  by_cases t25 : tk_T K t = 25
  · rw [if_pos t25]
    unfold tx_named
    by_cases h400 : 400 ≤ t
    · rw [tx_ck_2 t25 h400]
      refine q_CtV mvX10_tell (Nat.le_of_ble_eq_true rfl) ?_
      refine xe_aload_n dX10_tell_0 rfl ?_
      refine xe_getP dX10_tell_1 flX10_20 (st124 hs) (by decide) rfl (sp124_5 hs) ?_
      refine xe_aload_n dX10_tell_4 rfl ?_
      refine xe_getIv dX10_tell_5 flX10_201 (st124 hs) (by decide) rfl (v := nI t) (h11) ?_
      refine xn_ialdv dX10_tell_8 (st127 hs) (by omega) (by decide) (v := nI 25) ((z3.trans (by rw [t25]))) ?_
      refine xe_tsw_in (tgt := 130) dX10_tell_9 (by decide) (by decide) rfl rfl ?_
      refine xe_aload_n dX10_tell_130 rfl ?_
      refine xe_callVV (d' := 1) (y' := mX10_goesOn) dX10_tell_131 mlX10_219 mvX10_goesOn rfl (st124 hs) (by decide) rfl (by decide) (by decide) (Nat.le_of_ble_eq_true rfl) (c_X10_goesOn_f l g _ (by exact hs) hR h400) rfl ?_
      refine xe_aload_n dX10_tell_134 rfl ?_
      refine xe_iconst dX10_tell_135 kc_0 ?_
      refine xe_callVI (d' := 3) (y' := mX10_known) dX10_tell_136 mlX10_262 mvX10_known rfl (st124 hs) (by decide) rfl (by decide) (by decide) (Nat.le_of_ble_eq_true rfl) (c_X10_known_b l g _ (by exact hs) (f := 2) (by exact rfl) (by decide) (by decide) (t := t) (by exact h11) _) rfl ?_
      refine xe_istore_n (i := 1) dX10_tell_139 rfl (by decide) rfl ?_
      refine xe_aload_n dX10_tell_140 rfl ?_
      refine xe_iload_n dX10_tell_141 rfl ?_
      refine xe_if_ge (tgt := 149) dX10_tell_142 rfl (fun c1 => ?_) (fun c1 => ?_)
      · exact absurd c1 (by decide)
      · refine xe_iconst dX10_tell_145 kc_m1 ?_
        refine xe_goto (tgt := 153) dX10_tell_146 rfl ?_
        refine xe_callVVq (d' := 5) (y' := mX10_tellLaw) dX10_tell_153 mlX10_265 mvX10_tellLaw rfl (st124 hs) (by decide) rfl (by decide) (by decide) (Nat.le_of_ble_eq_true rfl) (r_tellLaw_b l g (BB := bb) (-1) _ (by exact rs_f (e := (2, t)) a (show 1 ≤ 2 by decide) (show 2 ≤ 5 by decide)) (by exact h33) (by omega)) rfl (fun h1 hq => ?_)
        refine xe_goto (tgt := 231) dX10_tell_156 rfl ?_
        refine xe_return dX10_tell_231 rfl ?_
        exact ⟨rfl, rt_rf (by repeat (first | exact rt_r | refine rt_J ?_ | refine rt_w ?_ (by first | exact os_135 (by decide) | exact os_133 (by decide) | exact os_136 (by decide) (by omega) | exact os_140 (by omega)) | refine rt_f ?_ (fun k hk => by obtain ⟨y1, y2, y3, y4, y5, y6, y7, y8, y9, y10⟩ := os_124 hk; repeat (first | exact rfl | refine (pk_un (by assumption)).trans ?_)))) hq.1 (by omega) hb1, hq.2.2.2.2.1, hq.2.2.2.2.2.1, hq.2.2.2.2.2.2.1, hq.2.2.2.2.2.2.2.1⟩
    · have hck := tx_ck_0 t25 (show t < 400 by omega)
      have go1 := rt_gn hT htm hck (by decide)
      rw [hck]
      show q_Ct l g 6 mX10_tell _ h (q_rtA K m sd h (tx_b (tx_ck (tk_T K) 1 (t + 1)) _))
      cases k2 : tx_ck (tk_T K) 1 (t + 1) with
      | some er =>
        have he := ck_15 k2
        refine q_CtV mvX10_tell (Nat.le_of_ble_eq_true rfl) ?_
        refine xe_aload_n dX10_tell_0 rfl ?_
        refine xe_getP dX10_tell_1 flX10_20 (st124 hs) (by decide) rfl (sp124_5 hs) ?_
        refine xe_aload_n dX10_tell_4 rfl ?_
        refine xe_getIv dX10_tell_5 flX10_201 (st124 hs) (by decide) rfl (v := nI t) (h11) ?_
        refine xn_ialdv dX10_tell_8 (st127 hs) (by omega) (by decide) (v := nI 25) ((z3.trans (by rw [t25]))) ?_
        refine xe_tsw_in (tgt := 130) dX10_tell_9 (by decide) (by decide) rfl rfl ?_
        refine xe_aload_n dX10_tell_130 rfl ?_
        refine xe_callVV (d' := 1) (y' := mX10_goesOn) dX10_tell_131 mlX10_219 mvX10_goesOn rfl (st124 hs) (by decide) rfl (by decide) (by decide) (Nat.le_of_ble_eq_true rfl) (c_X10_goesOn_t l g _ (by exact hs) (t := t) (by exact h11) (by omega)) rfl ?_
        refine xe_aload_n dX10_tell_134 rfl ?_
        refine xe_iconst dX10_tell_135 kc_0 ?_
        refine xe_callVI (d' := 3) (y' := mX10_known) dX10_tell_136 mlX10_262 mvX10_known rfl (st124 hs) (by decide) rfl (by decide) (by decide) (Nat.le_of_ble_eq_true rfl) (c_X10_known_f l g _ (by exact hs) (t := t + 1) (by refine ⟨rt_Tc hT ?_ ?_ ?_ ?_, (by omega), ?_, ?_⟩ <;> first | exact rfl | exact h11 | exact h13) k2 _) rfl ?_
        refine xe_istore_n (i := 1) dX10_tell_139 rfl (by decide) rfl ?_
        refine xe_aload_n dX10_tell_140 rfl ?_
        refine xe_iload_n dX10_tell_141 rfl ?_
        refine xe_if_ge (tgt := 149) dX10_tell_142 rfl (fun c1 => ?_) (fun c1 => ?_)
        · exact absurd c1 (by decide)
        · refine xe_iconst dX10_tell_145 kc_m1 ?_
          refine xe_goto (tgt := 153) dX10_tell_146 rfl ?_
          refine xe_callVVq (d' := 5) (y' := mX10_tellLaw) dX10_tell_153 mlX10_265 mvX10_tellLaw rfl (st124 hs) (by decide) rfl (by decide) (by decide) (Nat.le_of_ble_eq_true rfl) (r_tellLaw_b l g (BB := bb) (-1) _ (by exact rs_f (e := er) (rs_k a rfl rfl rfl rfl rfl rfl rfl rfl rfl rfl rfl (Nat.le_succ _) go1) he.1 he.2) (by exact h33) (by omega)) rfl (fun h1 hq => ?_)
          refine xe_goto (tgt := 231) dX10_tell_156 rfl ?_
          refine xe_return dX10_tell_231 rfl ?_
          exact ⟨rfl, rt_rf (by repeat (first | exact rt_r | refine rt_J ?_ | refine rt_w ?_ (by first | exact os_135 (by decide) | exact os_133 (by decide) | exact os_136 (by decide) (by omega) | exact os_140 (by omega)) | refine rt_f ?_ (fun k hk => by obtain ⟨y1, y2, y3, y4, y5, y6, y7, y8, y9, y10⟩ := os_124 hk; repeat (first | exact rfl | refine (pk_un (by assumption)).trans ?_)))) hq.1 (by omega) hb1, hq.2.2.2.2.1, hq.2.2.2.2.2.1, hq.2.2.2.2.2.2.1, hq.2.2.2.2.2.2.2.1⟩
      | none =>
        have go2 := rt_gn hT go1 k2 (by decide)
        show q_Ct l g 6 mX10_tell _ h (q_rtA K m sd h (tx_r (tx_law K (t + 2)) _))
        cases kf : tx_find (tk_N K (t + 1)) (ps_m s) 0 with
        | some j =>
          have kj := tx_find_lt _ 0 j kf
          cases kl : tx_law K (t + 2) with
          | inl er =>
            refine q_CtV mvX10_tell (Nat.le_of_ble_eq_true rfl) ?_
            refine xe_aload_n dX10_tell_0 rfl ?_
            refine xe_getP dX10_tell_1 flX10_20 (st124 hs) (by decide) rfl (sp124_5 hs) ?_
            refine xe_aload_n dX10_tell_4 rfl ?_
            refine xe_getIv dX10_tell_5 flX10_201 (st124 hs) (by decide) rfl (v := nI t) (h11) ?_
            refine xn_ialdv dX10_tell_8 (st127 hs) (by omega) (by decide) (v := nI 25) ((z3.trans (by rw [t25]))) ?_
            refine xe_tsw_in (tgt := 130) dX10_tell_9 (by decide) (by decide) rfl rfl ?_
            refine xe_aload_n dX10_tell_130 rfl ?_
            refine xe_callVV (d' := 1) (y' := mX10_goesOn) dX10_tell_131 mlX10_219 mvX10_goesOn rfl (st124 hs) (by decide) rfl (by decide) (by decide) (Nat.le_of_ble_eq_true rfl) (c_X10_goesOn_t l g _ (by exact hs) (t := t) (by exact h11) (by omega)) rfl ?_
            refine xe_aload_n dX10_tell_134 rfl ?_
            refine xe_iconst dX10_tell_135 kc_0 ?_
            refine xe_callVIn (d' := 3) (y' := mX10_known) dX10_tell_136 mlX10_262 mvX10_known rfl (st124 hs) (by decide) rfl (by decide) (by decide) (Nat.le_of_ble_eq_true rfl) (c_X10_known_0 l g _ (by exact hs) (t := t + 1) (by refine ⟨rt_Tc hT ?_ ?_ ?_ ?_, (by omega), ?_, ?_⟩ <;> first | exact rfl | exact h11 | exact h13) hinc (by exact lfr_up vE (Nat.le_succ _)) (N := N) (by exact vN) k2) rfl (fun kv hk1 hkq => ?_)
            obtain ⟨hkv, ka, kb, rfl, hl⟩ := hkq
            rw [nm_find0 vN2, kf] at hkv hl
            have hkv : kv = nI j := hkv
            subst hkv
            refine xe_istore_n (i := 1) dX10_tell_139 rfl (by decide) rfl ?_
            refine xe_aload_n dX10_tell_140 rfl ?_
            refine xe_iload_n dX10_tell_141 rfl ?_
            refine xn_if_ge (tgt := 149) dX10_tell_142 rfl (by omega) ?_
            refine xe_bipush dX10_tell_149 kb_8 ?_
            refine xe_iload_n dX10_tell_151 rfl ?_
            refine xn_iadd dX10_tell_152 ?_
            refine xe_callVVq (d' := 5) (y' := mX10_tellLaw) dX10_tell_153 mlX10_265 mvX10_tellLaw rfl (st124 hs) (by decide) rfl (by decide) (by decide) (Nat.le_of_ble_eq_true rfl) (lr_inl kl (r_tellLaw_k l g _ (t := t + 2) (cc := cc) (bb := bb) (by exact (rs_k a rfl rfl rfl rfl rfl rfl rfl rfl rfl rfl rfl (by show t ≤ t + 2; omega) go2)) (k := (8 + j)) (by omega) (by omega))) rfl (fun h1 hq => ?_)
            refine xe_goto (tgt := 231) dX10_tell_156 rfl ?_
            refine xe_return dX10_tell_231 rfl ?_
            exact ⟨rfl, rt_rf (by repeat (first | exact rt_r | refine rt_J ?_ | refine rt_w ?_ (by first | exact os_135 (by decide) | exact os_133 (by decide) | exact os_136 (by decide) (by omega) | exact os_140 (by omega)) | refine rt_f ?_ (fun k hk => by obtain ⟨y1, y2, y3, y4, y5, y6, y7, y8, y9, y10⟩ := os_124 hk; repeat (first | exact rfl | refine (pk_un (by assumption)).trans ?_)))) hq.1 (by omega) hb1, hq.2.2.2.2.1, hq.2.2.2.2.2.1, hq.2.2.2.2.2.2.1, hq.2.2.2.2.2.2.2.1⟩
          | inr x =>
            refine q_CtV mvX10_tell (Nat.le_of_ble_eq_true rfl) ?_
            refine xe_aload_n dX10_tell_0 rfl ?_
            refine xe_getP dX10_tell_1 flX10_20 (st124 hs) (by decide) rfl (sp124_5 hs) ?_
            refine xe_aload_n dX10_tell_4 rfl ?_
            refine xe_getIv dX10_tell_5 flX10_201 (st124 hs) (by decide) rfl (v := nI t) (h11) ?_
            refine xn_ialdv dX10_tell_8 (st127 hs) (by omega) (by decide) (v := nI 25) ((z3.trans (by rw [t25]))) ?_
            refine xe_tsw_in (tgt := 130) dX10_tell_9 (by decide) (by decide) rfl rfl ?_
            refine xe_aload_n dX10_tell_130 rfl ?_
            refine xe_callVV (d' := 1) (y' := mX10_goesOn) dX10_tell_131 mlX10_219 mvX10_goesOn rfl (st124 hs) (by decide) rfl (by decide) (by decide) (Nat.le_of_ble_eq_true rfl) (c_X10_goesOn_t l g _ (by exact hs) (t := t) (by exact h11) (by omega)) rfl ?_
            refine xe_aload_n dX10_tell_134 rfl ?_
            refine xe_iconst dX10_tell_135 kc_0 ?_
            refine xe_callVIn (d' := 3) (y' := mX10_known) dX10_tell_136 mlX10_262 mvX10_known rfl (st124 hs) (by decide) rfl (by decide) (by decide) (Nat.le_of_ble_eq_true rfl) (c_X10_known_0 l g _ (by exact hs) (t := t + 1) (by refine ⟨rt_Tc hT ?_ ?_ ?_ ?_, (by omega), ?_, ?_⟩ <;> first | exact rfl | exact h11 | exact h13) hinc (by exact lfr_up vE (Nat.le_succ _)) (N := N) (by exact vN) k2) rfl (fun kv hk1 hkq => ?_)
            obtain ⟨hkv, ka, kb, rfl, hl⟩ := hkq
            rw [nm_find0 vN2, kf] at hkv hl
            have hkv : kv = nI j := hkv
            subst hkv
            refine xe_istore_n (i := 1) dX10_tell_139 rfl (by decide) rfl ?_
            refine xe_aload_n dX10_tell_140 rfl ?_
            refine xe_iload_n dX10_tell_141 rfl ?_
            refine xn_if_ge (tgt := 149) dX10_tell_142 rfl (by omega) ?_
            refine xe_bipush dX10_tell_149 kb_8 ?_
            refine xe_iload_n dX10_tell_151 rfl ?_
            refine xn_iadd dX10_tell_152 ?_
            refine xe_callVVq (d' := 5) (y' := mX10_tellLaw) dX10_tell_153 mlX10_265 mvX10_tellLaw rfl (st124 hs) (by decide) rfl (by decide) (by decide) (Nat.le_of_ble_eq_true rfl) (lr_inr kl (r_tellLaw_k l g _ (t := t + 2) (cc := cc) (bb := bb) (by exact (rs_k a rfl rfl rfl rfl rfl rfl rfl rfl rfl rfl rfl (by show t ≤ t + 2; omega) go2)) (k := (8 + j)) (by omega) (by omega))) rfl (fun h1 hq => ?_)
            obtain ⟨hm, cc9, bb9, hlr, rfl⟩ := hq
            refine xe_goto (tgt := 231) dX10_tell_156 rfl ?_
            refine xe_return dX10_tell_231 rfl ?_
            have a9 := hlr.2.1
            obtain ⟨p1, p2, p3, p4, p5, p6, p7, p8, p9, p10, p11⟩ := id a9
            have hx4 := p2.1.1
            have hxm := p2.2.1
            refine ⟨rfl, rt_w (rt_w (rt_rf (by repeat (first | exact rt_r | refine rt_J ?_ | refine rt_w ?_ (by first | exact os_135 (by decide) | exact os_133 (by decide) | exact os_136 (by decide) (by omega) | exact os_140 (by omega)) | refine rt_f ?_ (fun k hk => by obtain ⟨y1, y2, y3, y4, y5, y6, y7, y8, y9, y10⟩ := os_124 hk; repeat (first | exact rfl | refine (pk_un (by assumption)).trans ?_)))) hlr.1 (by omega) hb1) (os_142 (by decide) (by omega))) (os_142 (by decide) (by omega)), cc9, bb9, rs_k a9 rfl rfl rfl rfl rfl rfl rfl rfl rfl rfl p2.2.2.1 (Nat.le_refl _) hxm, hlr.2.2.1, ?_⟩
            show rv_V _ K sd x.2 cc9 bb9 (tx_putL s (tx_setL (ps_L s) 8 (some j) x.1) (tx_lf (ps_e s) false 4 (t + 1)))
            show rv_V _ K sd x.2 cc9 bb9 (tx_putL s (tx_up (ps_L s) (8 + j) (some x.1)) _)
            refine rv_lawk hV (by omega) (by omega) (by omega) ?_ ?_ ?_ hlr (lfr_up hl ?_) rfl
            · intro r a1
              repeat (first | exact rfl | refine (q_Ine (by assumption)).trans ?_)
            · rfl
            · rfl
            · exact Nat.le_of_lt (tx_law_lt kl)
        | none =>
          cases kl : tx_law K (t + 2) with
          | inl er =>
            refine q_CtV mvX10_tell (Nat.le_of_ble_eq_true rfl) ?_
            refine xe_aload_n dX10_tell_0 rfl ?_
            refine xe_getP dX10_tell_1 flX10_20 (st124 hs) (by decide) rfl (sp124_5 hs) ?_
            refine xe_aload_n dX10_tell_4 rfl ?_
            refine xe_getIv dX10_tell_5 flX10_201 (st124 hs) (by decide) rfl (v := nI t) (h11) ?_
            refine xn_ialdv dX10_tell_8 (st127 hs) (by omega) (by decide) (v := nI 25) ((z3.trans (by rw [t25]))) ?_
            refine xe_tsw_in (tgt := 130) dX10_tell_9 (by decide) (by decide) rfl rfl ?_
            refine xe_aload_n dX10_tell_130 rfl ?_
            refine xe_callVV (d' := 1) (y' := mX10_goesOn) dX10_tell_131 mlX10_219 mvX10_goesOn rfl (st124 hs) (by decide) rfl (by decide) (by decide) (Nat.le_of_ble_eq_true rfl) (c_X10_goesOn_t l g _ (by exact hs) (t := t) (by exact h11) (by omega)) rfl ?_
            refine xe_aload_n dX10_tell_134 rfl ?_
            refine xe_iconst dX10_tell_135 kc_0 ?_
            refine xe_callVIn (d' := 3) (y' := mX10_known) dX10_tell_136 mlX10_262 mvX10_known rfl (st124 hs) (by decide) rfl (by decide) (by decide) (Nat.le_of_ble_eq_true rfl) (c_X10_known_0 l g _ (by exact hs) (t := t + 1) (by refine ⟨rt_Tc hT ?_ ?_ ?_ ?_, (by omega), ?_, ?_⟩ <;> first | exact rfl | exact h11 | exact h13) hinc (by exact lfr_up vE (Nat.le_succ _)) (N := N) (by exact vN) k2) rfl (fun kv hk1 hkq => ?_)
            obtain ⟨hkv, ka, kb, rfl, hl⟩ := hkq
            rw [nm_find0 vN2, kf] at hkv hl
            have hkv : kv = (-1) := hkv
            subst hkv
            refine xe_istore_n (i := 1) dX10_tell_139 rfl (by decide) rfl ?_
            refine xe_aload_n dX10_tell_140 rfl ?_
            refine xe_iload_n dX10_tell_141 rfl ?_
            refine xe_if_ge (tgt := 149) dX10_tell_142 rfl (fun c1 => ?_) (fun c1 => ?_)
            · exact absurd c1 (by decide)
            · refine xe_iconst dX10_tell_145 kc_m1 ?_
              refine xe_goto (tgt := 153) dX10_tell_146 rfl ?_
              refine xe_callVVq (d' := 5) (y' := mX10_tellLaw) dX10_tell_153 mlX10_265 mvX10_tellLaw rfl (st124 hs) (by decide) rfl (by decide) (by decide) (Nat.le_of_ble_eq_true rfl) (lr_inl kl (r_tellLaw_n l g _ (t := t + 2) (cc := cc) (bb := bb) (by exact (rs_k a rfl rfl rfl rfl rfl rfl rfl rfl rfl rfl rfl (by show t ≤ t + 2; omega) go2)) (by omega))) rfl (fun h1 hq => ?_)
              refine xe_goto (tgt := 231) dX10_tell_156 rfl ?_
              refine xe_return dX10_tell_231 rfl ?_
              exact ⟨rfl, rt_rf (by repeat (first | exact rt_r | refine rt_J ?_ | refine rt_w ?_ (by first | exact os_135 (by decide) | exact os_133 (by decide) | exact os_136 (by decide) (by omega) | exact os_140 (by omega)) | refine rt_f ?_ (fun k hk => by obtain ⟨y1, y2, y3, y4, y5, y6, y7, y8, y9, y10⟩ := os_124 hk; repeat (first | exact rfl | refine (pk_un (by assumption)).trans ?_)))) hq.1 (by omega) hb1, hq.2.2.2.2.1, hq.2.2.2.2.2.1, hq.2.2.2.2.2.2.1, hq.2.2.2.2.2.2.2.1⟩
          | inr x =>
            refine q_CtV mvX10_tell (Nat.le_of_ble_eq_true rfl) ?_
            refine xe_aload_n dX10_tell_0 rfl ?_
            refine xe_getP dX10_tell_1 flX10_20 (st124 hs) (by decide) rfl (sp124_5 hs) ?_
            refine xe_aload_n dX10_tell_4 rfl ?_
            refine xe_getIv dX10_tell_5 flX10_201 (st124 hs) (by decide) rfl (v := nI t) (h11) ?_
            refine xn_ialdv dX10_tell_8 (st127 hs) (by omega) (by decide) (v := nI 25) ((z3.trans (by rw [t25]))) ?_
            refine xe_tsw_in (tgt := 130) dX10_tell_9 (by decide) (by decide) rfl rfl ?_
            refine xe_aload_n dX10_tell_130 rfl ?_
            refine xe_callVV (d' := 1) (y' := mX10_goesOn) dX10_tell_131 mlX10_219 mvX10_goesOn rfl (st124 hs) (by decide) rfl (by decide) (by decide) (Nat.le_of_ble_eq_true rfl) (c_X10_goesOn_t l g _ (by exact hs) (t := t) (by exact h11) (by omega)) rfl ?_
            refine xe_aload_n dX10_tell_134 rfl ?_
            refine xe_iconst dX10_tell_135 kc_0 ?_
            refine xe_callVIn (d' := 3) (y' := mX10_known) dX10_tell_136 mlX10_262 mvX10_known rfl (st124 hs) (by decide) rfl (by decide) (by decide) (Nat.le_of_ble_eq_true rfl) (c_X10_known_0 l g _ (by exact hs) (t := t + 1) (by refine ⟨rt_Tc hT ?_ ?_ ?_ ?_, (by omega), ?_, ?_⟩ <;> first | exact rfl | exact h11 | exact h13) hinc (by exact lfr_up vE (Nat.le_succ _)) (N := N) (by exact vN) k2) rfl (fun kv hk1 hkq => ?_)
            obtain ⟨hkv, ka, kb, rfl, hl⟩ := hkq
            rw [nm_find0 vN2, kf] at hkv hl
            have hkv : kv = (-1) := hkv
            subst hkv
            refine xe_istore_n (i := 1) dX10_tell_139 rfl (by decide) rfl ?_
            refine xe_aload_n dX10_tell_140 rfl ?_
            refine xe_iload_n dX10_tell_141 rfl ?_
            refine xe_if_ge (tgt := 149) dX10_tell_142 rfl (fun c1 => ?_) (fun c1 => ?_)
            · exact absurd c1 (by decide)
            · refine xe_iconst dX10_tell_145 kc_m1 ?_
              refine xe_goto (tgt := 153) dX10_tell_146 rfl ?_
              refine xe_callVVq (d' := 5) (y' := mX10_tellLaw) dX10_tell_153 mlX10_265 mvX10_tellLaw rfl (st124 hs) (by decide) rfl (by decide) (by decide) (Nat.le_of_ble_eq_true rfl) (lr_inr kl (r_tellLaw_n l g _ (t := t + 2) (cc := cc) (bb := bb) (by exact (rs_k a rfl rfl rfl rfl rfl rfl rfl rfl rfl rfl rfl (by show t ≤ t + 2; omega) go2)) (by omega))) rfl (fun h1 hq => ?_)
              obtain ⟨hm, cc9, bb9, hlr, rfl⟩ := hq
              refine xe_goto (tgt := 231) dX10_tell_156 rfl ?_
              refine xe_return dX10_tell_231 rfl ?_
              have a9 := hlr.2.1
              obtain ⟨p1, p2, p3, p4, p5, p6, p7, p8, p9, p10, p11⟩ := id a9
              refine ⟨rfl, rt_rf (by repeat (first | exact rt_r | refine rt_J ?_ | refine rt_w ?_ (by first | exact os_135 (by decide) | exact os_133 (by decide) | exact os_136 (by decide) (by omega) | exact os_140 (by omega)) | refine rt_f ?_ (fun k hk => by obtain ⟨y1, y2, y3, y4, y5, y6, y7, y8, y9, y10⟩ := os_124 hk; repeat (first | exact rfl | refine (pk_un (by assumption)).trans ?_)))) hlr.1 (by omega) hb1, cc9, bb9, a9, hlr.2.2.1, ?_⟩
              show rv_V _ K sd x.2 cc9 bb9 (tx_putL s (ps_L s) (tx_lf (ps_e s) true 4 (t + 1)))
              refine rv_lawn hV (by omega) ?_ ?_ ?_ hlr (lfr_up hl ?_)
              · intro r a1
                repeat (first | exact rfl | refine (q_Ine (by assumption)).trans ?_)
              · rfl
              · rfl
              · exact Nat.le_of_lt (tx_law_lt kl)
  rw [if_neg t25]
  by_cases t26 : tk_T K t = 26
  · rw [if_pos t26]
    unfold tx_cold
    by_cases h400 : 400 ≤ t
    · rw [tx_ck_2 t26 h400]
      refine q_CtV mvX10_tell (Nat.le_of_ble_eq_true rfl) ?_
      refine xe_aload_n dX10_tell_0 rfl ?_
      refine xe_getP dX10_tell_1 flX10_20 (st124 hs) (by decide) rfl (sp124_5 hs) ?_
      refine xe_aload_n dX10_tell_4 rfl ?_
      refine xe_getIv dX10_tell_5 flX10_201 (st124 hs) (by decide) rfl (v := nI t) (h11) ?_
      refine xn_ialdv dX10_tell_8 (st127 hs) (by omega) (by decide) (v := nI 26) ((z3.trans (by rw [t26]))) ?_
      refine xe_tsw_in (tgt := 187) dX10_tell_9 (by decide) (by decide) rfl rfl ?_
      refine xe_aload_n dX10_tell_187 rfl ?_
      refine xe_callVV (d' := 1) (y' := mX10_goesOn) dX10_tell_188 mlX10_219 mvX10_goesOn rfl (st124 hs) (by decide) rfl (by decide) (by decide) (Nat.le_of_ble_eq_true rfl) (c_X10_goesOn_f l g _ (by exact hs) hR h400) rfl ?_
      refine xe_aload_n dX10_tell_191 rfl ?_
      refine xe_callVV (d' := 4) (y' := mX10_tellCold) dX10_tell_192 mlX10_268 mvX10_tellCold rfl (st124 hs) (by decide) rfl (by decide) (by decide) (Nat.le_of_ble_eq_true rfl) (r_tellCold_b l g _ (by exact hs) (f := 2) (by exact rfl) (by decide) (by decide) (by exact h19) hsd) rfl ?_
      refine xe_goto (tgt := 231) dX10_tell_195 rfl ?_
      refine xe_return dX10_tell_231 rfl ?_
      exact ⟨rfl, (by repeat (first | exact rt_r | refine rt_J ?_ | refine rt_w ?_ (by first | exact os_135 (by decide) | exact os_133 (by decide) | exact os_136 (by decide) (by omega) | exact os_140 (by omega)) | refine rt_f ?_ (fun k hk => by obtain ⟨y1, y2, y3, y4, y5, y6, y7, y8, y9, y10⟩ := os_124 hk; repeat (first | exact rfl | refine (pk_un (by assumption)).trans ?_)))), rfl, rfl, (show 1 ≤ 2 by decide), (show 2 ≤ 5 by decide)⟩
    · have hck := tx_ck_0 t26 (show t < 400 by omega)
      have go1 := rt_gn hT htm hck (by decide)
      rw [hck]
      show q_Ct l g 6 mX10_tell _ h (q_rtA K m sd h (tx_r (tx_co K 12 [] (ps_e s) (t + 1)) _))
      refine q_CtV mvX10_tell (Nat.le_of_ble_eq_true rfl) ?_
      refine xe_aload_n dX10_tell_0 rfl ?_
      refine xe_getP dX10_tell_1 flX10_20 (st124 hs) (by decide) rfl (sp124_5 hs) ?_
      refine xe_aload_n dX10_tell_4 rfl ?_
      refine xe_getIv dX10_tell_5 flX10_201 (st124 hs) (by decide) rfl (v := nI t) (h11) ?_
      refine xn_ialdv dX10_tell_8 (st127 hs) (by omega) (by decide) (v := nI 26) ((z3.trans (by rw [t26]))) ?_
      refine xe_tsw_in (tgt := 187) dX10_tell_9 (by decide) (by decide) rfl rfl ?_
      refine xe_aload_n dX10_tell_187 rfl ?_
      refine xe_callVV (d' := 1) (y' := mX10_goesOn) dX10_tell_188 mlX10_219 mvX10_goesOn rfl (st124 hs) (by decide) rfl (by decide) (by decide) (Nat.le_of_ble_eq_true rfl) (c_X10_goesOn_t l g _ (by exact hs) (t := t) (by exact h11) (by omega)) rfl ?_
      refine xe_aload_n dX10_tell_191 rfl ?_
      refine xe_callVVq (d' := 4) (y' := mX10_tellCold) dX10_tell_192 mlX10_268 mvX10_tellCold rfl (st124 hs) (by decide) rfl (by decide) (by decide) (Nat.le_of_ble_eq_true rfl) (rco_v (r_tellCold l g (t := t + 1) (cc := cc) (bb := bb) hinc (by exact (rs_k a rfl rfl rfl rfl rfl rfl rfl rfl rfl rfl rfl (Nat.le_succ _) go1)) (by exact lfr_up vE (Nat.le_succ _)))) rfl (fun h1 hq => ?_)
      refine xe_goto (tgt := 231) dX10_tell_195 rfl ?_
      refine xe_return dX10_tell_231 rfl ?_
      have hle := tx_co_le (K := K) 12 [] (ps_e s) (t + 1)
      generalize tx_co K 12 [] (ps_e s) (t + 1) = o at hq hle
      cases o with
      | inl er => exact ⟨rfl, rt_t (by repeat (first | exact rt_r | refine rt_J ?_ | refine rt_w ?_ (by first | exact os_135 (by decide) | exact os_133 (by decide) | exact os_136 (by decide) (by omega) | exact os_140 (by omega)) | refine rt_f ?_ (fun k hk => by obtain ⟨y1, y2, y3, y4, y5, y6, y7, y8, y9, y10⟩ := os_124 hk; repeat (first | exact rfl | refine (pk_un (by assumption)).trans ?_)))) hq.2.1, hq.2.2⟩
      | inr x =>
        obtain ⟨q1, q2, q3, q4, q5, q6, q7, q8, q9, q10⟩ := hq
        have hle2 := hle x rfl
        exact ⟨rfl, rt_t (by repeat (first | exact rt_r | refine rt_J ?_ | refine rt_w ?_ (by first | exact os_135 (by decide) | exact os_133 (by decide) | exact os_136 (by decide) (by omega) | exact os_140 (by omega)) | refine rt_f ?_ (fun k hk => by obtain ⟨y1, y2, y3, y4, y5, y6, y7, y8, y9, y10⟩ := os_124 hk; repeat (first | exact rfl | refine (pk_un (by assumption)).trans ?_)))) q2, cc, bb, q3, by omega, rv_cold hV (by omega) q10 (fun r a1 a2 a3 => (q4 r a1 a2 a3).trans (q_Ine a1)) q5 q6 q7 q8 q9⟩
  rw [if_neg t26]
  by_cases t27 : tk_T K t = 27
  · rw [if_pos t27]
    unfold tx_moult
    by_cases h400 : 400 ≤ t
    · rw [tx_ck_2 t27 h400]
      refine q_CtV mvX10_tell (Nat.le_of_ble_eq_true rfl) ?_
      refine xe_aload_n dX10_tell_0 rfl ?_
      refine xe_getP dX10_tell_1 flX10_20 (st124 hs) (by decide) rfl (sp124_5 hs) ?_
      refine xe_aload_n dX10_tell_4 rfl ?_
      refine xe_getIv dX10_tell_5 flX10_201 (st124 hs) (by decide) rfl (v := nI t) (h11) ?_
      refine xn_ialdv dX10_tell_8 (st127 hs) (by omega) (by decide) (v := nI 27) ((z3.trans (by rw [t27]))) ?_
      refine xe_tsw_in (tgt := 198) dX10_tell_9 (by decide) (by decide) rfl rfl ?_
      refine xe_aload_n dX10_tell_198 rfl ?_
      refine xe_callVV (d' := 1) (y' := mX10_goesOn) dX10_tell_199 mlX10_219 mvX10_goesOn rfl (st124 hs) (by decide) rfl (by decide) (by decide) (Nat.le_of_ble_eq_true rfl) (c_X10_goesOn_f l g _ (by exact hs) hR h400) rfl ?_
      refine xe_aload_n dX10_tell_202 rfl ?_
      refine xe_getP dX10_tell_203 flX10_67 (st124 hs) (by decide) rfl (sp124_30 hs) ?_
      refine xe_aload_n dX10_tell_206 rfl ?_
      refine xe_getIv dX10_tell_207 flX10_231 (st124 hs) (by decide) rfl (v := nI sd) (h19) ?_
      refine xe_aload_n dX10_tell_210 rfl ?_
      refine xe_iconst dX10_tell_211 kc_1 ?_
      refine xe_bipush dX10_tell_212 kb_99 ?_
      refine xe_callVI (d' := 2) (y' := mX10_bounded) dX10_tell_214 mlX10_271 mvX10_bounded rfl (st124 hs) (by decide) rfl (by decide) (by decide) (Nat.le_of_ble_eq_true rfl) (c_X10_bounded_b l g _ (by exact hs) (f := 2) (by exact rfl) (by decide) (by decide) _ _) rfl ?_
      refine xn_iast dX10_tell_217 (st141 hs) (by omega) (by decide) ?_
      refine xe_aload_n dX10_tell_218 rfl ?_
      refine xe_iconst dX10_tell_219 kc_4 ?_
      refine xe_callVV (d' := 2) (y' := mX10_must) dX10_tell_220 mlX10_275 mvX10_must rfl (st124 hs) (by decide) rfl (by decide) (by decide) (Nat.le_of_ble_eq_true rfl) (c_X10_must_b l g _ (by exact hs) (f := 2) (by exact rfl) (by decide) (by decide) _) rfl ?_
      refine xe_goto (tgt := 231) dX10_tell_223 rfl ?_
      refine xe_return dX10_tell_231 rfl ?_
      exact ⟨rfl, (by repeat (first | exact rt_r | refine rt_J ?_ | refine rt_w ?_ (by first | exact os_135 (by decide) | exact os_133 (by decide) | exact os_136 (by decide) (by omega) | exact os_140 (by omega)) | refine rt_f ?_ (fun k hk => by obtain ⟨y1, y2, y3, y4, y5, y6, y7, y8, y9, y10⟩ := os_124 hk; repeat (first | exact rfl | refine (pk_un (by assumption)).trans ?_)))), rfl, rfl, (show 1 ≤ 2 by decide), (show 2 ≤ 5 by decide)⟩
    · have hck := tx_ck_0 t27 (show t < 400 by omega)
      have go1 := rt_gn hT htm hck (by decide)
      rw [hck]
      show q_Ct l g 6 mX10_tell _ h (q_rtA K m sd h (tx_b (tx_ck (tk_T K) 2 (t + 1)) _))
      have vE := lfr_up vE (Nat.le_succ t)
      cases k2 : tx_ck (tk_T K) 2 (t + 1) with
      | some er =>
        have he := ck_15 k2
        refine q_CtV mvX10_tell (Nat.le_of_ble_eq_true rfl) ?_
        refine xe_aload_n dX10_tell_0 rfl ?_
        refine xe_getP dX10_tell_1 flX10_20 (st124 hs) (by decide) rfl (sp124_5 hs) ?_
        refine xe_aload_n dX10_tell_4 rfl ?_
        refine xe_getIv dX10_tell_5 flX10_201 (st124 hs) (by decide) rfl (v := nI t) (h11) ?_
        refine xn_ialdv dX10_tell_8 (st127 hs) (by omega) (by decide) (v := nI 27) ((z3.trans (by rw [t27]))) ?_
        refine xe_tsw_in (tgt := 198) dX10_tell_9 (by decide) (by decide) rfl rfl ?_
        refine xe_aload_n dX10_tell_198 rfl ?_
        refine xe_callVV (d' := 1) (y' := mX10_goesOn) dX10_tell_199 mlX10_219 mvX10_goesOn rfl (st124 hs) (by decide) rfl (by decide) (by decide) (Nat.le_of_ble_eq_true rfl) (c_X10_goesOn_t l g _ (by exact hs) (t := t) (by exact h11) (by omega)) rfl ?_
        refine xe_aload_n dX10_tell_202 rfl ?_
        refine xe_getP dX10_tell_203 flX10_67 (st124 hs) (by decide) rfl (sp124_30 hs) ?_
        refine xe_aload_n dX10_tell_206 rfl ?_
        refine xe_getIv dX10_tell_207 flX10_231 (st124 hs) (by decide) rfl (v := nI sd) (h19) ?_
        refine xe_aload_n dX10_tell_210 rfl ?_
        refine xe_iconst dX10_tell_211 kc_1 ?_
        refine xe_bipush dX10_tell_212 kb_99 ?_
        refine xe_callVIn (d' := 2) (y' := mX10_bounded) dX10_tell_214 mlX10_271 mvX10_bounded rfl (st124 hs) (by decide) rfl (by decide) (by decide) (Nat.le_of_ble_eq_true rfl) (c_X10_bounded_f l g _ (by exact hs) (t := (t + 1)) (by refine ⟨rt_Tc hT ?_ ?_ ?_ ?_, (by omega), ?_, ?_⟩ <;> first | exact rfl | exact h11 | exact h13) hinc (by exact vE) (lo := 1) (hi_ := 99) (by decide) (by decide) k2) rfl (fun v1 h1 hq1 => ?_)
        obtain ⟨a1, b1, rfl⟩ := hq1
        refine xn_iast dX10_tell_217 (st141 hs) (by omega) (by decide) ?_
        refine xe_aload_n dX10_tell_218 rfl ?_
        refine xe_iconst dX10_tell_219 kc_4 ?_
        refine xe_callVV (d' := 2) (y' := mX10_must) dX10_tell_220 mlX10_275 mvX10_must rfl (st124 hs) (by decide) rfl (by decide) (by decide) (Nat.le_of_ble_eq_true rfl) (c_X10_must_b l g _ (by exact hs) (f := er.1) (by exact rfl) (by omega) (by omega) _) rfl ?_
        refine xe_goto (tgt := 231) dX10_tell_223 rfl ?_
        refine xe_return dX10_tell_231 rfl ?_
        exact ⟨rfl, (by repeat (first | exact rt_r | refine rt_J ?_ | refine rt_w ?_ (by first | exact os_135 (by decide) | exact os_133 (by decide) | exact os_136 (by decide) (by omega) | exact os_140 (by omega)) | refine rt_f ?_ (fun k hk => by obtain ⟨y1, y2, y3, y4, y5, y6, y7, y8, y9, y10⟩ := os_124 hk; repeat (first | exact rfl | refine (pk_un (by assumption)).trans ?_)))), rfl, rfl, he.1, he.2⟩
      | none =>
        have go2 := rt_gn hT go1 k2 (by decide)
        have hv := (hT.2.2 (t + 1) go1).2.2.2.2.2 (tx_ck_none k2).1
        show q_Ct l g 6 mX10_tell _ h (q_rtA K m sd h (tx_b (tx_ck (tk_T K) 4 (t + 2)) _))
        cases k3 : tx_ck (tk_T K) 4 (t + 2) with
        | some er =>
          have he := ck_15 k3
          refine q_CtV mvX10_tell (Nat.le_of_ble_eq_true rfl) ?_
          refine xe_aload_n dX10_tell_0 rfl ?_
          refine xe_getP dX10_tell_1 flX10_20 (st124 hs) (by decide) rfl (sp124_5 hs) ?_
          refine xe_aload_n dX10_tell_4 rfl ?_
          refine xe_getIv dX10_tell_5 flX10_201 (st124 hs) (by decide) rfl (v := nI t) (h11) ?_
          refine xn_ialdv dX10_tell_8 (st127 hs) (by omega) (by decide) (v := nI 27) ((z3.trans (by rw [t27]))) ?_
          refine xe_tsw_in (tgt := 198) dX10_tell_9 (by decide) (by decide) rfl rfl ?_
          refine xe_aload_n dX10_tell_198 rfl ?_
          refine xe_callVV (d' := 1) (y' := mX10_goesOn) dX10_tell_199 mlX10_219 mvX10_goesOn rfl (st124 hs) (by decide) rfl (by decide) (by decide) (Nat.le_of_ble_eq_true rfl) (c_X10_goesOn_t l g _ (by exact hs) (t := t) (by exact h11) (by omega)) rfl ?_
          refine xe_aload_n dX10_tell_202 rfl ?_
          refine xe_getP dX10_tell_203 flX10_67 (st124 hs) (by decide) rfl (sp124_30 hs) ?_
          refine xe_aload_n dX10_tell_206 rfl ?_
          refine xe_getIv dX10_tell_207 flX10_231 (st124 hs) (by decide) rfl (v := nI sd) (h19) ?_
          refine xe_aload_n dX10_tell_210 rfl ?_
          refine xe_iconst dX10_tell_211 kc_1 ?_
          refine xe_bipush dX10_tell_212 kb_99 ?_
          refine xe_callVIq (d' := 2) (y' := mX10_bounded) dX10_tell_214 mlX10_271 mvX10_bounded rfl (st124 hs) (by decide) rfl (by decide) (by decide) (Nat.le_of_ble_eq_true rfl) (c_X10_bounded_t l g _ (by exact hs) (t := (t + 1)) (by refine ⟨rt_Tc hT ?_ ?_ ?_ ?_, (by omega), ?_, ?_⟩ <;> first | exact rfl | exact h11 | exact h13) hinc (by exact vE) (lo := 1) (hi_ := 99) (by decide) (by decide) k2) rfl (fun h1 hq1 => ?_)
          obtain ⟨a1, b1, rfl, hl1⟩ := hq1
          refine xn_iast dX10_tell_217 (st141 hs) (by omega) (by decide) ?_
          refine xe_aload_n dX10_tell_218 rfl ?_
          refine xe_iconst dX10_tell_219 kc_4 ?_
          refine xe_callVV (d' := 2) (y' := mX10_must) dX10_tell_220 mlX10_275 mvX10_must rfl (st124 hs) (by decide) rfl (by decide) (by decide) (Nat.le_of_ble_eq_true rfl) (c_X10_must_f l g _ (by exact hs) (t := (t + 1 + 1)) (by refine ⟨rt_Tc hT ?_ ?_ ?_ ?_, (by omega), ?_, ?_⟩ <;> first | exact rfl | exact h11 | exact h13) (k := 4) (by decide) (f := er.1) (u := er.2) k3) rfl ?_
          refine xe_goto (tgt := 231) dX10_tell_223 rfl ?_
          refine xe_return dX10_tell_231 rfl ?_
          exact ⟨rfl, (by repeat (first | exact rt_r | refine rt_J ?_ | refine rt_w ?_ (by first | exact os_135 (by decide) | exact os_133 (by decide) | exact os_136 (by decide) (by omega) | exact os_140 (by omega)) | refine rt_f ?_ (fun k hk => by obtain ⟨y1, y2, y3, y4, y5, y6, y7, y8, y9, y10⟩ := os_124 hk; repeat (first | exact rfl | refine (pk_un (by assumption)).trans ?_)))), rfl, rfl, he.1, he.2⟩
        | none =>
          have go3 := rt_gn hT go2 k3 (by decide)
          refine q_CtV mvX10_tell (Nat.le_of_ble_eq_true rfl) ?_
          refine xe_aload_n dX10_tell_0 rfl ?_
          refine xe_getP dX10_tell_1 flX10_20 (st124 hs) (by decide) rfl (sp124_5 hs) ?_
          refine xe_aload_n dX10_tell_4 rfl ?_
          refine xe_getIv dX10_tell_5 flX10_201 (st124 hs) (by decide) rfl (v := nI t) (h11) ?_
          refine xn_ialdv dX10_tell_8 (st127 hs) (by omega) (by decide) (v := nI 27) ((z3.trans (by rw [t27]))) ?_
          refine xe_tsw_in (tgt := 198) dX10_tell_9 (by decide) (by decide) rfl rfl ?_
          refine xe_aload_n dX10_tell_198 rfl ?_
          refine xe_callVV (d' := 1) (y' := mX10_goesOn) dX10_tell_199 mlX10_219 mvX10_goesOn rfl (st124 hs) (by decide) rfl (by decide) (by decide) (Nat.le_of_ble_eq_true rfl) (c_X10_goesOn_t l g _ (by exact hs) (t := t) (by exact h11) (by omega)) rfl ?_
          refine xe_aload_n dX10_tell_202 rfl ?_
          refine xe_getP dX10_tell_203 flX10_67 (st124 hs) (by decide) rfl (sp124_30 hs) ?_
          refine xe_aload_n dX10_tell_206 rfl ?_
          refine xe_getIv dX10_tell_207 flX10_231 (st124 hs) (by decide) rfl (v := nI sd) (h19) ?_
          refine xe_aload_n dX10_tell_210 rfl ?_
          refine xe_iconst dX10_tell_211 kc_1 ?_
          refine xe_bipush dX10_tell_212 kb_99 ?_
          refine xe_callVIq (d' := 2) (y' := mX10_bounded) dX10_tell_214 mlX10_271 mvX10_bounded rfl (st124 hs) (by decide) rfl (by decide) (by decide) (Nat.le_of_ble_eq_true rfl) (c_X10_bounded_t l g _ (by exact hs) (t := (t + 1)) (by refine ⟨rt_Tc hT ?_ ?_ ?_ ?_, (by omega), ?_, ?_⟩ <;> first | exact rfl | exact h11 | exact h13) hinc (by exact vE) (lo := 1) (hi_ := 99) (by decide) (by decide) k2) rfl (fun h1 hq1 => ?_)
          obtain ⟨a1, b1, rfl, hl1⟩ := hq1
          refine xn_iast dX10_tell_217 (st141 hs) (by omega) (by decide) ?_
          refine xe_aload_n dX10_tell_218 rfl ?_
          refine xe_iconst dX10_tell_219 kc_4 ?_
          refine xe_callVV (d' := 2) (y' := mX10_must) dX10_tell_220 mlX10_275 mvX10_must rfl (st124 hs) (by decide) rfl (by decide) (by decide) (Nat.le_of_ble_eq_true rfl) (c_X10_must_t l g _ (by exact hs) (t := (t + 1 + 1)) (by refine ⟨rt_Tc hT ?_ ?_ ?_ ?_, (by omega), ?_, ?_⟩ <;> first | exact rfl | exact h11 | exact h13) (k := 4) k3) rfl ?_
          refine xe_goto (tgt := 231) dX10_tell_223 rfl ?_
          refine xe_return dX10_tell_231 rfl ?_
          refine ⟨rfl, (by repeat (first | exact rt_r | refine rt_J ?_ | refine rt_w ?_ (by first | exact os_135 (by decide) | exact os_133 (by decide) | exact os_136 (by decide) (by omega) | exact os_140 (by omega)) | refine rt_f ?_ (fun k hk => by obtain ⟨y1, y2, y3, y4, y5, y6, y7, y8, y9, y10⟩ := os_124 hk; repeat (first | exact rfl | refine (pk_un (by assumption)).trans ?_)))), cc, bb, rs_k a rfl rfl rfl rfl rfl rfl rfl rfl rfl rfl rfl (by show t ≤ t + 3; omega) (by show t + 3 ≤ m; omega), (by show 4 * (bb - 130 * sd) ≤ t + 3; omega), rv_moult hV (by omega) hv.2 (by intro r a1 a2; repeat (first | exact rfl | refine (q_Ine (by assumption)).trans ?_)) rfl rfl pk_us (lfr_up hl1 (by show t + 1 + 1 ≤ t + 3; omega))⟩
  rw [if_neg t27]
  have hsw := q_tsw ⟨tk_T K t, by omega⟩ (by show ¬ (20 ≤ tk_T K t ∧ tk_T K t ≤ 27); omega)
  refine q_CtV mvX10_tell (Nat.le_of_ble_eq_true rfl) ?_
  refine xe_aload_n dX10_tell_0 rfl ?_
  refine xe_getP dX10_tell_1 flX10_20 (st124 hs) (by decide) rfl (sp124_5 hs) ?_
  refine xe_aload_n dX10_tell_4 rfl ?_
  refine xe_getIv dX10_tell_5 flX10_201 (st124 hs) (by decide) rfl (v := nI t) (h11) ?_
  refine xn_ialdv dX10_tell_8 (st127 hs) (by omega) (by decide) (v := nI (tk_T K t)) (z3) ?_
  refine xe_tsw_out (tgt := 226) dX10_tell_9 (hsw) rfl ?_
  refine xe_aload_n dX10_tell_226 rfl ?_
  refine xe_iconst dX10_tell_227 kc_1 ?_
  refine xe_callVV (d' := 0) (y' := mX10_fail) dX10_tell_228 mlX10_213 mvX10_fail rfl (st124 hs) (by decide) rfl (by decide) (by decide) (Nat.le_of_ble_eq_true rfl) (c_X10_fail_0 l g _ (by exact hs) hR _) rfl ?_
  refine xe_return dX10_tell_231 rfl ?_
  exact ⟨rfl, (by repeat (first | exact rt_r | refine rt_J ?_ | refine rt_w ?_ (by first | exact os_135 (by decide) | exact os_133 (by decide) | exact os_136 (by decide) (by omega) | exact os_140 (by omega)) | refine rt_f ?_ (fun k hk => by obtain ⟨y1, y2, y3, y4, y5, y6, y7, y8, y9, y10⟩ := os_124 hk; repeat (first | exact rfl | refine (pk_un (by assumption)).trans ?_)))), rfl, rfl, (show 1 ≤ 1 by decide), (show 1 ≤ 5 by decide)⟩
