/-! the reference: units with brackets, whole sums -/
theorem ex_sum (l : Launch) (g : q_GP) {K : q_TK} {m c0 cm k e : Nat} {h0 : q_H} (b : q_x0 K m h0 c0 cm) {U : Nat → q_XR} (hU : q_UN l g K m h0 c0 cm k U) (hG : tx_good e U) {dp t : Nat} {W : List Nat} {c : List (Nat × Int32)} {h : q_H} {Q : Option Value → q_H → Prop} (hdk : dp + k = 6) (a : q_xs K m h0 c0 cm t dp W c h) (hW : W.length ≤ 3 * dp) (hst : q_stay 0 W) (h6 : q_s6 W)
    (K1 : ∀ (kc' : List (Nat × Int32)) (as' ms' : List Nat) (x : List (Nat × Int32) × Nat) (h' : q_H), tx_sumU (tk_T K) U t = .inr x → x.1 = kc' ++ q_emo ms' ++ q_emo as' → q_mul ms' → q_add as' → q_xs K m h0 c0 cm x.2 dp (ms' ++ (as' ++ W)) (c ++ kc') h' → ¬ (tk_T K x.2 = 10 ∨ tk_T K x.2 = 15) → ¬ (tk_T K x.2 = 8 ∨ tk_T K x.2 = 9) → q_Ex l g 3 mX10_expression 96 [(0, .ref 124), (1, .int (nI 0)), (2, .int (nI 1))] [] h' Q) (K0 : ∀ e h', tx_sumU (tk_T K) U t = .inl e → q_xb K h0 c0 cm e h' → Q none h') : q_Ex l g 3 mX10_expression 23 [(0, .ref 124), (1, .int (nI 0)), (2, .int (nI 1))] [] h Q := by
  have hm4 := b.2.1.1
  have n0 : q_add [] := ⟨by decide, fun y hy => absurd hy List.not_mem_nil⟩
  have n1 : q_mul [] := ⟨by decide, fun y hy => absurd hy List.not_mem_nil⟩
  refine hU dp t W c h Q hdk a (by omega) h6 (fun x h' hx xa => ?_) (fun er h' hx xb => K0 er h' (by show tx_r (tx_r (U t) _) _ = _; rw [hx]; rfl) xb)
  have hg := hG _ _ hx
  have hsq : tx_seq (tk_T K) 10 15 U t = tx_pl (tk_T K) 10 15 U 401 x.1 x.2 := by
    unfold tx_seq
    rw [hx]
    rfl
  have e0 : x.1 ++ q_emo [] = x.1 := List.append_nil _
  refine ex_pl l g b hU hG 401 dp x.2 W [] [] c x.1 h' Q hdk xa hW hst h6 n0 n1 (by omega) (fun kc' ms' y h2 hy hy1 hy2 hy3 hy4 => ?_) (fun er h2 hy hb => K0 er h2 (by rw [e0] at hy; unfold tx_sumU tx_seq; rw [show tx_r (U t) (fun x => tx_pl (tk_T K) 10 15 U 401 x.1 x.2) = tx_seq (tk_T K) 10 15 U t from rfl, hsq, hy]; rfl) hb)
  rw [e0] at hy
  have hs2 : tx_sumU (tk_T K) U t = tx_pl (tk_T K) 8 9 (tx_seq (tk_T K) 10 15 U) 401 y.1 y.2 := by
    show tx_r (tx_seq (tk_T K) 10 15 U t) _ = _
    rw [hsq, hy]
    rfl
  have hyl := (tx_pl_ok hG 401 x.1 x.2 y (tx_ok_up hg (Nat.le_succ _)) hy).1
  rw [hs2, hy1] at K1 K0
  refine ex_sl l g b hU hG 401 dp y.2 W [] ms' c kc' h2 Q hdk hy3 hW hst h6 n0 hy2 hy4 (by omega) (fun c9 as9 ms9 z h3 hz hz1 => K1 c9 as9 ms9 z h3 ?_ hz1) (fun er h3 hz => K0 er h3 ?_)
  · rw [← hz]
    congr 1
    exact (List.append_nil _).symm
  · rw [← hz]
    congr 1
    exact (List.append_nil _).symm
theorem q_s6_d : ∀ (W : List Nat), q_s6 W → ∃ P r, W = P ++ r ∧ (∀ x ∈ P, q_out1 0 x) ∧ q_stay 0 r
  | [], _ => ⟨[], [], rfl, fun x hx => absurd hx List.not_mem_nil, trivial⟩
  | x :: W, h => by
    have hx := h x List.mem_cons_self
    by_cases h6 : x = 6
    · exact ⟨[], x :: W, rfl, fun y hy => absurd hy List.not_mem_nil, Or.inl h6⟩
    · obtain ⟨P, r, h1, h2, h3⟩ := q_s6_d W (fun y hy => h y (List.mem_cons_of_mem _ hy))
      refine ⟨x :: P, r, by rw [h1]; rfl, fun y hy => ?_, h3⟩
      rcases List.mem_cons.mp hy with rfl | q
      · show y = 8 ∨ y = 9 ∨ y = 10 ∨ y = 15
        omega
      · exact h2 y q
def tx_u0 (T V : Nat → Nat) (t : Nat) : q_XR := if T t = 2 then (if 400 ≤ t then .inl (2, t) else .inr ([(0, nI (V t))], t + 1)) else if 31 ≤ T t ∧ T t ≤ 36 then (if 400 ≤ t then .inl (2, t) else .inr ([(1, nI (T t - 31))], t + 1)) else .inl (1, t)
theorem ex_u0 (l : Launch) (g : q_GP) {K : q_TK} {m c0 cm : Nat} {h0 : q_H} (b : q_x0 K m h0 c0 cm) {dp t : Nat} {W : List Nat} {c : List (Nat × Int32)} {h : q_H} {Q : Option Value → q_H → Prop} (hk6 : ¬ tk_T K t = 6) (a : q_xs K m h0 c0 cm t dp W c h) (K1 : ∀ x h', tx_u0 (tk_T K) (tk_V K) t = .inr x → q_xs K m h0 c0 cm x.2 dp W (c ++ x.1) h' → q_Ex l g 3 mX10_expression 96 [(0, .ref 124), (1, .int (nI 0)), (2, .int (nI 1))] [] h' Q) (K0 : ∀ e h', tx_u0 (tk_T K) (tk_V K) t = .inl e → q_xb K h0 c0 cm e h' → Q none h') : q_Ex l g 3 mX10_expression 23 [(0, .ref 124), (1, .int (nI 0)), (2, .int (nI 1))] [] h Q := by
  have hs := xs_s b a
  have hR := xs_R b a
  have h11 := a.2.2.2.2.1
  have h12 := a.2.2.2.2.2.1
  have h13 := hR.2.2.2
  have h39 := a.2.2.2.2.2.2.2.2.1
  have h43 := a.2.2.2.2.2.2.1
  have h151 := a.2.2.2.2.2.2.2.1
  have hbd := a.2.2.2.2.2.2.2.2.2.2.2
  unfold tx_u0 at K1 K0
  by_cases kn : tk_T K t = 2
  · rw [if_pos kn] at K1 K0
    by_cases h400 : 400 ≤ t
    · rw [if_pos h400] at K0
      refine xe_aload_n dX10_expression_23 rfl ?_
      refine xe_bipush dX10_expression_24 kb_6 ?_
      refine xe_callVI (d' := 0) (y' := mX10_is) dX10_expression_26 mlX10_216 mvX10_is rfl (st124 hs) (by decide) rfl (by decide) (by decide) (Nat.le_of_ble_eq_true rfl) (c_X10_is_0 l g _ (by exact hs) hR (by decide) (hk6)) rfl ?_
      refine xn_if_eq (tgt := 84) dX10_expression_29 rfl (by omega) (fun c1 => ?_) (fun c1 => ?_)
      · refine xe_aload_n dX10_expression_84 rfl ?_
        refine xe_callVVq (d' := 2) (y' := mX10_unit) dX10_expression_85 mlX10_301 mvX10_unit rfl (st124 hs) (by decide) rfl (by decide) (by decide) (Nat.le_of_ble_eq_true rfl) (c_X10_unit_nf l g b _ a kn h400) rfl (fun h1 hq => ?_)
        have hs : q_Stat h1 := q_Stat_2 hq.1 b.1
        have h13 : q_I h1 124 13 = nI 2 := hq.2.2.2.1
        refine xe_aload_n dX10_expression_88 rfl ?_
        refine xe_getIv dX10_expression_89 flX10_198 (st124 hs) (by decide) rfl (v := nI 2) (h13) ?_
        refine xn_if_le (tgt := 96) dX10_expression_92 rfl (by omega) (fun c2 => ?_) (fun c2 => ?_)
        · omega
        · refine xe_return dX10_expression_95 rfl ?_
          exact K0 _ _ rfl hq
      · omega
    · rw [if_neg h400] at K1
      refine xe_aload_n dX10_expression_23 rfl ?_
      refine xe_bipush dX10_expression_24 kb_6 ?_
      refine xe_callVI (d' := 0) (y' := mX10_is) dX10_expression_26 mlX10_216 mvX10_is rfl (st124 hs) (by decide) rfl (by decide) (by decide) (Nat.le_of_ble_eq_true rfl) (c_X10_is_0 l g _ (by exact hs) hR (by decide) (hk6)) rfl ?_
      refine xn_if_eq (tgt := 84) dX10_expression_29 rfl (by omega) (fun c1 => ?_) (fun c1 => ?_)
      · refine xe_aload_n dX10_expression_84 rfl ?_
        refine xe_callVVq (d' := 2) (y' := mX10_unit) dX10_expression_85 mlX10_301 mvX10_unit rfl (st124 hs) (by decide) rfl (by decide) (by decide) (Nat.le_of_ble_eq_true rfl) (c_X10_unit_nt l g b _ a kn (by omega)) rfl (fun h1 hq => ?_)
        have a := hq
        have hs := xs_s b a
        have hR := xs_R b a
        have h13 := hR.2.2.2
        refine xe_aload_n dX10_expression_88 rfl ?_
        refine xe_getIv dX10_expression_89 flX10_198 (st124 hs) (by decide) rfl (v := nI 0) (h13) ?_
        refine xn_if_le (tgt := 96) dX10_expression_92 rfl (by omega) (fun c2 => ?_) (fun c2 => ?_)
        · refine xe_locals (L' := [(0, .ref 124), (1, .int (nI 0)), (2, .int (nI 1))]) (And.intro rfl (And.intro rfl (And.intro rfl trivial))) ?_
          exact K1 _ _ rfl hq
        · omega
      · omega
  rw [if_neg kn] at K1 K0
  by_cases kv : 31 ≤ tk_T K t ∧ tk_T K t ≤ 36
  · rw [if_pos kv] at K1 K0
    by_cases h400 : 400 ≤ t
    · rw [if_pos h400] at K0
      refine xe_aload_n dX10_expression_23 rfl ?_
      refine xe_bipush dX10_expression_24 kb_6 ?_
      refine xe_callVI (d' := 0) (y' := mX10_is) dX10_expression_26 mlX10_216 mvX10_is rfl (st124 hs) (by decide) rfl (by decide) (by decide) (Nat.le_of_ble_eq_true rfl) (c_X10_is_0 l g _ (by exact hs) hR (by decide) (hk6)) rfl ?_
      refine xn_if_eq (tgt := 84) dX10_expression_29 rfl (by omega) (fun c1 => ?_) (fun c1 => ?_)
      · refine xe_aload_n dX10_expression_84 rfl ?_
        refine xe_callVVq (d' := 2) (y' := mX10_unit) dX10_expression_85 mlX10_301 mvX10_unit rfl (st124 hs) (by decide) rfl (by decide) (by decide) (Nat.le_of_ble_eq_true rfl) (c_X10_unit_vf l g b _ a kv h400) rfl (fun h1 hq => ?_)
        have hs : q_Stat h1 := q_Stat_2 hq.1 b.1
        have h13 : q_I h1 124 13 = nI 2 := hq.2.2.2.1
        refine xe_aload_n dX10_expression_88 rfl ?_
        refine xe_getIv dX10_expression_89 flX10_198 (st124 hs) (by decide) rfl (v := nI 2) (h13) ?_
        refine xn_if_le (tgt := 96) dX10_expression_92 rfl (by omega) (fun c2 => ?_) (fun c2 => ?_)
        · omega
        · refine xe_return dX10_expression_95 rfl ?_
          exact K0 _ _ rfl hq
      · omega
    · rw [if_neg h400] at K1
      refine xe_aload_n dX10_expression_23 rfl ?_
      refine xe_bipush dX10_expression_24 kb_6 ?_
      refine xe_callVI (d' := 0) (y' := mX10_is) dX10_expression_26 mlX10_216 mvX10_is rfl (st124 hs) (by decide) rfl (by decide) (by decide) (Nat.le_of_ble_eq_true rfl) (c_X10_is_0 l g _ (by exact hs) hR (by decide) (hk6)) rfl ?_
      refine xn_if_eq (tgt := 84) dX10_expression_29 rfl (by omega) (fun c1 => ?_) (fun c1 => ?_)
      · refine xe_aload_n dX10_expression_84 rfl ?_
        refine xe_callVVq (d' := 2) (y' := mX10_unit) dX10_expression_85 mlX10_301 mvX10_unit rfl (st124 hs) (by decide) rfl (by decide) (by decide) (Nat.le_of_ble_eq_true rfl) (c_X10_unit_vt l g b _ a kv (by omega)) rfl (fun h1 hq => ?_)
        have a := hq
        have hs := xs_s b a
        have hR := xs_R b a
        have h13 := hR.2.2.2
        refine xe_aload_n dX10_expression_88 rfl ?_
        refine xe_getIv dX10_expression_89 flX10_198 (st124 hs) (by decide) rfl (v := nI 0) (h13) ?_
        refine xn_if_le (tgt := 96) dX10_expression_92 rfl (by omega) (fun c2 => ?_) (fun c2 => ?_)
        · refine xe_locals (L' := [(0, .ref 124), (1, .int (nI 0)), (2, .int (nI 1))]) (And.intro rfl (And.intro rfl (And.intro rfl trivial))) ?_
          exact K1 _ _ rfl hq
        · omega
      · omega
  rw [if_neg kv] at K1 K0
  refine xe_aload_n dX10_expression_23 rfl ?_
  refine xe_bipush dX10_expression_24 kb_6 ?_
  refine xe_callVI (d' := 0) (y' := mX10_is) dX10_expression_26 mlX10_216 mvX10_is rfl (st124 hs) (by decide) rfl (by decide) (by decide) (Nat.le_of_ble_eq_true rfl) (c_X10_is_0 l g _ (by exact hs) hR (by decide) (hk6)) rfl ?_
  refine xn_if_eq (tgt := 84) dX10_expression_29 rfl (by omega) (fun c1 => ?_) (fun c1 => ?_)
  · refine xe_aload_n dX10_expression_84 rfl ?_
    refine xe_callVVq (d' := 2) (y' := mX10_unit) dX10_expression_85 mlX10_301 mvX10_unit rfl (st124 hs) (by decide) rfl (by decide) (by decide) (Nat.le_of_ble_eq_true rfl) (c_X10_unit_x l g b _ a kn kv) rfl (fun h1 hq => ?_)
    have hs : q_Stat h1 := q_Stat_2 hq.1 b.1
    have h13 : q_I h1 124 13 = nI 1 := hq.2.2.2.1
    refine xe_aload_n dX10_expression_88 rfl ?_
    refine xe_getIv dX10_expression_89 flX10_198 (st124 hs) (by decide) rfl (v := nI 1) (h13) ?_
    refine xn_if_le (tgt := 96) dX10_expression_92 rfl (by omega) (fun c2 => ?_) (fun c2 => ?_)
    · omega
    · refine xe_return dX10_expression_95 rfl ?_
      exact K0 _ _ rfl hq
  · omega
theorem ex_un0 (l : Launch) (g : q_GP) {K : q_TK} {m c0 cm : Nat} {h0 : q_H} (b : q_x0 K m h0 c0 cm) : q_UN l g K m h0 c0 cm 0 (tx_un (tk_T K) (tk_V K) 0) := by
  intro dp t W c h Q hdk a hW h6 K1 K0
  have hm4 := b.2.1.1
  have hcm := b.2.2.2
  rw [tx_un_0] at K1 K0
  by_cases hk : tk_T K t = 6
  · rw [if_neg (by omega), if_neg (by omega), if_pos hk] at K0
    have hs := xs_s b a
    have hR := xs_R b a
    have h11 := a.2.2.2.2.1
    have h12 := a.2.2.2.2.2.1
    have h13 := hR.2.2.2
    have h39 := a.2.2.2.2.2.2.2.2.1
    have h43 := a.2.2.2.2.2.2.1
    have h151 := a.2.2.2.2.2.2.2.1
    have hbd := a.2.2.2.2.2.2.2.2.2.2.2
    have htm := hR.2.1
    obtain ⟨z1, z2, z3, z4, z5, z6⟩ := hR.1.2.2 t htm
    refine xe_aload_n dX10_expression_23 rfl ?_
    refine xe_bipush dX10_expression_24 kb_6 ?_
    refine xe_callVI (d' := 0) (y' := mX10_is) dX10_expression_26 mlX10_216 mvX10_is rfl (st124 hs) (by decide) rfl (by decide) (by decide) (Nat.le_of_ble_eq_true rfl) (c_X10_is_1 l g _ (by exact hs) hR hk) rfl ?_
    refine xn_if_eq (tgt := 84) dX10_expression_29 rfl (by omega) (fun c1 => ?_) (fun c1 => ?_)
    · omega
    · refine xe_aload_n dX10_expression_32 rfl ?_
      refine xe_getIv dX10_expression_33 flX10_225 (st124 hs) (by decide) rfl (v := nI dp) (h12) ?_
      refine xe_bipush dX10_expression_36 kb_6 ?_
      refine xn_icmp_ne (tgt := 46) dX10_expression_38 rfl (by omega) (by omega) (fun c2 => ?_) (fun c2 => ?_)
      · omega
      · refine xe_aload_n dX10_expression_41 rfl ?_
        refine xe_iconst dX10_expression_42 kc_2 ?_
        refine xe_callVV (d' := 0) (y' := mX10_fail) dX10_expression_43 mlX10_213 mvX10_fail rfl (st124 hs) (by decide) rfl (by decide) (by decide) (Nat.le_of_ble_eq_true rfl) (c_X10_fail_0 l g _ (by exact hs) hR _) rfl ?_
        refine xe_aload_n dX10_expression_46 rfl ?_
        refine xe_dup dX10_expression_47 rfl ?_
        refine xe_getIv dX10_expression_48 flX10_225 (st124 hs) (by decide) rfl (v := nI dp) (h12) ?_
        refine xe_iconst dX10_expression_51 kc_1 ?_
        refine xn_iadd dX10_expression_52 ?_
        refine xe_putI dX10_expression_53 flX10_225 (st124 hs) (by decide) rfl (Or.inl rfl) rfl rfl ?_
        refine xe_aload_n dX10_expression_56 rfl ?_
        refine xe_callVVq (d' := 1) (y' := mX10_goesOn) dX10_expression_57 mlX10_219 mvX10_goesOn rfl (st124 hs) (by decide) rfl (by decide) (by decide) (Nat.le_of_ble_eq_true rfl) (c_X10_goesOn_b l g _ (by exact hs) (f := 2) (by exact rfl) (by decide) (by decide) (t := t) (by exact h11) (by omega)) rfl (fun hb hbq => ?_)
        obtain ⟨t1, ht1, rfl⟩ := hbq
        refine xe_aload_n dX10_expression_60 rfl ?_
        refine xe_getP dX10_expression_61 flX10_98 (st124 hs) (by decide) rfl (sp124_42 hs) ?_
        refine xe_aload_n dX10_expression_64 rfl ?_
        refine xe_getIv dX10_expression_65 flX10_295 (st124 hs) (by decide) rfl (v := nI W.length) (h43) ?_
        refine xe_bipush dX10_expression_68 kb_6 ?_
        refine xn_iast dX10_expression_70 (st151 hs) (by omega) (by decide) ?_
        refine xe_aload_n dX10_expression_71 rfl ?_
        refine xe_dup dX10_expression_72 rfl ?_
        refine xe_getIv dX10_expression_73 flX10_295 (st124 hs) (by decide) rfl (v := nI W.length) (h43) ?_
        refine xe_iconst dX10_expression_76 kc_1 ?_
        refine xn_iadd dX10_expression_77 ?_
        refine xe_putI dX10_expression_78 flX10_295 (st124 hs) (by decide) rfl (Or.inl rfl) rfl rfl ?_
        refine xe_goto (tgt := 23) dX10_expression_81 rfl ?_
        refine xe_aload_n dX10_expression_23 rfl ?_
        refine xe_bipush dX10_expression_24 kb_6 ?_
        refine xe_callVI (d' := 0) (y' := mX10_is) dX10_expression_26 mlX10_216 mvX10_is rfl (st124 hs) (by decide) rfl (by decide) (by decide) (Nat.le_of_ble_eq_true rfl) (c_X10_is_f l g _ (by exact hs) (by exact rfl) (by decide) (by decide) _) rfl ?_
        refine xn_if_eq (tgt := 84) dX10_expression_29 rfl (by omega) (fun c3 => ?_) (fun c3 => ?_)
        · refine xe_aload_n dX10_expression_84 rfl ?_
          refine xe_callVV (d' := 2) (y' := mX10_unit) dX10_expression_85 mlX10_301 mvX10_unit rfl (st124 hs) (by decide) rfl (by decide) (by decide) (Nat.le_of_ble_eq_true rfl) (c_X10_unit_b l g _ (by exact hs) (by exact rfl) (by decide) (by decide)) rfl ?_
          refine xe_aload_n dX10_expression_88 rfl ?_
          refine xe_getIv dX10_expression_89 flX10_198 (st124 hs) (by decide) rfl (v := nI 2) (rfl) ?_
          refine xn_if_le (tgt := 96) dX10_expression_92 rfl (by omega) (fun c4 => ?_) (fun c4 => ?_)
          · omega
          · refine xe_return dX10_expression_95 rfl ?_
            exact K0 (2, t) _ rfl (xs_bad (e := (2, t)) (t1 := t1) a (by omega) rfl (fun r a1 a2 => by repeat (first | exact rfl | refine (q_Ine (by assumption)).trans ?_)) (fun k a1 a2 a3 a4 a5 => by repeat (first | exact rfl | refine (pk_un (by assumption)).trans ?_)) rfl rfl (show 1 ≤ 2 by decide) (show 2 ≤ 5 by decide) rfl (by omega))
        · omega
  · have e : (if tk_T K t = 2 then (if 400 ≤ t then .inl (2, t) else .inr ([(0, nI (tk_V K t))], t + 1)) else if 31 ≤ tk_T K t ∧ tk_T K t ≤ 36 then (if 400 ≤ t then .inl (2, t) else .inr ([(1, nI (tk_T K t - 31))], t + 1)) else if tk_T K t = 6 then .inl (2, t) else .inl (1, t) : q_XR) = tx_u0 (tk_T K) (tk_V K) t := by
      rw [if_neg hk]
      rfl
    have eK : ∀ o : q_XR, tx_un (tk_T K) (tk_V K) 0 t = o → tx_u0 (tk_T K) (tk_V K) t = o := fun o ho => by rw [← e, ← tx_un_0]; exact ho
    exact ex_u0 l g b hk a (fun x h' hx => K1 x h' (e.trans hx)) (fun er h' hx => K0 er h' (e.trans hx))
theorem q_ops_P {W P r : List Nat} (hP : ∀ x ∈ P, q_out1 0 x) (e : W = P ++ r) : P.length ≤ q_ops W := by
  have o : ∀ x ∈ P, x ≠ 6 := fun x hx => by
    have : x = 8 ∨ x = 9 ∨ x = 10 ∨ x = 15 := hP x hx
    omega
  rw [e, q_ops_app P r o]
  omega
theorem ex_unS (l : Launch) (g : q_GP) {K : q_TK} {m c0 cm k : Nat} {h0 : q_H} (b : q_x0 K m h0 c0 cm) (hU : q_UN l g K m h0 c0 cm k (tx_un (tk_T K) (tk_V K) k)) : q_UN l g K m h0 c0 cm (k + 1) (tx_un (tk_T K) (tk_V K) (k + 1)) := by
  intro dp t W c h Q hdk a hW h6 K1 K0
  have hm4 := b.2.1.1
  have hcm := b.2.2.2
  rw [tx_un_s] at K1 K0
  by_cases hk : tk_T K t = 6
  · rw [if_neg (by omega), if_neg (by omega), if_pos hk] at K1 K0
    have hs := xs_s b a
    have hR := xs_R b a
    have h11 := a.2.2.2.2.1
    have h12 := a.2.2.2.2.2.1
    have h13 := hR.2.2.2
    have h39 := a.2.2.2.2.2.2.2.2.1
    have h43 := a.2.2.2.2.2.2.1
    have h151 := a.2.2.2.2.2.2.2.1
    have hbd := a.2.2.2.2.2.2.2.2.2.2.2
    have htm := hR.2.1
    obtain ⟨z1, z2, z3, z4, z5, z6⟩ := hR.1.2.2 t htm
    by_cases h400 : 400 ≤ t
    · rw [if_pos h400] at K0
      refine xe_aload_n dX10_expression_23 rfl ?_
      refine xe_bipush dX10_expression_24 kb_6 ?_
      refine xe_callVI (d' := 0) (y' := mX10_is) dX10_expression_26 mlX10_216 mvX10_is rfl (st124 hs) (by decide) rfl (by decide) (by decide) (Nat.le_of_ble_eq_true rfl) (c_X10_is_1 l g _ (by exact hs) hR hk) rfl ?_
      refine xn_if_eq (tgt := 84) dX10_expression_29 rfl (by omega) (fun c1 => ?_) (fun c1 => ?_)
      · omega
      · refine xe_aload_n dX10_expression_32 rfl ?_
        refine xe_getIv dX10_expression_33 flX10_225 (st124 hs) (by decide) rfl (v := nI dp) (h12) ?_
        refine xe_bipush dX10_expression_36 kb_6 ?_
        refine xn_icmp_ne (tgt := 46) dX10_expression_38 rfl (by omega) (by omega) (fun c2 => ?_) (fun c2 => ?_)
        · refine xe_aload_n dX10_expression_46 rfl ?_
          refine xe_dup dX10_expression_47 rfl ?_
          refine xe_getIv dX10_expression_48 flX10_225 (st124 hs) (by decide) rfl (v := nI dp) (h12) ?_
          refine xe_iconst dX10_expression_51 kc_1 ?_
          refine xn_iadd dX10_expression_52 ?_
          refine xe_putI dX10_expression_53 flX10_225 (st124 hs) (by decide) rfl (Or.inl rfl) rfl rfl ?_
          refine xe_aload_n dX10_expression_56 rfl ?_
          refine xe_callVV (d' := 1) (y' := mX10_goesOn) dX10_expression_57 mlX10_219 mvX10_goesOn rfl (st124 hs) (by decide) rfl (by decide) (by decide) (Nat.le_of_ble_eq_true rfl) (c_X10_goesOn_f l g _ (by exact hs) (t := t) (by refine ⟨rt_Tc hR.1 ?_ ?_ ?_ ?_, hR.2.1, ?_, ?_⟩ <;> first | exact rfl | exact h11 | exact h13) (by omega)) rfl ?_
          refine xe_aload_n dX10_expression_60 rfl ?_
          refine xe_getP dX10_expression_61 flX10_98 (st124 hs) (by decide) rfl (sp124_42 hs) ?_
          refine xe_aload_n dX10_expression_64 rfl ?_
          refine xe_getIv dX10_expression_65 flX10_295 (st124 hs) (by decide) rfl (v := nI W.length) (h43) ?_
          refine xe_bipush dX10_expression_68 kb_6 ?_
          refine xn_iast dX10_expression_70 (st151 hs) (by omega) (by decide) ?_
          refine xe_aload_n dX10_expression_71 rfl ?_
          refine xe_dup dX10_expression_72 rfl ?_
          refine xe_getIv dX10_expression_73 flX10_295 (st124 hs) (by decide) rfl (v := nI W.length) (h43) ?_
          refine xe_iconst dX10_expression_76 kc_1 ?_
          refine xn_iadd dX10_expression_77 ?_
          refine xe_putI dX10_expression_78 flX10_295 (st124 hs) (by decide) rfl (Or.inl rfl) rfl rfl ?_
          refine xe_goto (tgt := 23) dX10_expression_81 rfl ?_
          refine xe_aload_n dX10_expression_23 rfl ?_
          refine xe_bipush dX10_expression_24 kb_6 ?_
          refine xe_callVI (d' := 0) (y' := mX10_is) dX10_expression_26 mlX10_216 mvX10_is rfl (st124 hs) (by decide) rfl (by decide) (by decide) (Nat.le_of_ble_eq_true rfl) (c_X10_is_f l g _ (by exact hs) (by exact rfl) (by decide) (by decide) _) rfl ?_
          refine xn_if_eq (tgt := 84) dX10_expression_29 rfl (by omega) (fun c3 => ?_) (fun c3 => ?_)
          · refine xe_aload_n dX10_expression_84 rfl ?_
            refine xe_callVV (d' := 2) (y' := mX10_unit) dX10_expression_85 mlX10_301 mvX10_unit rfl (st124 hs) (by decide) rfl (by decide) (by decide) (Nat.le_of_ble_eq_true rfl) (c_X10_unit_b l g _ (by exact hs) (by exact rfl) (by decide) (by decide)) rfl ?_
            refine xe_aload_n dX10_expression_88 rfl ?_
            refine xe_getIv dX10_expression_89 flX10_198 (st124 hs) (by decide) rfl (v := nI 2) (rfl) ?_
            refine xn_if_le (tgt := 96) dX10_expression_92 rfl (by omega) (fun c4 => ?_) (fun c4 => ?_)
            · omega
            · refine xe_return dX10_expression_95 rfl ?_
              exact K0 (2, t) _ rfl (xs_bad (e := (2, t)) (t1 := t) a (by omega) rfl (fun r a1 a2 => by repeat (first | exact rfl | refine (q_Ine (by assumption)).trans ?_)) (fun k a1 a2 a3 a4 a5 => by repeat (first | exact rfl | refine (pk_un (by assumption)).trans ?_)) rfl rfl (show 1 ≤ 2 by decide) (show 2 ≤ 5 by decide) h11 (by omega))
          · omega
        · omega
    · rw [if_neg h400] at K1 K0
      have hgo := rt_go hR.1 htm (by omega) (by omega)
      have hgoon : ∀ h2, q_xs K m h0 c0 cm (t + 1) (dp + 1) (6 :: W) c h2 → q_Ex l g 3 mX10_expression 23 [(0, .ref 124), (1, .int (nI 0)), (2, .int (nI 1))] [] h2 Q := fun h2 a2 => by
        refine ex_sum l g b hU (tx_un_ok k) (dp := dp + 1) (by omega) a2 (by show W.length + 1 ≤ _; omega) (Or.inl rfl) (q_s6_c (Or.inl rfl) h6) (fun kc' as' ms' x h3 hx hx1 hx2 hx3 a hx5 hx6 => ?_) (fun er h3 hx xb => K0 er h3 (by rw [hx]; rfl) xb)
        rw [hx] at K1 K0
        have K1 : ∀ (y : List (Nat × Int32) × Nat) (h' : q_H), (tx_b (tx_ck (tk_T K) 7 x.2) (.inr (x.1, x.2 + 1)) : q_XR) = .inr y → q_xs K m h0 c0 cm y.2 dp W (c ++ y.1) h' → q_Ex l g 3 mX10_expression 96 [(0, .ref 124), (1, .int (nI 0)), (2, .int (nI 1))] [] h' Q := K1
        have K0 : ∀ (e : Nat × Nat) (h' : q_H), (tx_b (tx_ck (tk_T K) 7 x.2) (.inr (x.1, x.2 + 1)) : q_XR) = .inl e → q_xb K h0 c0 cm e h' → Q none h' := K0
        have hs := xs_s b a
        have hR := xs_R b a
        have h11 := a.2.2.2.2.1
        have h12 := a.2.2.2.2.2.1
        have h13 := hR.2.2.2
        have h39 := a.2.2.2.2.2.2.2.2.1
        have h43 := a.2.2.2.2.2.2.1
        have h151 := a.2.2.2.2.2.2.2.1
        have hbd := a.2.2.2.2.2.2.2.2.2.2.2
        have l1 := hx3.1
        have l2 := hx2.1
        have htx := hR.2.1
        obtain ⟨z1, z2, z3, z4, z5, z6⟩ := hR.1.2.2 x.2 htx
        have lW : (6 :: W).length = W.length + 1 := rfl
        have lm : (ms' ++ as' ++ (6 :: W)).length = ms'.length + as'.length + (W.length + 1) := by rw [List.length_append, List.length_append, lW]
        have l9 : (ms' ++ as').length = ms'.length + as'.length := List.length_append
        have lem : (q_emo (ms' ++ as')).length = (ms' ++ as').length := List.length_map _
        have o1 : ∀ x ∈ ms', x ≠ 6 := fun x hx => by have := hx2.2 x hx; omega
        have o2 : ∀ x ∈ as', x ≠ 6 := fun x hx => by have := hx3.2 x hx; omega
        have q1 := q_ops_app ms' (as' ++ (6 :: W)) o1
        have q2 := q_ops_app as' (6 :: W) o2
        have q3 : q_ops (6 :: W) = 0 + q_ops W := rfl
        have em1 : q_emo (ms' ++ as') = q_emo ms' ++ q_emo as' := List.map_append
        have ecc : c ++ kc' ++ q_emo (ms' ++ as') = c ++ x.1 := by rw [hx1, em1]; simp only [List.append_assoc]
        have hxl : x.1.length = kc'.length + (ms'.length + as'.length) := by rw [hx1, List.length_append, List.length_append]; show _ + (ms'.map _).length + (as'.map _).length = _; rw [List.length_map, List.length_map, Nat.add_assoc]
        have lcc : (c ++ kc').length = c.length + kc'.length := List.length_append
        have lcx : (c ++ x.1).length = c.length + x.1.length := List.length_append
        by_cases hk7 : tk_T K x.2 = 7
        · by_cases h4 : 400 ≤ x.2
          · rw [tx_ck_2 hk7 h4] at K0
            obtain ⟨P9, r9, d1, d2, d3⟩ := q_s6_d W h6
            refine xe_aload_n dX10_expression_96 rfl ?_
            refine xe_bipush dX10_expression_97 kb_7 ?_
            refine xe_callVI (d' := 0) (y' := mX10_is) dX10_expression_99 mlX10_216 mvX10_is rfl (st124 hs) (by decide) rfl (by decide) (by decide) (Nat.le_of_ble_eq_true rfl) (c_X10_is_1 l g _ (by exact hs) hR hk7) rfl ?_
            refine xn_if_eq (tgt := 145) dX10_expression_102 rfl (by omega) (fun c1 => ?_) (fun c1 => ?_)
            · omega
            · refine xe_aload_n dX10_expression_105 rfl ?_
              refine xe_getIv dX10_expression_106 flX10_225 (st124 hs) (by decide) rfl (v := nI (dp + 1)) (h12) ?_
              refine xe_iload_n dX10_expression_109 rfl ?_
              refine xn_icmp_le (tgt := 145) dX10_expression_110 rfl (by omega) (by omega) (fun c2 => ?_) (fun c2 => ?_)
              · omega
              · refine xe_aload_n dX10_expression_113 rfl ?_
                refine xe_iconst dX10_expression_114 kc_0 ?_
                refine xe_callVVq (d' := 1) (y' := mX10_comesOut) dX10_expression_115 mlX10_304 mvX10_comesOut rfl (st124 hs) (by decide) rfl (by decide) (by decide) (Nat.le_of_ble_eq_true rfl) (c_X10_comesOut l g _ hs (s := 0) (P := ms' ++ as') (w := (6 :: W)) (by decide) (q_pop0 hx2 hx3) (Or.inl rfl) (by rw [List.append_assoc]; exact h43) (by rw [List.append_assoc]; exact h151) (by omega) h39 (by omega)) rfl (fun hc3 hc3q => ?_)
                have a := xs_ce (W1 := (6 :: W)) a hc3q (q_wk_tl (P := ms' ++ as') (by rw [List.append_assoc]; exact h151)) (by omega) (by omega)
                rw [ecc] at a
                have hs := xs_s b a
                have hR := xs_R b a
                have h11 := a.2.2.2.2.1
                have h12 := a.2.2.2.2.2.1
                have h13 := hR.2.2.2
                have h39 := a.2.2.2.2.2.2.2.2.1
                have h43 := a.2.2.2.2.2.2.1
                have h151 := a.2.2.2.2.2.2.2.1
                have hbd := a.2.2.2.2.2.2.2.2.2.2.2
                refine xe_aload_n dX10_expression_118 rfl ?_
                refine xe_dup dX10_expression_119 rfl ?_
                refine xe_getIv dX10_expression_120 flX10_295 (st124 hs) (by decide) rfl (v := nI (W.length + 1)) (h43) ?_
                refine xe_iconst dX10_expression_123 kc_1 ?_
                refine xn_isub dX10_expression_124 (by omega) ?_
                refine xe_putI dX10_expression_125 flX10_295 (st124 hs) (by decide) rfl (Or.inl rfl) rfl rfl ?_
                refine xe_aload_n dX10_expression_128 rfl ?_
                refine xe_dup dX10_expression_129 rfl ?_
                refine xe_getIv dX10_expression_130 flX10_225 (st124 hs) (by decide) rfl (v := nI (dp + 1)) (h12) ?_
                refine xe_iconst dX10_expression_133 kc_1 ?_
                refine xn_isub dX10_expression_134 (by omega) ?_
                refine xe_putI dX10_expression_135 flX10_225 (st124 hs) (by decide) rfl (Or.inl rfl) rfl rfl ?_
                refine xe_aload_n dX10_expression_138 rfl ?_
                refine xe_callVV (d' := 1) (y' := mX10_goesOn) dX10_expression_139 mlX10_219 mvX10_goesOn rfl (st124 hs) (by decide) rfl (by decide) (by decide) (Nat.le_of_ble_eq_true rfl) (c_X10_goesOn_f l g _ (by exact hs) (t := x.2) (by refine ⟨rt_Tc hR.1 ?_ ?_ ?_ ?_, hR.2.1, ?_, ?_⟩ <;> first | exact rfl | exact h11 | exact h13) (by omega)) rfl ?_
                refine xe_goto (tgt := 96) dX10_expression_142 rfl ?_
                refine xe_aload_n dX10_expression_96 rfl ?_
                refine xe_bipush dX10_expression_97 kb_7 ?_
                refine xe_callVI (d' := 0) (y' := mX10_is) dX10_expression_99 mlX10_216 mvX10_is rfl (st124 hs) (by decide) rfl (by decide) (by decide) (Nat.le_of_ble_eq_true rfl) (c_X10_is_f l g _ (by exact hs) (by exact rfl) (by decide) (by decide) _) rfl ?_
                refine xn_if_eq (tgt := 145) dX10_expression_102 rfl (by omega) (fun c4 => ?_) (fun c4 => ?_)
                · refine xe_aload_n dX10_expression_145 rfl ?_
                  refine xe_bipush dX10_expression_146 kb_8 ?_
                  refine xe_callVI (d' := 0) (y' := mX10_is) dX10_expression_148 mlX10_216 mvX10_is rfl (st124 hs) (by decide) rfl (by decide) (by decide) (Nat.le_of_ble_eq_true rfl) (c_X10_is_f l g _ (by exact hs) (by exact rfl) (by decide) (by decide) _) rfl ?_
                  refine xn_if_ne (tgt := 181) dX10_expression_151 rfl (by omega) (fun c5 => ?_) (fun c5 => ?_)
                  · omega
                  · refine xe_aload_n dX10_expression_154 rfl ?_
                    refine xe_bipush dX10_expression_155 kb_9 ?_
                    refine xe_callVI (d' := 0) (y' := mX10_is) dX10_expression_157 mlX10_216 mvX10_is rfl (st124 hs) (by decide) rfl (by decide) (by decide) (Nat.le_of_ble_eq_true rfl) (c_X10_is_f l g _ (by exact hs) (by exact rfl) (by decide) (by decide) _) rfl ?_
                    refine xn_if_ne (tgt := 181) dX10_expression_160 rfl (by omega) (fun c6 => ?_) (fun c6 => ?_)
                    · omega
                    · refine xe_aload_n dX10_expression_163 rfl ?_
                      refine xe_bipush dX10_expression_164 kb_10 ?_
                      refine xe_callVI (d' := 0) (y' := mX10_is) dX10_expression_166 mlX10_216 mvX10_is rfl (st124 hs) (by decide) rfl (by decide) (by decide) (Nat.le_of_ble_eq_true rfl) (c_X10_is_f l g _ (by exact hs) (by exact rfl) (by decide) (by decide) _) rfl ?_
                      refine xn_if_ne (tgt := 181) dX10_expression_169 rfl (by omega) (fun c7 => ?_) (fun c7 => ?_)
                      · omega
                      · refine xe_aload_n dX10_expression_172 rfl ?_
                        refine xe_bipush dX10_expression_173 kb_15 ?_
                        refine xe_callVI (d' := 0) (y' := mX10_is) dX10_expression_175 mlX10_216 mvX10_is rfl (st124 hs) (by decide) rfl (by decide) (by decide) (Nat.le_of_ble_eq_true rfl) (c_X10_is_f l g _ (by exact hs) (by exact rfl) (by decide) (by decide) _) rfl ?_
                        refine xn_if_eq (tgt := 185) dX10_expression_178 rfl (by omega) (fun c8 => ?_) (fun c8 => ?_)
                        · refine xe_iconst dX10_expression_185 kc_0 ?_
                          refine xe_istore_n (i := 2) dX10_expression_186 rfl (by decide) rfl ?_
                          refine xe_iload_n dX10_expression_187 rfl ?_
                          refine xn_if_ne (tgt := 210) dX10_expression_188 rfl (by omega) (fun c9 => ?_) (fun c9 => ?_)
                          · omega
                          · refine xe_aload_n dX10_expression_191 rfl ?_
                            refine xe_getIv dX10_expression_192 flX10_225 (st124 hs) (by decide) rfl (v := nI ((dp + 1) - 1)) (rfl) ?_
                            refine xe_iload_n dX10_expression_195 rfl ?_
                            refine xn_icmp_le (tgt := 204) dX10_expression_196 rfl (by omega) (by omega) (fun c10 => ?_) (fun c10 => ?_)
                            · refine xe_aload_n dX10_expression_204 rfl ?_
                              refine xe_iconst dX10_expression_205 kc_0 ?_
                              refine xe_callVVq (d' := 1) (y' := mX10_comesOut) dX10_expression_206 mlX10_304 mvX10_comesOut rfl (st124 hs) (by decide) rfl (by decide) (by decide) (Nat.le_of_ble_eq_true rfl) (c_X10_comesOut l g _ (by exact hs) (s := 0) (n := c0 + (c ++ x.1).length) (P := P9) (w := r9) (by decide) d2 d3 (by rw [← d1]; exact rfl) (by rw [← d1]; exact h151.2) (by rw [← d1]; omega) (by exact h39) (by have := q_ops_P d2 d1; omega)) rfl (fun hd11 hd11q => ?_)
                              refine xe_return dX10_expression_209 rfl ?_
                              refine K0 (2, x.2) _ rfl (xb_ce (n := c0 + (c ++ x.1).length) (xs_bad (e := (2, x.2)) (t1 := x.2) a (by omega) ?_ ?_ ?_ ?_ ?_ (show 1 ≤ 2 by decide) (show 2 ≤ 5 by decide) ?_ (by omega)) hd11q (by omega) (by have := q_ops_P d2 d1; have : (q_emo P9).length = P9.length := List.length_map _; omega))
                              · exact rfl
                              · exact (fun r a1 a2 => by repeat (first | exact rfl | refine (q_Ine (by assumption)).trans ?_))
                              · exact (fun k a1 a2 a3 a4 a5 => by repeat (first | exact rfl | refine (pk_un (by assumption)).trans ?_))
                              · exact rfl
                              · exact rfl
                              · exact h11
                            · refine xe_aload_n dX10_expression_199 rfl ?_
                              refine xe_iconst dX10_expression_200 kc_1 ?_
                              refine xe_callVV (d' := 0) (y' := mX10_fail) dX10_expression_201 mlX10_213 mvX10_fail rfl (st124 hs) (by decide) rfl (by decide) (by decide) (Nat.le_of_ble_eq_true rfl) (c_X10_fail_f l g _ (by exact hs) (by exact rfl) (by decide) (by decide) _) rfl ?_
                              refine xe_aload_n dX10_expression_204 rfl ?_
                              refine xe_iconst dX10_expression_205 kc_0 ?_
                              refine xe_callVVq (d' := 1) (y' := mX10_comesOut) dX10_expression_206 mlX10_304 mvX10_comesOut rfl (st124 hs) (by decide) rfl (by decide) (by decide) (Nat.le_of_ble_eq_true rfl) (c_X10_comesOut l g _ (by exact hs) (s := 0) (n := c0 + (c ++ x.1).length) (P := P9) (w := r9) (by decide) d2 d3 (by rw [← d1]; exact rfl) (by rw [← d1]; exact h151.2) (by rw [← d1]; omega) (by exact h39) (by have := q_ops_P d2 d1; omega)) rfl (fun hd12 hd12q => ?_)
                              refine xe_return dX10_expression_209 rfl ?_
                              refine K0 (2, x.2) _ rfl (xb_ce (n := c0 + (c ++ x.1).length) (xs_bad (e := (2, x.2)) (t1 := x.2) a (by omega) ?_ ?_ ?_ ?_ ?_ (show 1 ≤ 2 by decide) (show 2 ≤ 5 by decide) ?_ (by omega)) hd12q (by omega) (by have := q_ops_P d2 d1; have : (q_emo P9).length = P9.length := List.length_map _; omega))
                              · exact rfl
                              · exact (fun r a1 a2 => by repeat (first | exact rfl | refine (q_Ine (by assumption)).trans ?_))
                              · exact (fun k a1 a2 a3 a4 a5 => by repeat (first | exact rfl | refine (pk_un (by assumption)).trans ?_))
                              · exact rfl
                              · exact rfl
                              · exact h11
                        · omega
                · omega
          · rw [tx_ck_0 hk7 (by omega)] at K1
            have hgo := rt_go hR.1 htx (by omega) (by omega)
            refine xe_aload_n dX10_expression_96 rfl ?_
            refine xe_bipush dX10_expression_97 kb_7 ?_
            refine xe_callVI (d' := 0) (y' := mX10_is) dX10_expression_99 mlX10_216 mvX10_is rfl (st124 hs) (by decide) rfl (by decide) (by decide) (Nat.le_of_ble_eq_true rfl) (c_X10_is_1 l g _ (by exact hs) hR hk7) rfl ?_
            refine xn_if_eq (tgt := 145) dX10_expression_102 rfl (by omega) (fun c1 => ?_) (fun c1 => ?_)
            · omega
            · refine xe_aload_n dX10_expression_105 rfl ?_
              refine xe_getIv dX10_expression_106 flX10_225 (st124 hs) (by decide) rfl (v := nI (dp + 1)) (h12) ?_
              refine xe_iload_n dX10_expression_109 rfl ?_
              refine xn_icmp_le (tgt := 145) dX10_expression_110 rfl (by omega) (by omega) (fun c2 => ?_) (fun c2 => ?_)
              · omega
              · refine xe_aload_n dX10_expression_113 rfl ?_
                refine xe_iconst dX10_expression_114 kc_0 ?_
                refine xe_callVVq (d' := 1) (y' := mX10_comesOut) dX10_expression_115 mlX10_304 mvX10_comesOut rfl (st124 hs) (by decide) rfl (by decide) (by decide) (Nat.le_of_ble_eq_true rfl) (c_X10_comesOut l g _ hs (s := 0) (P := ms' ++ as') (w := (6 :: W)) (by decide) (q_pop0 hx2 hx3) (Or.inl rfl) (by rw [List.append_assoc]; exact h43) (by rw [List.append_assoc]; exact h151) (by omega) h39 (by omega)) rfl (fun hc3 hc3q => ?_)
                have a := xs_ce (W1 := (6 :: W)) a hc3q (q_wk_tl (P := ms' ++ as') (by rw [List.append_assoc]; exact h151)) (by omega) (by omega)
                rw [ecc] at a
                have hs := xs_s b a
                have hR := xs_R b a
                have h11 := a.2.2.2.2.1
                have h12 := a.2.2.2.2.2.1
                have h13 := hR.2.2.2
                have h39 := a.2.2.2.2.2.2.2.2.1
                have h43 := a.2.2.2.2.2.2.1
                have h151 := a.2.2.2.2.2.2.2.1
                have hbd := a.2.2.2.2.2.2.2.2.2.2.2
                refine xe_aload_n dX10_expression_118 rfl ?_
                refine xe_dup dX10_expression_119 rfl ?_
                refine xe_getIv dX10_expression_120 flX10_295 (st124 hs) (by decide) rfl (v := nI (W.length + 1)) (h43) ?_
                refine xe_iconst dX10_expression_123 kc_1 ?_
                refine xn_isub dX10_expression_124 (by omega) ?_
                refine xe_putI dX10_expression_125 flX10_295 (st124 hs) (by decide) rfl (Or.inl rfl) rfl rfl ?_
                refine xe_aload_n dX10_expression_128 rfl ?_
                refine xe_dup dX10_expression_129 rfl ?_
                refine xe_getIv dX10_expression_130 flX10_225 (st124 hs) (by decide) rfl (v := nI (dp + 1)) (h12) ?_
                refine xe_iconst dX10_expression_133 kc_1 ?_
                refine xn_isub dX10_expression_134 (by omega) ?_
                refine xe_putI dX10_expression_135 flX10_225 (st124 hs) (by decide) rfl (Or.inl rfl) rfl rfl ?_
                refine xe_aload_n dX10_expression_138 rfl ?_
                refine xe_callVV (d' := 1) (y' := mX10_goesOn) dX10_expression_139 mlX10_219 mvX10_goesOn rfl (st124 hs) (by decide) rfl (by decide) (by decide) (Nat.le_of_ble_eq_true rfl) (c_X10_goesOn_t l g _ (by exact hs) (t := x.2) (by exact h11) (by omega)) rfl ?_
                refine xe_goto (tgt := 96) dX10_expression_142 rfl ?_
                refine xe_locals (L' := [(0, .ref 124), (1, .int (nI 0)), (2, .int (nI 1))]) (And.intro rfl (And.intro rfl (And.intro rfl trivial))) ?_
                refine K1 (x.1, x.2 + 1) _ rfl (xs_mv (t1 := x.2 + 1) (dp1 := dp) (W1 := W) a ?_ ?_ ?_ hgo ?_ ?_ ?_ ?_ (by show c0 + (c ++ x.1).length + q_ops W + 401 ≤ cm + (x.2 + 1); omega))
                · exact rfl
                · exact (fun r a1 a2 => by repeat (first | exact rfl | refine (q_Ine (by assumption)).trans ?_))
                · exact (fun k a1 a2 a3 => by repeat (first | exact rfl | refine (pk_un (by assumption)).trans ?_))
                · exact rfl
                · exact congrArg nI (by omega)
                · exact congrArg nI (by omega)
                · exact h151.2
        · rw [tx_ck_1 hk7] at K0
          refine xe_aload_n dX10_expression_96 rfl ?_
          refine xe_bipush dX10_expression_97 kb_7 ?_
          refine xe_callVI (d' := 0) (y' := mX10_is) dX10_expression_99 mlX10_216 mvX10_is rfl (st124 hs) (by decide) rfl (by decide) (by decide) (Nat.le_of_ble_eq_true rfl) (c_X10_is_0 l g _ (by exact hs) hR (by decide) hk7) rfl ?_
          refine xn_if_eq (tgt := 145) dX10_expression_102 rfl (by omega) (fun c1 => ?_) (fun c1 => ?_)
          · refine xe_aload_n dX10_expression_145 rfl ?_
            refine xe_bipush dX10_expression_146 kb_8 ?_
            refine xe_callVI (d' := 0) (y' := mX10_is) dX10_expression_148 mlX10_216 mvX10_is rfl (st124 hs) (by decide) rfl (by decide) (by decide) (Nat.le_of_ble_eq_true rfl) (c_X10_is_0 l g _ (by exact hs) hR (by decide) (by omega)) rfl ?_
            refine xn_if_ne (tgt := 181) dX10_expression_151 rfl (by omega) (fun c2 => ?_) (fun c2 => ?_)
            · omega
            · refine xe_aload_n dX10_expression_154 rfl ?_
              refine xe_bipush dX10_expression_155 kb_9 ?_
              refine xe_callVI (d' := 0) (y' := mX10_is) dX10_expression_157 mlX10_216 mvX10_is rfl (st124 hs) (by decide) rfl (by decide) (by decide) (Nat.le_of_ble_eq_true rfl) (c_X10_is_0 l g _ (by exact hs) hR (by decide) (by omega)) rfl ?_
              refine xn_if_ne (tgt := 181) dX10_expression_160 rfl (by omega) (fun c3 => ?_) (fun c3 => ?_)
              · omega
              · refine xe_aload_n dX10_expression_163 rfl ?_
                refine xe_bipush dX10_expression_164 kb_10 ?_
                refine xe_callVI (d' := 0) (y' := mX10_is) dX10_expression_166 mlX10_216 mvX10_is rfl (st124 hs) (by decide) rfl (by decide) (by decide) (Nat.le_of_ble_eq_true rfl) (c_X10_is_0 l g _ (by exact hs) hR (by decide) (by omega)) rfl ?_
                refine xn_if_ne (tgt := 181) dX10_expression_169 rfl (by omega) (fun c4 => ?_) (fun c4 => ?_)
                · omega
                · refine xe_aload_n dX10_expression_172 rfl ?_
                  refine xe_bipush dX10_expression_173 kb_15 ?_
                  refine xe_callVI (d' := 0) (y' := mX10_is) dX10_expression_175 mlX10_216 mvX10_is rfl (st124 hs) (by decide) rfl (by decide) (by decide) (Nat.le_of_ble_eq_true rfl) (c_X10_is_0 l g _ (by exact hs) hR (by decide) (by omega)) rfl ?_
                  refine xn_if_eq (tgt := 185) dX10_expression_178 rfl (by omega) (fun c5 => ?_) (fun c5 => ?_)
                  · refine xe_iconst dX10_expression_185 kc_0 ?_
                    refine xe_istore_n (i := 2) dX10_expression_186 rfl (by decide) rfl ?_
                    refine xe_iload_n dX10_expression_187 rfl ?_
                    refine xn_if_ne (tgt := 210) dX10_expression_188 rfl (by omega) (fun c6 => ?_) (fun c6 => ?_)
                    · omega
                    · refine xe_aload_n dX10_expression_191 rfl ?_
                      refine xe_getIv dX10_expression_192 flX10_225 (st124 hs) (by decide) rfl (v := nI (dp + 1)) (h12) ?_
                      refine xe_iload_n dX10_expression_195 rfl ?_
                      refine xn_icmp_le (tgt := 204) dX10_expression_196 rfl (by omega) (by omega) (fun c7 => ?_) (fun c7 => ?_)
                      · omega
                      · refine xe_aload_n dX10_expression_199 rfl ?_
                        refine xe_iconst dX10_expression_200 kc_1 ?_
                        refine xe_callVV (d' := 0) (y' := mX10_fail) dX10_expression_201 mlX10_213 mvX10_fail rfl (st124 hs) (by decide) rfl (by decide) (by decide) (Nat.le_of_ble_eq_true rfl) (c_X10_fail_0 l g _ (by exact hs) hR _) rfl ?_
                        refine xe_aload_n dX10_expression_204 rfl ?_
                        refine xe_iconst dX10_expression_205 kc_0 ?_
                        refine xe_callVVq (d' := 1) (y' := mX10_comesOut) dX10_expression_206 mlX10_304 mvX10_comesOut rfl (st124 hs) (by decide) rfl (by decide) (by decide) (Nat.le_of_ble_eq_true rfl) (c_X10_comesOut l g _ (by exact hs) (s := 0) (n := c0 + (c ++ kc').length) (P := ms' ++ as') (w := 6 :: W) (by decide) (q_pop0 hx2 hx3) (Or.inl rfl) (by rw [List.append_assoc]; exact h43) (by rw [List.append_assoc]; exact h151) (by omega) (by exact h39) (by omega)) rfl (fun he8 he8q => ?_)
                        refine xe_return dX10_expression_209 rfl ?_
                        refine K0 (1, x.2) _ rfl (xb_ce (n := c0 + (c ++ kc').length) (xs_bad (e := (1, x.2)) (t1 := x.2) a (by omega) ?_ ?_ ?_ ?_ ?_ (show 1 ≤ 1 by decide) (show 1 ≤ 5 by decide) ?_ (by omega)) he8q (by omega) (by omega))
                        · exact rfl
                        · exact (fun r a1 a2 => by repeat (first | exact rfl | refine (q_Ine (by assumption)).trans ?_))
                        · exact (fun k a1 a2 a3 a4 a5 => by repeat (first | exact rfl | refine (pk_un (by assumption)).trans ?_))
                        · exact rfl
                        · exact rfl
                        · exact h11
                  · omega
          · omega
      refine xe_aload_n dX10_expression_23 rfl ?_
      refine xe_bipush dX10_expression_24 kb_6 ?_
      refine xe_callVI (d' := 0) (y' := mX10_is) dX10_expression_26 mlX10_216 mvX10_is rfl (st124 hs) (by decide) rfl (by decide) (by decide) (Nat.le_of_ble_eq_true rfl) (c_X10_is_1 l g _ (by exact hs) hR hk) rfl ?_
      refine xn_if_eq (tgt := 84) dX10_expression_29 rfl (by omega) (fun c1 => ?_) (fun c1 => ?_)
      · omega
      · refine xe_aload_n dX10_expression_32 rfl ?_
        refine xe_getIv dX10_expression_33 flX10_225 (st124 hs) (by decide) rfl (v := nI dp) (h12) ?_
        refine xe_bipush dX10_expression_36 kb_6 ?_
        refine xn_icmp_ne (tgt := 46) dX10_expression_38 rfl (by omega) (by omega) (fun c2 => ?_) (fun c2 => ?_)
        · refine xe_aload_n dX10_expression_46 rfl ?_
          refine xe_dup dX10_expression_47 rfl ?_
          refine xe_getIv dX10_expression_48 flX10_225 (st124 hs) (by decide) rfl (v := nI dp) (h12) ?_
          refine xe_iconst dX10_expression_51 kc_1 ?_
          refine xn_iadd dX10_expression_52 ?_
          refine xe_putI dX10_expression_53 flX10_225 (st124 hs) (by decide) rfl (Or.inl rfl) rfl rfl ?_
          refine xe_aload_n dX10_expression_56 rfl ?_
          refine xe_callVV (d' := 1) (y' := mX10_goesOn) dX10_expression_57 mlX10_219 mvX10_goesOn rfl (st124 hs) (by decide) rfl (by decide) (by decide) (Nat.le_of_ble_eq_true rfl) (c_X10_goesOn_t l g _ (by exact hs) (t := t) (by exact h11) (by omega)) rfl ?_
          refine xe_aload_n dX10_expression_60 rfl ?_
          refine xe_getP dX10_expression_61 flX10_98 (st124 hs) (by decide) rfl (sp124_42 hs) ?_
          refine xe_aload_n dX10_expression_64 rfl ?_
          refine xe_getIv dX10_expression_65 flX10_295 (st124 hs) (by decide) rfl (v := nI W.length) (h43) ?_
          refine xe_bipush dX10_expression_68 kb_6 ?_
          refine xn_iast dX10_expression_70 (st151 hs) (by omega) (by decide) ?_
          refine xe_aload_n dX10_expression_71 rfl ?_
          refine xe_dup dX10_expression_72 rfl ?_
          refine xe_getIv dX10_expression_73 flX10_295 (st124 hs) (by decide) rfl (v := nI W.length) (h43) ?_
          refine xe_iconst dX10_expression_76 kc_1 ?_
          refine xn_iadd dX10_expression_77 ?_
          refine xe_putI dX10_expression_78 flX10_295 (st124 hs) (by decide) rfl (Or.inl rfl) rfl rfl ?_
          refine xe_goto (tgt := 23) dX10_expression_81 rfl ?_
          refine xe_locals (L' := [(0, .ref 124), (1, .int (nI 0)), (2, .int (nI 1))]) (And.intro rfl (And.intro rfl (And.intro rfl trivial))) ?_
          refine hgoon _ (xs_mv (t1 := t + 1) (dp1 := dp + 1) (W1 := 6 :: W) a ?_ ?_ ?_ hgo ?_ ?_ ?_ ?_ (by show _ + (0 + q_ops W) + 401 ≤ _; omega))
          · exact rfl
          · exact (fun r a1 a2 => by repeat (first | exact rfl | refine (q_Ine (by assumption)).trans ?_))
          · exact (fun k a1 a2 a3 => by repeat (first | exact rfl | refine (pk_un (by assumption)).trans ?_))
          · exact rfl
          · exact rfl
          · exact rfl
          · exact ⟨pk_us, q_wk_up h151 (Nat.le_refl _)⟩
        · omega
  · have e : tx_un (tk_T K) (tk_V K) (k + 1) t = tx_u0 (tk_T K) (tk_V K) t := by
      rw [tx_un_s, if_neg hk]
      rfl
    rw [← tx_un_s] at K1 K0
    exact ex_u0 l g b hk a (fun x h' hx => K1 x h' (e.trans hx)) (fun er h' hx => K0 er h' (e.trans hx))
theorem ex_un (l : Launch) (g : q_GP) {K : q_TK} {m c0 cm : Nat} {h0 : q_H} (b : q_x0 K m h0 c0 cm) : ∀ k, q_UN l g K m h0 c0 cm k (tx_un (tk_T K) (tk_V K) k)
  | 0 => ex_un0 l g b
  | k + 1 => ex_unS l g b (ex_un l g b k)
/-- a whole sum -/
def q_xA (K : q_TK) (m : Nat) (h0 : q_H) (c0 cm : Nat) (o : q_XR) (r : Option Value) (h : q_H) : Prop := match o with
  | .inl e => r = none ∧ q_xb K h0 c0 cm e h
  | .inr x => r = none ∧ q_xs K m h0 c0 cm x.2 0 [] x.1 h
theorem c_X10_expression (l : Launch) (g : q_GP) {K : q_TK} {m c0 cm t : Nat} {h0 : q_H} (b : q_x0 K m h0 c0 cm) (ht : t ≤ m) (h11 : q_I h0 124 11 = nI t) (h12 : q_I h0 124 12 = nI 0) (h39 : q_I h0 124 39 = nI c0) (hbd : c0 + 401 ≤ cm + t) : q_Ct l g 3 mX10_expression [.ref 124] h0 (q_xA K m h0 c0 cm (tx_sum K 6 t)) := by
  have hs := b.1
  have h13 := b.2.2.1
  have hm4 := b.2.1.1
  have hcm := b.2.2.2
  refine q_CtV mvX10_expression (Nat.le_of_ble_eq_true rfl) ?_
  refine xe_aload_n dX10_expression_0 rfl ?_
  refine xe_iconst dX10_expression_1 kc_0 ?_
  refine xe_putI dX10_expression_2 flX10_295 (st124 hs) (by decide) rfl (Or.inl rfl) rfl rfl ?_
  refine xe_aload_n dX10_expression_5 rfl ?_
  refine xe_getIv dX10_expression_6 flX10_225 (st124 hs) (by decide) rfl (v := nI 0) (h12) ?_
  refine xe_istore_n (i := 1) dX10_expression_9 rfl (by decide) rfl ?_
  refine xe_iconst dX10_expression_10 kc_1 ?_
  refine xe_istore_n (i := 2) dX10_expression_11 rfl (by decide) rfl ?_
  refine xe_iload_n dX10_expression_12 rfl ?_
  refine xn_if_eq (tgt := 272) dX10_expression_13 rfl (by omega) (fun c1 => ?_) (fun c1 => ?_)
  · omega
  · refine xe_aload_n dX10_expression_16 rfl ?_
    refine xe_getIv dX10_expression_17 flX10_198 (st124 hs) (by decide) rfl (v := nI 0) (h13) ?_
    refine xn_if_ne (tgt := 272) dX10_expression_20 rfl (by omega) (fun c2 => ?_) (fun c2 => ?_)
    · omega
    · refine xe_locals (L' := [(0, .ref 124), (1, .int (nI 0)), (2, .int (nI 1))]) (And.intro rfl (And.intro rfl (And.intro rfl trivial))) ?_
      refine ex_sum l g b (ex_un l g b 6) (tx_un_ok 6) (dp := 0) (t := t) (W := []) (c := []) (by decide) ?_ (by decide) trivial (fun x hx => absurd hx List.not_mem_nil) (fun kc' as' ms' x h3 hx hx1 hx2 hx3 a hx5 hx6 => ?_) (fun er h3 hx xb => by rw [show tx_sum K 6 t = _ from hx]; exact ⟨rfl, xb⟩)
      · exact ⟨ht, rfl, fun r x _ _ _ => q_Ine x, fun k _ _ _ x => pk_un x, h11, h12, rfl, trivial, h39, fun i _ => ⟨rfl, rfl⟩, trivial, by show c0 + 0 + 0 + 401 ≤ _; omega⟩
      rw [show tx_sum K 6 t = _ from hx]
      have hs := xs_s b a
      have hR := xs_R b a
      have h11 := a.2.2.2.2.1
      have h12 := a.2.2.2.2.2.1
      have h13 := hR.2.2.2
      have h39 := a.2.2.2.2.2.2.2.2.1
      have h43 := a.2.2.2.2.2.2.1
      have h151 := a.2.2.2.2.2.2.2.1
      have hbd := a.2.2.2.2.2.2.2.2.2.2.2
      have l1 := hx3.1
      have l2 := hx2.1
      have htx := hR.2.1
      have l9 : (ms' ++ as').length = ms'.length + as'.length := List.length_append
      have l8 : (ms' ++ as' ++ ([] : List Nat)).length = ms'.length + as'.length := by rw [List.append_nil, l9]
      have lem : (q_emo (ms' ++ as')).length = (ms' ++ as').length := List.length_map _
      have o1 : ∀ x ∈ ms', x ≠ 6 := fun x hx => by have := hx2.2 x hx; omega
      have o2 : ∀ x ∈ as', x ≠ 6 := fun x hx => by have := hx3.2 x hx; omega
      have q1 := q_ops_app ms' (as' ++ []) o1
      have q2 := q_ops_app as' [] o2
      have em1 : q_emo (ms' ++ as') = q_emo ms' ++ q_emo as' := List.map_append
      have ecc : [] ++ kc' ++ q_emo (ms' ++ as') = x.1 := by rw [hx1, em1, List.nil_append, List.append_assoc]
      have lk : ([] ++ kc').length = kc'.length := rfl
      have q0 : q_ops [] = 0 := rfl
      by_cases hk7 : tk_T K x.2 = 7
      · refine xe_aload_n dX10_expression_96 rfl ?_
        refine xe_bipush dX10_expression_97 kb_7 ?_
        refine xe_callVI (d' := 0) (y' := mX10_is) dX10_expression_99 mlX10_216 mvX10_is rfl (st124 hs) (by decide) rfl (by decide) (by decide) (Nat.le_of_ble_eq_true rfl) (c_X10_is_1 l g _ (by exact hs) hR hk7) rfl ?_
        refine xn_if_eq (tgt := 145) dX10_expression_102 rfl (by omega) (fun c1 => ?_) (fun c1 => ?_)
        · omega
        · refine xe_aload_n dX10_expression_105 rfl ?_
          refine xe_getIv dX10_expression_106 flX10_225 (st124 hs) (by decide) rfl (v := nI 0) (h12) ?_
          refine xe_iload_n dX10_expression_109 rfl ?_
          refine xn_icmp_le (tgt := 145) dX10_expression_110 rfl (by omega) (by omega) (fun c2 => ?_) (fun c2 => ?_)
          · refine xe_aload_n dX10_expression_145 rfl ?_
            refine xe_bipush dX10_expression_146 kb_8 ?_
            refine xe_callVI (d' := 0) (y' := mX10_is) dX10_expression_148 mlX10_216 mvX10_is rfl (st124 hs) (by decide) rfl (by decide) (by decide) (Nat.le_of_ble_eq_true rfl) (c_X10_is_0 l g _ (by exact hs) hR (by decide) (by omega)) rfl ?_
            refine xn_if_ne (tgt := 181) dX10_expression_151 rfl (by omega) (fun c3 => ?_) (fun c3 => ?_)
            · omega
            · refine xe_aload_n dX10_expression_154 rfl ?_
              refine xe_bipush dX10_expression_155 kb_9 ?_
              refine xe_callVI (d' := 0) (y' := mX10_is) dX10_expression_157 mlX10_216 mvX10_is rfl (st124 hs) (by decide) rfl (by decide) (by decide) (Nat.le_of_ble_eq_true rfl) (c_X10_is_0 l g _ (by exact hs) hR (by decide) (by omega)) rfl ?_
              refine xn_if_ne (tgt := 181) dX10_expression_160 rfl (by omega) (fun c4 => ?_) (fun c4 => ?_)
              · omega
              · refine xe_aload_n dX10_expression_163 rfl ?_
                refine xe_bipush dX10_expression_164 kb_10 ?_
                refine xe_callVI (d' := 0) (y' := mX10_is) dX10_expression_166 mlX10_216 mvX10_is rfl (st124 hs) (by decide) rfl (by decide) (by decide) (Nat.le_of_ble_eq_true rfl) (c_X10_is_0 l g _ (by exact hs) hR (by decide) (by omega)) rfl ?_
                refine xn_if_ne (tgt := 181) dX10_expression_169 rfl (by omega) (fun c5 => ?_) (fun c5 => ?_)
                · omega
                · refine xe_aload_n dX10_expression_172 rfl ?_
                  refine xe_bipush dX10_expression_173 kb_15 ?_
                  refine xe_callVI (d' := 0) (y' := mX10_is) dX10_expression_175 mlX10_216 mvX10_is rfl (st124 hs) (by decide) rfl (by decide) (by decide) (Nat.le_of_ble_eq_true rfl) (c_X10_is_0 l g _ (by exact hs) hR (by decide) (by omega)) rfl ?_
                  refine xn_if_eq (tgt := 185) dX10_expression_178 rfl (by omega) (fun c6 => ?_) (fun c6 => ?_)
                  · refine xe_iconst dX10_expression_185 kc_0 ?_
                    refine xe_istore_n (i := 2) dX10_expression_186 rfl (by decide) rfl ?_
                    refine xe_iload_n dX10_expression_187 rfl ?_
                    refine xn_if_ne (tgt := 210) dX10_expression_188 rfl (by omega) (fun c7 => ?_) (fun c7 => ?_)
                    · omega
                    · refine xe_aload_n dX10_expression_191 rfl ?_
                      refine xe_getIv dX10_expression_192 flX10_225 (st124 hs) (by decide) rfl (v := nI 0) (h12) ?_
                      refine xe_iload_n dX10_expression_195 rfl ?_
                      refine xn_icmp_le (tgt := 204) dX10_expression_196 rfl (by omega) (by omega) (fun c8 => ?_) (fun c8 => ?_)
                      · refine xe_aload_n dX10_expression_204 rfl ?_
                        refine xe_iconst dX10_expression_205 kc_0 ?_
                        refine xe_callVVq (d' := 1) (y' := mX10_comesOut) dX10_expression_206 mlX10_304 mvX10_comesOut rfl (st124 hs) (by decide) rfl (by decide) (by decide) (Nat.le_of_ble_eq_true rfl) (c_X10_comesOut l g _ hs (s := 0) (P := ms' ++ as') (w := []) (by decide) (q_pop0 hx2 hx3) trivial (by rw [List.append_assoc]; exact h43) (by rw [List.append_assoc]; exact h151) (by omega) h39 (by omega)) rfl (fun h4 h4q => ?_)
                        have a := xs_ce (W1 := []) a h4q trivial (by omega) (by omega)
                        rw [ecc] at a
                        refine xe_return dX10_expression_209 rfl ?_
                        exact ⟨rfl, a⟩
                      · omega
                  · omega
          · omega
      · refine xe_aload_n dX10_expression_96 rfl ?_
        refine xe_bipush dX10_expression_97 kb_7 ?_
        refine xe_callVI (d' := 0) (y' := mX10_is) dX10_expression_99 mlX10_216 mvX10_is rfl (st124 hs) (by decide) rfl (by decide) (by decide) (Nat.le_of_ble_eq_true rfl) (c_X10_is_0 l g _ (by exact hs) hR (by decide) hk7) rfl ?_
        refine xn_if_eq (tgt := 145) dX10_expression_102 rfl (by omega) (fun c1 => ?_) (fun c1 => ?_)
        · refine xe_aload_n dX10_expression_145 rfl ?_
          refine xe_bipush dX10_expression_146 kb_8 ?_
          refine xe_callVI (d' := 0) (y' := mX10_is) dX10_expression_148 mlX10_216 mvX10_is rfl (st124 hs) (by decide) rfl (by decide) (by decide) (Nat.le_of_ble_eq_true rfl) (c_X10_is_0 l g _ (by exact hs) hR (by decide) (by omega)) rfl ?_
          refine xn_if_ne (tgt := 181) dX10_expression_151 rfl (by omega) (fun c2 => ?_) (fun c2 => ?_)
          · omega
          · refine xe_aload_n dX10_expression_154 rfl ?_
            refine xe_bipush dX10_expression_155 kb_9 ?_
            refine xe_callVI (d' := 0) (y' := mX10_is) dX10_expression_157 mlX10_216 mvX10_is rfl (st124 hs) (by decide) rfl (by decide) (by decide) (Nat.le_of_ble_eq_true rfl) (c_X10_is_0 l g _ (by exact hs) hR (by decide) (by omega)) rfl ?_
            refine xn_if_ne (tgt := 181) dX10_expression_160 rfl (by omega) (fun c3 => ?_) (fun c3 => ?_)
            · omega
            · refine xe_aload_n dX10_expression_163 rfl ?_
              refine xe_bipush dX10_expression_164 kb_10 ?_
              refine xe_callVI (d' := 0) (y' := mX10_is) dX10_expression_166 mlX10_216 mvX10_is rfl (st124 hs) (by decide) rfl (by decide) (by decide) (Nat.le_of_ble_eq_true rfl) (c_X10_is_0 l g _ (by exact hs) hR (by decide) (by omega)) rfl ?_
              refine xn_if_ne (tgt := 181) dX10_expression_169 rfl (by omega) (fun c4 => ?_) (fun c4 => ?_)
              · omega
              · refine xe_aload_n dX10_expression_172 rfl ?_
                refine xe_bipush dX10_expression_173 kb_15 ?_
                refine xe_callVI (d' := 0) (y' := mX10_is) dX10_expression_175 mlX10_216 mvX10_is rfl (st124 hs) (by decide) rfl (by decide) (by decide) (Nat.le_of_ble_eq_true rfl) (c_X10_is_0 l g _ (by exact hs) hR (by decide) (by omega)) rfl ?_
                refine xn_if_eq (tgt := 185) dX10_expression_178 rfl (by omega) (fun c5 => ?_) (fun c5 => ?_)
                · refine xe_iconst dX10_expression_185 kc_0 ?_
                  refine xe_istore_n (i := 2) dX10_expression_186 rfl (by decide) rfl ?_
                  refine xe_iload_n dX10_expression_187 rfl ?_
                  refine xn_if_ne (tgt := 210) dX10_expression_188 rfl (by omega) (fun c6 => ?_) (fun c6 => ?_)
                  · omega
                  · refine xe_aload_n dX10_expression_191 rfl ?_
                    refine xe_getIv dX10_expression_192 flX10_225 (st124 hs) (by decide) rfl (v := nI 0) (h12) ?_
                    refine xe_iload_n dX10_expression_195 rfl ?_
                    refine xn_icmp_le (tgt := 204) dX10_expression_196 rfl (by omega) (by omega) (fun c7 => ?_) (fun c7 => ?_)
                    · refine xe_aload_n dX10_expression_204 rfl ?_
                      refine xe_iconst dX10_expression_205 kc_0 ?_
                      refine xe_callVVq (d' := 1) (y' := mX10_comesOut) dX10_expression_206 mlX10_304 mvX10_comesOut rfl (st124 hs) (by decide) rfl (by decide) (by decide) (Nat.le_of_ble_eq_true rfl) (c_X10_comesOut l g _ hs (s := 0) (P := ms' ++ as') (w := []) (by decide) (q_pop0 hx2 hx3) trivial (by rw [List.append_assoc]; exact h43) (by rw [List.append_assoc]; exact h151) (by omega) h39 (by omega)) rfl (fun h4 h4q => ?_)
                      have a := xs_ce (W1 := []) a h4q trivial (by omega) (by omega)
                      rw [ecc] at a
                      refine xe_return dX10_expression_209 rfl ?_
                      exact ⟨rfl, a⟩
                    · omega
                · omega
        · omega
