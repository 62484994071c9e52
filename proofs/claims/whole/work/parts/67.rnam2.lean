/-! the reference: named, known, bounded, notes -/
theorem tx_lf_or {e : Option (Nat × Nat)} {a b : Bool} {k u : Nat} : tx_lf e (a || b) k u = tx_lf (tx_lf e a k u) b k u := by
  cases e with
  | some e => rfl
  | none => cases a <;> rfl
theorem tx_lf_f {e : Option (Nat × Nat)} {k u : Nat} : tx_lf e false k u = e := by cases e <;> rfl
theorem nm_has_tk {x : List Nat} : ∀ {N : q_NM} {i : Nat}, i < N.length → nm_has x (N.take (i + 1)) = (nm_has x (N.take i) || decide ((N.getD i q_nd).1 = x))
  | [], i, h => absurd h (Nat.not_lt_zero _)
  | y :: N, 0, h => by
    show (decide (y.1 = x) || false) = (false || decide (y.1 = x))
    rw [Bool.or_false, Bool.false_or]
  | y :: N, i + 1, h => by
    have ih := nm_has_tk (x := x) (N := N) (i := i) (by have : i + 1 < N.length + 1 := h; omega)
    show (decide (y.1 = x) || nm_has x (N.take (i + 1))) = ((decide (y.1 = x) || nm_has x (N.take i)) || decide ((N.getD i q_nd).1 = x))
    rw [ih, Bool.or_assoc]
theorem c_X10_named_t (l : Launch) (g : q_GP) (h : q_H) (hs : q_Stat h) {K : q_TK} {m t : Nat} (hR : rt_R h K m t) (hinc : q_inc K m) {e : Option (Nat × Nat)} (hlf : q_lfr K t (q_I h 124 15) (q_I h 124 16) e) {N : q_NM} (hN : rn_N h N) (hck : tx_ck (tk_T K) 1 t = none) : q_Ct l g 3 mX10_named [.ref 124] h (fun r h1 => r = some (.int (nI t)) ∧ ∃ a b, h1 = q_wI h 124 (upd (upd (upd (q_I h 124) 11 (nI (t + 1))) 15 a) 16 b) ∧ q_lfr K (t + 1) a b (tx_lf e (nm_has (tk_N K t) N) 3 t)) := by
  obtain ⟨hT, ht, h11, h13⟩ := id hR
  obtain ⟨hm4, hme, hti⟩ := id hT
  obtain ⟨z1, z2, z3, z4, z5, z6⟩ := hti t ht
  obtain ⟨hk, ht4⟩ := tx_ck_none hck
  have hx := z5 hk
  have hN16 := hN.2.1
  refine q_CtV mvX10_named (Nat.le_of_ble_eq_true rfl) ?_
  refine xe_aload_n dX10_named_0 rfl ?_
  refine xe_getIv dX10_named_1 flX10_201 (st124 hs) (by decide) rfl (v := nI t) (h11) ?_
  refine xe_istore_n (i := 1) dX10_named_4 rfl (by decide) rfl ?_
  refine xe_aload_n dX10_named_5 rfl ?_
  refine xe_iconst dX10_named_6 kc_1 ?_
  refine xe_callVV (d' := 2) (y' := mX10_must) dX10_named_7 mlX10_275 mvX10_must rfl (st124 hs) (by decide) rfl (by decide) (by decide) (Nat.le_of_ble_eq_true rfl) (c_X10_must_t l g _ (by exact hs) hR (k := 1) hck) rfl ?_
  refine xe_iconst dX10_named_10 kc_0 ?_
  refine xe_istore_n (i := 2) dX10_named_11 rfl (by decide) rfl ?_
  refine xe_fin (L' := (fun (i : Nat) (s1 : Int32 × Int32) => [(0, .ref 124), (1, .int (nI t)), (2, .int (nI i))]) 0 ((q_I h 124 15), (q_I h 124 16))) (h' := (fun (i : Nat) (s1 : Int32 × Int32) => (q_wI h 124 (upd (upd (upd (q_I h 124) 11 (nI (t + 1))) 15 s1.1) 16 s1.2))) 0 ((q_I h 124 15), (q_I h 124 16))) ?_ (And.intro rfl (And.intro rfl (And.intro rfl trivial))) (q_heq [124] (H := h) (by repeat (first | exact q_out_r | refine q_out_w rfl ?_)) (by repeat (first | exact q_out_r | refine q_out_w rfl ?_)) (And.intro (q_feq [11, 15, 16] (f := q_I h 124) (by repeat (first | exact q_fout_r | refine q_fout_w rfl ?_)) (by repeat (first | exact q_fout_r | refine q_fout_w rfl ?_)) (And.intro rfl (And.intro rfl (And.intro rfl trivial)))) trivial))
  refine xe_loopI (σ := Int32 × Int32) (N.length) (fun i s => q_lfu K 3 t s.1 s.2 (tx_lf e (nm_has (tk_N K t) (N.take i)) 3 t)) (fun (i : Nat) (s1 : Int32 × Int32) => [(0, .ref 124), (1, .int (nI t)), (2, .int (nI i))]) (fun (i : Nat) (s1 : Int32 × Int32) => (q_wI h 124 (upd (upd (upd (q_I h 124) 11 (nI (t + 1))) 15 s1.1) 16 s1.2))) ((q_I h 124 15), (q_I h 124 16)) ((by rw [show nm_has (tk_N K t) (N.take 0) = false from rfl, tx_lf_f]; exact lfu_of hlf)) (fun i hi s1 e1 K1 => ?_) (fun s1 e1 => ?_)
  · obtain ⟨n1, n2, n3, n4, n5⟩ := hN.2.2 i hi
    refine xe_iload_n dX10_named_12 rfl ?_
    refine xe_aload_n dX10_named_13 rfl ?_
    refine xe_getIv dX10_named_14 flX10_234 (st124 hs) (by decide) rfl (v := nI N.length) (hN.1) ?_
    refine xn_icmp_ge (tgt := 55) dX10_named_17 rfl (by omega) (by omega) (fun c2 => ?_) (fun c2 => ?_)
    · omega
    · refine xe_aload_n dX10_named_20 rfl ?_
      refine xe_getIv dX10_named_21 flX10_198 (st124 hs) (by decide) rfl (v := nI 0) (h13) ?_
      refine xn_if_ne (tgt := 55) dX10_named_24 rfl (by omega) (fun c3 => ?_) (fun c3 => ?_)
      · omega
      · refine xe_aload_n dX10_named_27 rfl ?_
        refine xe_getP dX10_named_28 flX10_40 (st124 hs) (by decide) rfl (sp124_21 hs) ?_
        refine xe_iload_n dX10_named_31 rfl ?_
        refine xn_laldv dX10_named_32 (st132 hs) (by omega) (by decide) (v := (q_e27 (N.getD i q_nd).1)) (n1) ?_
        refine xe_aload_n dX10_named_33 rfl ?_
        refine xe_getP dX10_named_34 flX10_30 (st124 hs) (by decide) rfl (sp124_8 hs) ?_
        refine xe_iload_n dX10_named_37 rfl ?_
        refine xn_laldv dX10_named_38 (st130 hs) (by omega) (by decide) (v := (q_e27 (tk_N K t))) (hx.1) ?_
        refine xe_lcmp dX10_named_39 ?_
        refine xe_if_ne (tgt := 49) dX10_named_40 rfl (fun c_e => ?_) (fun c_e => ?_)
        · skip
          refine xn_iinc dX10_named_49 rfl kc_1 ?_
          refine xe_goto (tgt := 12) dX10_named_52 rfl ?_
          exact xe_fin (K1 (s1.1, s1.2) ((by rw [nm_has_tk hi, decide_eq_false (fun q => c_e (q_cmp0.mpr (by rw [q]))), Bool.or_false]; exact e1))) (And.intro rfl (And.intro rfl (And.intro rfl trivial))) (q_heq [124] (H := h) (by repeat (first | exact q_out_r | refine q_out_w rfl ?_)) (by repeat (first | exact q_out_r | refine q_out_w rfl ?_)) (And.intro (q_feq [11, 15, 16] (f := q_I h 124) (by repeat (first | exact q_fout_r | refine q_fout_w rfl ?_)) (by repeat (first | exact q_fout_r | refine q_fout_w rfl ?_)) (And.intro rfl (And.intro rfl (And.intro rfl trivial)))) trivial))
        · skip
          refine xe_aload_n dX10_named_43 rfl ?_
          refine xe_iconst dX10_named_44 kc_3 ?_
          refine xe_iload_n dX10_named_45 rfl ?_
          refine xe_callVVq (d' := 0) (y' := mX10_wrong) dX10_named_46 mlX10_278 mvX10_wrong rfl (st124 hs) (by decide) rfl (by decide) (by decide) (Nat.le_of_ble_eq_true rfl) (c_X10_wrong l g _ (by exact hs) (K := K) (m := m) (by exact rt_Tc hT rfl rfl rfl rfl) hinc (by exact h13) (e := (tx_lf e (nm_has (tk_N K t) (N.take i)) 3 t)) (k := 3) (u := t) (by exact e1) (by decide) (by decide) (by omega)) rfl (fun hw4 hwq4 => ?_)
          obtain ⟨a4, b4, rfl, hl4⟩ := hwq4
          refine xn_iinc dX10_named_49 rfl kc_1 ?_
          refine xe_goto (tgt := 12) dX10_named_52 rfl ?_
          exact xe_fin (K1 (a4, b4) ((by rw [nm_has_tk hi, decide_eq_true ((q_e27_inj n2 hx.2).mp (q_cmp0.mp c_e)), tx_lf_or]; exact hl4))) (And.intro rfl (And.intro rfl (And.intro rfl trivial))) (q_heq [124] (H := h) (by repeat (first | exact q_out_r | refine q_out_w rfl ?_)) (by repeat (first | exact q_out_r | refine q_out_w rfl ?_)) (And.intro (q_feq [11, 15, 16] (f := q_I h 124) (by repeat (first | exact q_fout_r | refine q_fout_w rfl ?_)) (by repeat (first | exact q_fout_r | refine q_fout_w rfl ?_)) (And.intro rfl (And.intro rfl (And.intro rfl trivial)))) trivial))
  · refine xe_iload_n dX10_named_12 rfl ?_
    refine xe_aload_n dX10_named_13 rfl ?_
    refine xe_getIv dX10_named_14 flX10_234 (st124 hs) (by decide) rfl (v := nI N.length) (hN.1) ?_
    refine xn_icmp_ge (tgt := 55) dX10_named_17 rfl (by omega) (by omega) (fun c5 => ?_) (fun c5 => ?_)
    · refine xe_iload_n dX10_named_55 rfl ?_
      refine xe_ireturn dX10_named_56 rfl (by first | rfl | decide +kernel) ?_
      refine ⟨rfl, _, _, (q_heq [124] (H := h) (by repeat (first | exact q_out_r | refine q_out_w rfl ?_)) (by repeat (first | exact q_out_r | refine q_out_w rfl ?_)) (And.intro (q_feq [11, 15, 16] (f := q_I h 124) (by repeat (first | exact q_fout_r | refine q_fout_w rfl ?_)) (by repeat (first | exact q_fout_r | refine q_fout_w rfl ?_)) (And.intro rfl (And.intro rfl (And.intro rfl trivial)))) trivial)), ?_⟩
      have q := e1
      rw [List.take_length] at q
      exact lfu_to q
    · omega
theorem c_X10_named_f (l : Launch) (g : q_GP) (h : q_H) (hs : q_Stat h) {K : q_TK} {m t : Nat} (hR : rt_R h K m t) {er : Nat × Nat} {N : q_NM} (hN : rn_N h N) (hck : tx_ck (tk_T K) 1 t = some er) : q_Cd l g 3 mX10_named [.ref 124] h (some (.int (nI t))) (q_wI h 124 (upd (upd (q_I h 124) 13 (nI er.1)) 14 (nI (tk_P K er.2)))) := by
  obtain ⟨hT, ht, h11, h13⟩ := id hR
  obtain ⟨hm4, hme, hti⟩ := id hT
  obtain ⟨z1, z2, z3, z4, z5, z6⟩ := hti t ht
  have he := ck_15 hck
  have hN16 := hN.2.1
  refine q_CdV mvX10_named (Nat.le_of_ble_eq_true rfl) ?_
  refine xe_aload_n dX10_named_0 rfl ?_
  refine xe_getIv dX10_named_1 flX10_201 (st124 hs) (by decide) rfl (v := nI t) (h11) ?_
  refine xe_istore_n (i := 1) dX10_named_4 rfl (by decide) rfl ?_
  refine xe_aload_n dX10_named_5 rfl ?_
  refine xe_iconst dX10_named_6 kc_1 ?_
  refine xe_callVV (d' := 2) (y' := mX10_must) dX10_named_7 mlX10_275 mvX10_must rfl (st124 hs) (by decide) rfl (by decide) (by decide) (Nat.le_of_ble_eq_true rfl) (c_X10_must_f l g _ (by exact hs) hR (k := 1) (by decide) (f := er.1) (u := er.2) hck) rfl ?_
  refine xe_iconst dX10_named_10 kc_0 ?_
  refine xe_istore_n (i := 2) dX10_named_11 rfl (by decide) rfl ?_
  refine xe_iload_n dX10_named_12 rfl ?_
  refine xe_aload_n dX10_named_13 rfl ?_
  refine xe_getIv dX10_named_14 flX10_234 (st124 hs) (by decide) rfl (v := nI N.length) (hN.1) ?_
  refine xn_icmp_ge (tgt := 55) dX10_named_17 rfl (by omega) (by omega) (fun c1 => ?_) (fun c1 => ?_)
  · refine xe_iload_n dX10_named_55 rfl ?_
    refine xe_ireturn dX10_named_56 rfl (by first | rfl | decide +kernel) ?_
    exact ⟨rfl, (q_heq [124] (H := h) (by repeat (first | exact q_out_r | refine q_out_w rfl ?_)) (by repeat (first | exact q_out_r | refine q_out_w rfl ?_)) (And.intro (q_feq [13, 14] (f := q_I h 124) (by repeat (first | exact q_fout_r | refine q_fout_w rfl ?_)) (by repeat (first | exact q_fout_r | refine q_fout_w rfl ?_)) (And.intro rfl (And.intro rfl trivial))) trivial))⟩
  · refine xe_aload_n dX10_named_20 rfl ?_
    refine xe_getIv dX10_named_21 flX10_198 (st124 hs) (by decide) rfl (v := nI er.1) (rfl) ?_
    refine xn_if_ne (tgt := 55) dX10_named_24 rfl (by omega) (fun c2 => ?_) (fun c2 => ?_)
    · refine xe_iload_n dX10_named_55 rfl ?_
      refine xe_ireturn dX10_named_56 rfl (by first | rfl | decide +kernel) ?_
      exact ⟨rfl, (q_heq [124] (H := h) (by repeat (first | exact q_out_r | refine q_out_w rfl ?_)) (by repeat (first | exact q_out_r | refine q_out_w rfl ?_)) (And.intro (q_feq [13, 14] (f := q_I h 124) (by repeat (first | exact q_fout_r | refine q_fout_w rfl ?_)) (by repeat (first | exact q_fout_r | refine q_fout_w rfl ?_)) (And.intro rfl (And.intro rfl trivial))) trivial))⟩
    · omega
theorem c_X10_known_0 (l : Launch) (g : q_GP) (h : q_H) (hs : q_Stat h) {K : q_TK} {m t : Nat} (hR : rt_R h K m t) (hinc : q_inc K m) {e : Option (Nat × Nat)} (hlf : q_lfr K t (q_I h 124 15) (q_I h 124 16) e) {N : q_NM} (hN : rn_N h N) (hck : tx_ck (tk_T K) 1 t = none) : q_Ct l g 3 mX10_known [.ref 124, .int (nI 0)] h (fun r h1 => ∃ v, r = some (.int v) ∧ (v = q_ofi (nm_find (tk_N K t) 0 N) ∧ ∃ a b, h1 = q_wI h 124 (upd (upd (upd (q_I h 124) 11 (nI (t + 1))) 15 a) 16 b) ∧ q_lfr K (t + 1) a b (tx_lf e (nm_find (tk_N K t) 0 N).isNone 4 t))) := by
  obtain ⟨hT, ht, h11, h13⟩ := id hR
  obtain ⟨hm4, hme, hti⟩ := id hT
  obtain ⟨z1, z2, z3, z4, z5, z6⟩ := hti t ht
  obtain ⟨hk, ht4⟩ := tx_ck_none hck
  have hx := z5 hk
  have hN16 := hN.2.1
  refine q_CtV mvX10_known (Nat.le_of_ble_eq_true rfl) ?_
  refine xe_aload_n dX10_known_0 rfl ?_
  refine xe_getIv dX10_known_1 flX10_201 (st124 hs) (by decide) rfl (v := nI t) (h11) ?_
  refine xe_istore_n (i := 2) dX10_known_4 rfl (by decide) rfl ?_
  refine xe_aload_n dX10_known_5 rfl ?_
  refine xe_iconst dX10_known_6 kc_1 ?_
  refine xe_callVV (d' := 2) (y' := mX10_must) dX10_known_7 mlX10_275 mvX10_must rfl (st124 hs) (by decide) rfl (by decide) (by decide) (Nat.le_of_ble_eq_true rfl) (c_X10_must_t l g _ (by exact hs) hR (k := 1) hck) rfl ?_
  refine xe_aload_n dX10_known_10 rfl ?_
  refine xe_getIv dX10_known_11 flX10_198 (st124 hs) (by decide) rfl (v := nI 0) (h13) ?_
  refine xn_if_le (tgt := 19) dX10_known_14 rfl (by omega) (fun c1 => ?_) (fun c1 => ?_)
  · refine xe_iconst dX10_known_19 kc_0 ?_
    refine xe_istore_n (i := 3) dX10_known_20 rfl (by decide) rfl ?_
    refine xe_fin (L' := (fun (i : Nat) (s2 : Unit) => [(0, .ref 124), (1, .int (nI 0)), (2, .int (nI t)), (3, .int (nI i))]) 0 ()) (h' := (fun (i : Nat) (s2 : Unit) => (q_wI h 124 (upd (q_I h 124) 11 (nI (t + 1))))) 0 ()) ?_ (And.intro rfl (And.intro rfl (And.intro rfl (And.intro rfl trivial)))) (q_heq [124] (H := h) (by repeat (first | exact q_out_r | refine q_out_w rfl ?_)) (by repeat (first | exact q_out_r | refine q_out_w rfl ?_)) (And.intro (q_feq [11] (f := q_I h 124) (by repeat (first | exact q_fout_r | refine q_fout_w rfl ?_)) (by repeat (first | exact q_fout_r | refine q_fout_w rfl ?_)) (And.intro rfl trivial)) trivial))
    refine xe_loopW (σ := Unit) (N.length) (fun i _ => nm_find (tk_N K t) 0 N = nm_find (tk_N K t) 0 (N.drop i)) (fun (i : Nat) (s2 : Unit) => [(0, .ref 124), (1, .int (nI 0)), (2, .int (nI t)), (3, .int (nI i))]) (fun (i : Nat) (s2 : Unit) => (q_wI h 124 (upd (q_I h 124) 11 (nI (t + 1))))) () (rfl) (fun i hi s2 e2 K2 => ?_)
    · refine xe_iload_n dX10_known_21 rfl ?_
      refine xe_aload_n dX10_known_22 rfl ?_
      refine xe_getIv dX10_known_23 flX10_234 (st124 hs) (by decide) rfl (v := nI N.length) (hN.1) ?_
      refine xn_icmp_ge (tgt := 68) dX10_known_26 rfl (by omega) (by omega) (fun c3 => ?_) (fun c3 => ?_)
      · refine xe_aload_n dX10_known_68 rfl ?_
        refine xe_iconst dX10_known_69 kc_4 ?_
        refine xe_iload_n dX10_known_70 rfl ?_
        refine xe_callVVq (d' := 0) (y' := mX10_wrong) dX10_known_71 mlX10_278 mvX10_wrong rfl (st124 hs) (by decide) rfl (by decide) (by decide) (Nat.le_of_ble_eq_true rfl) (c_X10_wrong l g _ (by exact hs) (K := K) (m := m) (by exact rt_Tc hT rfl rfl rfl rfl) hinc (by exact h13) (e := e) (k := 4) (u := t) (by exact lfu_of hlf) (by decide) (by decide) ht) rfl (fun hw4 hwq4 => ?_)
        obtain ⟨a4, b4, rfl, hl4⟩ := hwq4
        refine xe_iconst dX10_known_74 kc_m1 ?_
        refine xe_ireturn dX10_known_75 rfl (by first | rfl | decide +kernel) ?_
        have q : nm_find (tk_N K t) 0 N = none := e2.trans (by rw [List.drop_eq_nil_of_le (by omega)]; rfl)
        rw [q]
        exact ⟨_, rfl, rfl, _, _, (q_heq [124] (H := h) (by repeat (first | exact q_out_r | refine q_out_w rfl ?_)) (by repeat (first | exact q_out_r | refine q_out_w rfl ?_)) (And.intro (q_feq [11, 15, 16] (f := q_I h 124) (by repeat (first | exact q_fout_r | refine q_fout_w rfl ?_)) (by repeat (first | exact q_fout_r | refine q_fout_w rfl ?_)) (And.intro rfl (And.intro rfl (And.intro rfl trivial)))) trivial)), lfu_to hl4⟩
      · have c_i : i < N.length := by omega
        obtain ⟨n1, n2, n3, n4, n5⟩ := hN.2.2 i c_i
        refine xe_aload_n dX10_known_29 rfl ?_
        refine xe_getP dX10_known_30 flX10_40 (st124 hs) (by decide) rfl (sp124_21 hs) ?_
        refine xe_iload_n dX10_known_33 rfl ?_
        refine xn_laldv dX10_known_34 (st132 hs) (by omega) (by decide) (v := (q_e27 (N.getD i q_nd).1)) (n1) ?_
        refine xe_aload_n dX10_known_35 rfl ?_
        refine xe_getP dX10_known_36 flX10_30 (st124 hs) (by decide) rfl (sp124_8 hs) ?_
        refine xe_iload_n dX10_known_39 rfl ?_
        refine xn_laldv dX10_known_40 (st130 hs) (by omega) (by decide) (v := (q_e27 (tk_N K t))) (hx.1) ?_
        refine xe_lcmp dX10_known_41 ?_
        refine xe_if_ne (tgt := 62) dX10_known_42 rfl (fun c_e => ?_) (fun c_e => ?_)
        · skip
          refine xn_iinc dX10_known_62 rfl kc_1 ?_
          refine xe_goto (tgt := 21) dX10_known_65 rfl ?_
          exact xe_fin (K2 (by omega) () ((by rw [e2, nm_find_st c_i, if_neg (fun q => c_e (q_cmp0.mpr (by rw [q.1])))]))) (And.intro rfl (And.intro rfl (And.intro rfl (And.intro rfl trivial)))) (q_heq [124] (H := h) (by repeat (first | exact q_out_r | refine q_out_w rfl ?_)) (by repeat (first | exact q_out_r | refine q_out_w rfl ?_)) (And.intro (q_feq [11] (f := q_I h 124) (by repeat (first | exact q_fout_r | refine q_fout_w rfl ?_)) (by repeat (first | exact q_fout_r | refine q_fout_w rfl ?_)) (And.intro rfl trivial)) trivial))
        · refine xe_aload_n dX10_known_45 rfl ?_
          refine xe_getP dX10_known_46 flX10_43 (st124 hs) (by decide) rfl (sp124_22 hs) ?_
          refine xe_iload_n dX10_known_49 rfl ?_
          refine xn_ialdv dX10_known_50 (st133 hs) (by omega) (by decide) (v := nI ((N.getD i q_nd).2.1)) (n3) ?_
          refine xe_iload_n dX10_known_51 rfl ?_
          refine xn_icmp_ne (tgt := 62) dX10_known_52 rfl (by omega) (by omega) (fun c_s => ?_) (fun c_s => ?_)
          · skip
            refine xn_iinc dX10_known_62 rfl kc_1 ?_
            refine xe_goto (tgt := 21) dX10_known_65 rfl ?_
            exact xe_fin (K2 (by omega) () ((by rw [e2, nm_find_st c_i, if_neg (fun q => c_s q.2)]))) (And.intro rfl (And.intro rfl (And.intro rfl (And.intro rfl trivial)))) (q_heq [124] (H := h) (by repeat (first | exact q_out_r | refine q_out_w rfl ?_)) (by repeat (first | exact q_out_r | refine q_out_w rfl ?_)) (And.intro (q_feq [11] (f := q_I h 124) (by repeat (first | exact q_fout_r | refine q_fout_w rfl ?_)) (by repeat (first | exact q_fout_r | refine q_fout_w rfl ?_)) (And.intro rfl trivial)) trivial))
          · refine xe_aload_n dX10_known_55 rfl ?_
            refine xe_getP dX10_known_56 flX10_46 (st124 hs) (by decide) rfl (sp124_23 hs) ?_
            refine xe_iload_n dX10_known_59 rfl ?_
            refine xn_ialdv dX10_known_60 (st134 hs) (by omega) (by decide) (v := nI ((N.getD i q_nd).2.2)) (n5) ?_
            refine xe_ireturn dX10_known_61 rfl (by first | rfl | decide +kernel) ?_
            have q : nm_find (tk_N K t) 0 N = some (N.getD i q_nd).2.2 := e2.trans ((nm_find_st c_i).trans (if_pos ⟨(q_e27_inj n2 hx.2).mp (q_cmp0.mp c_e), c_s⟩))
            rw [q]
            exact ⟨_, rfl, rfl, _, _, (q_heq [124] (H := h) (by repeat (first | exact q_out_r | refine q_out_w rfl ?_)) (by repeat (first | exact q_out_r | refine q_out_w rfl ?_)) (And.intro (q_feq [11, 15, 16] (f := q_I h 124) (by repeat (first | exact q_fout_r | refine q_fout_w rfl ?_)) (by repeat (first | exact q_fout_r | refine q_fout_w rfl ?_)) (And.intro rfl (And.intro rfl (And.intro rfl trivial)))) trivial)), by rw [show (some (N.getD i q_nd).2.2).isNone = false from rfl, tx_lf_f]; exact lfr_up hlf (Nat.le_succ _)⟩
  · omega
theorem c_X10_known_1 (l : Launch) (g : q_GP) (h : q_H) (hs : q_Stat h) {K : q_TK} {m t : Nat} (hR : rt_R h K m t) (hinc : q_inc K m) {e : Option (Nat × Nat)} (hlf : q_lfr K t (q_I h 124 15) (q_I h 124 16) e) {N : q_NM} (hN : rn_N h N) (hck : tx_ck (tk_T K) 1 t = none) : q_Ct l g 3 mX10_known [.ref 124, .int (nI 1)] h (fun r h1 => ∃ v, r = some (.int v) ∧ (v = q_ofi (nm_find (tk_N K t) 1 N) ∧ ∃ a b, h1 = q_wI h 124 (upd (upd (upd (q_I h 124) 11 (nI (t + 1))) 15 a) 16 b) ∧ q_lfr K (t + 1) a b (tx_lf e (nm_find (tk_N K t) 1 N).isNone 4 t))) := by
  obtain ⟨hT, ht, h11, h13⟩ := id hR
  obtain ⟨hm4, hme, hti⟩ := id hT
  obtain ⟨z1, z2, z3, z4, z5, z6⟩ := hti t ht
  obtain ⟨hk, ht4⟩ := tx_ck_none hck
  have hx := z5 hk
  have hN16 := hN.2.1
  refine q_CtV mvX10_known (Nat.le_of_ble_eq_true rfl) ?_
  refine xe_aload_n dX10_known_0 rfl ?_
  refine xe_getIv dX10_known_1 flX10_201 (st124 hs) (by decide) rfl (v := nI t) (h11) ?_
  refine xe_istore_n (i := 2) dX10_known_4 rfl (by decide) rfl ?_
  refine xe_aload_n dX10_known_5 rfl ?_
  refine xe_iconst dX10_known_6 kc_1 ?_
  refine xe_callVV (d' := 2) (y' := mX10_must) dX10_known_7 mlX10_275 mvX10_must rfl (st124 hs) (by decide) rfl (by decide) (by decide) (Nat.le_of_ble_eq_true rfl) (c_X10_must_t l g _ (by exact hs) hR (k := 1) hck) rfl ?_
  refine xe_aload_n dX10_known_10 rfl ?_
  refine xe_getIv dX10_known_11 flX10_198 (st124 hs) (by decide) rfl (v := nI 0) (h13) ?_
  refine xn_if_le (tgt := 19) dX10_known_14 rfl (by omega) (fun c1 => ?_) (fun c1 => ?_)
  · refine xe_iconst dX10_known_19 kc_0 ?_
    refine xe_istore_n (i := 3) dX10_known_20 rfl (by decide) rfl ?_
    refine xe_fin (L' := (fun (i : Nat) (s2 : Unit) => [(0, .ref 124), (1, .int (nI 1)), (2, .int (nI t)), (3, .int (nI i))]) 0 ()) (h' := (fun (i : Nat) (s2 : Unit) => (q_wI h 124 (upd (q_I h 124) 11 (nI (t + 1))))) 0 ()) ?_ (And.intro rfl (And.intro rfl (And.intro rfl (And.intro rfl trivial)))) (q_heq [124] (H := h) (by repeat (first | exact q_out_r | refine q_out_w rfl ?_)) (by repeat (first | exact q_out_r | refine q_out_w rfl ?_)) (And.intro (q_feq [11] (f := q_I h 124) (by repeat (first | exact q_fout_r | refine q_fout_w rfl ?_)) (by repeat (first | exact q_fout_r | refine q_fout_w rfl ?_)) (And.intro rfl trivial)) trivial))
    refine xe_loopW (σ := Unit) (N.length) (fun i _ => nm_find (tk_N K t) 1 N = nm_find (tk_N K t) 1 (N.drop i)) (fun (i : Nat) (s2 : Unit) => [(0, .ref 124), (1, .int (nI 1)), (2, .int (nI t)), (3, .int (nI i))]) (fun (i : Nat) (s2 : Unit) => (q_wI h 124 (upd (q_I h 124) 11 (nI (t + 1))))) () (rfl) (fun i hi s2 e2 K2 => ?_)
    · refine xe_iload_n dX10_known_21 rfl ?_
      refine xe_aload_n dX10_known_22 rfl ?_
      refine xe_getIv dX10_known_23 flX10_234 (st124 hs) (by decide) rfl (v := nI N.length) (hN.1) ?_
      refine xn_icmp_ge (tgt := 68) dX10_known_26 rfl (by omega) (by omega) (fun c3 => ?_) (fun c3 => ?_)
      · refine xe_aload_n dX10_known_68 rfl ?_
        refine xe_iconst dX10_known_69 kc_4 ?_
        refine xe_iload_n dX10_known_70 rfl ?_
        refine xe_callVVq (d' := 0) (y' := mX10_wrong) dX10_known_71 mlX10_278 mvX10_wrong rfl (st124 hs) (by decide) rfl (by decide) (by decide) (Nat.le_of_ble_eq_true rfl) (c_X10_wrong l g _ (by exact hs) (K := K) (m := m) (by exact rt_Tc hT rfl rfl rfl rfl) hinc (by exact h13) (e := e) (k := 4) (u := t) (by exact lfu_of hlf) (by decide) (by decide) ht) rfl (fun hw4 hwq4 => ?_)
        obtain ⟨a4, b4, rfl, hl4⟩ := hwq4
        refine xe_iconst dX10_known_74 kc_m1 ?_
        refine xe_ireturn dX10_known_75 rfl (by first | rfl | decide +kernel) ?_
        have q : nm_find (tk_N K t) 1 N = none := e2.trans (by rw [List.drop_eq_nil_of_le (by omega)]; rfl)
        rw [q]
        exact ⟨_, rfl, rfl, _, _, (q_heq [124] (H := h) (by repeat (first | exact q_out_r | refine q_out_w rfl ?_)) (by repeat (first | exact q_out_r | refine q_out_w rfl ?_)) (And.intro (q_feq [11, 15, 16] (f := q_I h 124) (by repeat (first | exact q_fout_r | refine q_fout_w rfl ?_)) (by repeat (first | exact q_fout_r | refine q_fout_w rfl ?_)) (And.intro rfl (And.intro rfl (And.intro rfl trivial)))) trivial)), lfu_to hl4⟩
      · have c_i : i < N.length := by omega
        obtain ⟨n1, n2, n3, n4, n5⟩ := hN.2.2 i c_i
        refine xe_aload_n dX10_known_29 rfl ?_
        refine xe_getP dX10_known_30 flX10_40 (st124 hs) (by decide) rfl (sp124_21 hs) ?_
        refine xe_iload_n dX10_known_33 rfl ?_
        refine xn_laldv dX10_known_34 (st132 hs) (by omega) (by decide) (v := (q_e27 (N.getD i q_nd).1)) (n1) ?_
        refine xe_aload_n dX10_known_35 rfl ?_
        refine xe_getP dX10_known_36 flX10_30 (st124 hs) (by decide) rfl (sp124_8 hs) ?_
        refine xe_iload_n dX10_known_39 rfl ?_
        refine xn_laldv dX10_known_40 (st130 hs) (by omega) (by decide) (v := (q_e27 (tk_N K t))) (hx.1) ?_
        refine xe_lcmp dX10_known_41 ?_
        refine xe_if_ne (tgt := 62) dX10_known_42 rfl (fun c_e => ?_) (fun c_e => ?_)
        · skip
          refine xn_iinc dX10_known_62 rfl kc_1 ?_
          refine xe_goto (tgt := 21) dX10_known_65 rfl ?_
          exact xe_fin (K2 (by omega) () ((by rw [e2, nm_find_st c_i, if_neg (fun q => c_e (q_cmp0.mpr (by rw [q.1])))]))) (And.intro rfl (And.intro rfl (And.intro rfl (And.intro rfl trivial)))) (q_heq [124] (H := h) (by repeat (first | exact q_out_r | refine q_out_w rfl ?_)) (by repeat (first | exact q_out_r | refine q_out_w rfl ?_)) (And.intro (q_feq [11] (f := q_I h 124) (by repeat (first | exact q_fout_r | refine q_fout_w rfl ?_)) (by repeat (first | exact q_fout_r | refine q_fout_w rfl ?_)) (And.intro rfl trivial)) trivial))
        · refine xe_aload_n dX10_known_45 rfl ?_
          refine xe_getP dX10_known_46 flX10_43 (st124 hs) (by decide) rfl (sp124_22 hs) ?_
          refine xe_iload_n dX10_known_49 rfl ?_
          refine xn_ialdv dX10_known_50 (st133 hs) (by omega) (by decide) (v := nI ((N.getD i q_nd).2.1)) (n3) ?_
          refine xe_iload_n dX10_known_51 rfl ?_
          refine xn_icmp_ne (tgt := 62) dX10_known_52 rfl (by omega) (by omega) (fun c_s => ?_) (fun c_s => ?_)
          · skip
            refine xn_iinc dX10_known_62 rfl kc_1 ?_
            refine xe_goto (tgt := 21) dX10_known_65 rfl ?_
            exact xe_fin (K2 (by omega) () ((by rw [e2, nm_find_st c_i, if_neg (fun q => c_s q.2)]))) (And.intro rfl (And.intro rfl (And.intro rfl (And.intro rfl trivial)))) (q_heq [124] (H := h) (by repeat (first | exact q_out_r | refine q_out_w rfl ?_)) (by repeat (first | exact q_out_r | refine q_out_w rfl ?_)) (And.intro (q_feq [11] (f := q_I h 124) (by repeat (first | exact q_fout_r | refine q_fout_w rfl ?_)) (by repeat (first | exact q_fout_r | refine q_fout_w rfl ?_)) (And.intro rfl trivial)) trivial))
          · refine xe_aload_n dX10_known_55 rfl ?_
            refine xe_getP dX10_known_56 flX10_46 (st124 hs) (by decide) rfl (sp124_23 hs) ?_
            refine xe_iload_n dX10_known_59 rfl ?_
            refine xn_ialdv dX10_known_60 (st134 hs) (by omega) (by decide) (v := nI ((N.getD i q_nd).2.2)) (n5) ?_
            refine xe_ireturn dX10_known_61 rfl (by first | rfl | decide +kernel) ?_
            have q : nm_find (tk_N K t) 1 N = some (N.getD i q_nd).2.2 := e2.trans ((nm_find_st c_i).trans (if_pos ⟨(q_e27_inj n2 hx.2).mp (q_cmp0.mp c_e), c_s⟩))
            rw [q]
            exact ⟨_, rfl, rfl, _, _, (q_heq [124] (H := h) (by repeat (first | exact q_out_r | refine q_out_w rfl ?_)) (by repeat (first | exact q_out_r | refine q_out_w rfl ?_)) (And.intro (q_feq [11, 15, 16] (f := q_I h 124) (by repeat (first | exact q_fout_r | refine q_fout_w rfl ?_)) (by repeat (first | exact q_fout_r | refine q_fout_w rfl ?_)) (And.intro rfl (And.intro rfl (And.intro rfl trivial)))) trivial)), by rw [show (some (N.getD i q_nd).2.2).isNone = false from rfl, tx_lf_f]; exact lfr_up hlf (Nat.le_succ _)⟩
  · omega
theorem c_X10_known_f (l : Launch) (g : q_GP) (h : q_H) (hs : q_Stat h) {K : q_TK} {m t : Nat} (hR : rt_R h K m t) {er : Nat × Nat} (hck : tx_ck (tk_T K) 1 t = some er) (k : Int32) : q_Cd l g 3 mX10_known [.ref 124, .int k] h (some (.int (-1))) (q_wI h 124 (upd (upd (q_I h 124) 13 (nI er.1)) 14 (nI (tk_P K er.2)))) := by
  obtain ⟨hT, ht, h11, h13⟩ := id hR
  obtain ⟨hm4, hme, hti⟩ := id hT
  obtain ⟨z1, z2, z3, z4, z5, z6⟩ := hti t ht
  have he := ck_15 hck
  refine q_CdV mvX10_known (Nat.le_of_ble_eq_true rfl) ?_
  refine xe_aload_n dX10_known_0 rfl ?_
  refine xe_getIv dX10_known_1 flX10_201 (st124 hs) (by decide) rfl (v := nI t) (h11) ?_
  refine xe_istore_n (i := 2) dX10_known_4 rfl (by decide) rfl ?_
  refine xe_aload_n dX10_known_5 rfl ?_
  refine xe_iconst dX10_known_6 kc_1 ?_
  refine xe_callVV (d' := 2) (y' := mX10_must) dX10_known_7 mlX10_275 mvX10_must rfl (st124 hs) (by decide) rfl (by decide) (by decide) (Nat.le_of_ble_eq_true rfl) (c_X10_must_f l g _ (by exact hs) hR (k := 1) (by decide) (f := er.1) (u := er.2) hck) rfl ?_
  refine xe_aload_n dX10_known_10 rfl ?_
  refine xe_getIv dX10_known_11 flX10_198 (st124 hs) (by decide) rfl (v := nI er.1) (rfl) ?_
  refine xn_if_le (tgt := 19) dX10_known_14 rfl (by omega) (fun c1 => ?_) (fun c1 => ?_)
  · omega
  · refine xe_iconst dX10_known_17 kc_m1 ?_
    refine xe_ireturn dX10_known_18 rfl (by first | rfl | decide +kernel) ?_
    exact ⟨rfl, (q_heq [124] (H := h) (by repeat (first | exact q_out_r | refine q_out_w rfl ?_)) (by repeat (first | exact q_out_r | refine q_out_w rfl ?_)) (And.intro (q_feq [13, 14] (f := q_I h 124) (by repeat (first | exact q_fout_r | refine q_fout_w rfl ?_)) (by repeat (first | exact q_fout_r | refine q_fout_w rfl ?_)) (And.intro rfl (And.intro rfl trivial))) trivial))⟩
theorem c_X10_known_b (l : Launch) (g : q_GP) (h : q_H) (hs : q_Stat h) {f : Nat} (h13 : q_I h 124 13 = nI f) (hf : 0 < f) (hf5 : f ≤ 5) {t : Nat} (h11 : q_I h 124 11 = nI t) (k : Int32) : q_Cd l g 3 mX10_known [.ref 124, .int k] h (some (.int (-1))) h := by
  refine q_CdV mvX10_known (Nat.le_of_ble_eq_true rfl) ?_
  refine xe_aload_n dX10_known_0 rfl ?_
  refine xe_getIv dX10_known_1 flX10_201 (st124 hs) (by decide) rfl (v := nI t) (h11) ?_
  refine xe_istore_n (i := 2) dX10_known_4 rfl (by decide) rfl ?_
  refine xe_aload_n dX10_known_5 rfl ?_
  refine xe_iconst dX10_known_6 kc_1 ?_
  refine xe_callVV (d' := 2) (y' := mX10_must) dX10_known_7 mlX10_275 mvX10_must rfl (st124 hs) (by decide) rfl (by decide) (by decide) (Nat.le_of_ble_eq_true rfl) (c_X10_must_b l g _ (by exact hs) (by exact h13) hf hf5 _) rfl ?_
  refine xe_aload_n dX10_known_10 rfl ?_
  refine xe_getIv dX10_known_11 flX10_198 (st124 hs) (by decide) rfl (v := nI f) (h13) ?_
  refine xn_if_le (tgt := 19) dX10_known_14 rfl (by omega) (fun c1 => ?_) (fun c1 => ?_)
  · omega
  · refine xe_iconst dX10_known_17 kc_m1 ?_
    refine xe_ireturn dX10_known_18 rfl (by first | rfl | decide +kernel) ?_
    exact ⟨rfl, rfl⟩
theorem c_X10_bounded_t (l : Launch) (g : q_GP) (h : q_H) (hs : q_Stat h) {K : q_TK} {m t : Nat} (hR : rt_R h K m t) (hinc : q_inc K m) {e : Option (Nat × Nat)} (hlf : q_lfr K t (q_I h 124 15) (q_I h 124 16) e) {lo hi_ : Nat} (hlo : lo < 2 ^ 20) (hhi : hi_ < 2 ^ 20) (hck : tx_ck (tk_T K) 2 t = none) : q_Ct l g 2 mX10_bounded [.ref 124, .int (nI lo), .int (nI hi_)] h (fun r h1 => r = some (.int (nI (tk_V K t))) ∧ ∃ a b, h1 = q_wI h 124 (upd (upd (upd (q_I h 124) 11 (nI (t + 1))) 15 a) 16 b) ∧ q_lfr K (t + 1) a b (tx_lf e (decide (tk_V K t < lo ∨ hi_ < tk_V K t)) 5 t)) := by
  obtain ⟨hT, ht, h11, h13⟩ := id hR
  obtain ⟨hm4, hme, hti⟩ := id hT
  obtain ⟨z1, z2, z3, z4, z5, z6⟩ := hti t ht
  obtain ⟨hk, ht4⟩ := tx_ck_none hck
  have hv := z6 hk
  have hv2 := hv.2
  refine q_CtV mvX10_bounded (Nat.le_of_ble_eq_true rfl) ?_
  refine xe_aload_n dX10_bounded_0 rfl ?_
  refine xe_getIv dX10_bounded_1 flX10_198 (st124 hs) (by decide) rfl (v := nI 0) (h13) ?_
  refine xn_if_gt (tgt := 15) dX10_bounded_4 rfl (by omega) (fun c1 => ?_) (fun c1 => ?_)
  · omega
  · refine xe_aload_n dX10_bounded_7 rfl ?_
    refine xe_iconst dX10_bounded_8 kc_2 ?_
    refine xe_callVI (d' := 0) (y' := mX10_is) dX10_bounded_9 mlX10_216 mvX10_is rfl (st124 hs) (by decide) rfl (by decide) (by decide) (Nat.le_of_ble_eq_true rfl) (c_X10_is_1 l g _ (by exact hs) hR hk) rfl ?_
    refine xn_if_ne (tgt := 22) dX10_bounded_12 rfl (by omega) (fun c2 => ?_) (fun c2 => ?_)
    · refine xe_aload_n dX10_bounded_22 rfl ?_
      refine xe_getP dX10_bounded_23 flX10_27 (st124 hs) (by decide) rfl (sp124_7 hs) ?_
      refine xe_aload_n dX10_bounded_26 rfl ?_
      refine xe_getIv dX10_bounded_27 flX10_201 (st124 hs) (by decide) rfl (v := nI t) (h11) ?_
      refine xn_ialdv dX10_bounded_30 (st129 hs) (by omega) (by decide) (v := nI (tk_V K t)) (hv.1) ?_
      refine xe_istore_n (i := 3) dX10_bounded_31 rfl (by decide) rfl ?_
      refine xe_iload_n dX10_bounded_32 rfl ?_
      refine xe_iload_n dX10_bounded_33 rfl ?_
      refine xn_icmp_lt (tgt := 42) dX10_bounded_34 rfl (by omega) (by omega) (fun c3 => ?_) (fun c3 => ?_)
      · refine xe_aload_n dX10_bounded_42 rfl ?_
        refine xe_iconst dX10_bounded_43 kc_5 ?_
        refine xe_aload_n dX10_bounded_44 rfl ?_
        refine xe_getIv dX10_bounded_45 flX10_201 (st124 hs) (by decide) rfl (v := nI t) (h11) ?_
        refine xe_callVVq (d' := 0) (y' := mX10_wrong) dX10_bounded_48 mlX10_278 mvX10_wrong rfl (st124 hs) (by decide) rfl (by decide) (by decide) (Nat.le_of_ble_eq_true rfl) (c_X10_wrong l g _ (by exact hs) (K := K) (m := m) (by exact rt_Tc hT rfl rfl rfl rfl) hinc (by exact h13) (e := e) (k := 5) (u := t) (by exact lfu_of hlf) (by decide) (by decide) ht) rfl (fun hw4 hwq4 => ?_)
        obtain ⟨a4, b4, rfl, hl4⟩ := hwq4
        refine xe_aload_n dX10_bounded_51 rfl ?_
        refine xe_callVV (d' := 1) (y' := mX10_goesOn) dX10_bounded_52 mlX10_219 mvX10_goesOn rfl (st124 hs) (by decide) rfl (by decide) (by decide) (Nat.le_of_ble_eq_true rfl) (c_X10_goesOn_t l g _ (by exact hs) (t := t) (by exact h11) (by omega)) rfl ?_
        refine xe_iload_n dX10_bounded_55 rfl ?_
        refine xe_ireturn dX10_bounded_56 rfl (by first | rfl | decide +kernel) ?_
        exact ⟨rfl, _, _, (q_heq [124] (H := h) (by repeat (first | exact q_out_r | refine q_out_w rfl ?_)) (by repeat (first | exact q_out_r | refine q_out_w rfl ?_)) (And.intro (q_feq [11, 15, 16] (f := q_I h 124) (by repeat (first | exact q_fout_r | refine q_fout_w rfl ?_)) (by repeat (first | exact q_fout_r | refine q_fout_w rfl ?_)) (And.intro rfl (And.intro rfl (And.intro rfl trivial)))) trivial)), (by rw [show decide (tk_V K t < lo ∨ hi_ < tk_V K t) = true from decide_eq_true (by omega)]; exact lfu_to hl4)⟩
      · refine xe_iload_n dX10_bounded_37 rfl ?_
        refine xe_iload_n dX10_bounded_38 rfl ?_
        refine xn_icmp_le (tgt := 51) dX10_bounded_39 rfl (by omega) (by omega) (fun c5 => ?_) (fun c5 => ?_)
        · refine xe_aload_n dX10_bounded_51 rfl ?_
          refine xe_callVV (d' := 1) (y' := mX10_goesOn) dX10_bounded_52 mlX10_219 mvX10_goesOn rfl (st124 hs) (by decide) rfl (by decide) (by decide) (Nat.le_of_ble_eq_true rfl) (c_X10_goesOn_t l g _ (by exact hs) (t := t) (by exact h11) (by omega)) rfl ?_
          refine xe_iload_n dX10_bounded_55 rfl ?_
          refine xe_ireturn dX10_bounded_56 rfl (by first | rfl | decide +kernel) ?_
          exact ⟨rfl, _, _, (q_heq [124] (H := h) (by repeat (first | exact q_out_r | refine q_out_w rfl ?_)) (by repeat (first | exact q_out_r | refine q_out_w rfl ?_)) (And.intro (q_feq [11, 15, 16] (f := q_I h 124) (by repeat (first | exact q_fout_r | refine q_fout_w rfl ?_)) (by repeat (first | exact q_fout_r | refine q_fout_w rfl ?_)) (And.intro rfl (And.intro rfl (And.intro rfl trivial)))) trivial)), (by rw [show decide (tk_V K t < lo ∨ hi_ < tk_V K t) = false from decide_eq_false (by omega), tx_lf_f]; exact lfr_up hlf (Nat.le_succ _))⟩
        · refine xe_aload_n dX10_bounded_42 rfl ?_
          refine xe_iconst dX10_bounded_43 kc_5 ?_
          refine xe_aload_n dX10_bounded_44 rfl ?_
          refine xe_getIv dX10_bounded_45 flX10_201 (st124 hs) (by decide) rfl (v := nI t) (h11) ?_
          refine xe_callVVq (d' := 0) (y' := mX10_wrong) dX10_bounded_48 mlX10_278 mvX10_wrong rfl (st124 hs) (by decide) rfl (by decide) (by decide) (Nat.le_of_ble_eq_true rfl) (c_X10_wrong l g _ (by exact hs) (K := K) (m := m) (by exact rt_Tc hT rfl rfl rfl rfl) hinc (by exact h13) (e := e) (k := 5) (u := t) (by exact lfu_of hlf) (by decide) (by decide) ht) rfl (fun hw6 hwq6 => ?_)
          obtain ⟨a6, b6, rfl, hl6⟩ := hwq6
          refine xe_aload_n dX10_bounded_51 rfl ?_
          refine xe_callVV (d' := 1) (y' := mX10_goesOn) dX10_bounded_52 mlX10_219 mvX10_goesOn rfl (st124 hs) (by decide) rfl (by decide) (by decide) (Nat.le_of_ble_eq_true rfl) (c_X10_goesOn_t l g _ (by exact hs) (t := t) (by exact h11) (by omega)) rfl ?_
          refine xe_iload_n dX10_bounded_55 rfl ?_
          refine xe_ireturn dX10_bounded_56 rfl (by first | rfl | decide +kernel) ?_
          exact ⟨rfl, _, _, (q_heq [124] (H := h) (by repeat (first | exact q_out_r | refine q_out_w rfl ?_)) (by repeat (first | exact q_out_r | refine q_out_w rfl ?_)) (And.intro (q_feq [11, 15, 16] (f := q_I h 124) (by repeat (first | exact q_fout_r | refine q_fout_w rfl ?_)) (by repeat (first | exact q_fout_r | refine q_fout_w rfl ?_)) (And.intro rfl (And.intro rfl (And.intro rfl trivial)))) trivial)), (by rw [show decide (tk_V K t < lo ∨ hi_ < tk_V K t) = true from decide_eq_true (by omega)]; exact lfu_to hl6)⟩
    · omega
theorem c_X10_bounded_f (l : Launch) (g : q_GP) (h : q_H) (hs : q_Stat h) {K : q_TK} {m t : Nat} (hR : rt_R h K m t) (hinc : q_inc K m) {e : Option (Nat × Nat)} (hlf : q_lfr K t (q_I h 124 15) (q_I h 124 16) e) {lo hi_ : Nat} (hlo : lo < 2 ^ 20) (hhi : hi_ < 2 ^ 20) {er : Nat × Nat} (hck : tx_ck (tk_T K) 2 t = some er) : q_Ct l g 2 mX10_bounded [.ref 124, .int (nI lo), .int (nI hi_)] h (fun r h1 => ∃ v, r = some (.int v) ∧ ∃ a b, h1 = q_wI h 124 (upd (upd (upd (upd (q_I h 124) 13 (nI er.1)) 14 (nI (tk_P K er.2))) 15 a) 16 b)) := by
  obtain ⟨hT, ht, h11, h13⟩ := id hR
  obtain ⟨hm4, hme, hti⟩ := id hT
  obtain ⟨z1, z2, z3, z4, z5, z6⟩ := hti t ht
  by_cases hk : tk_T K t = 2
  · have hv := z6 hk
    have hv2 := hv.2
    rcases Nat.lt_or_ge t 400 with q4 | q4
    · rw [tx_ck_0 hk q4] at hck
      cases hck
    · rw [tx_ck_2 hk q4] at hck
      cases hck
      refine q_CtV mvX10_bounded (Nat.le_of_ble_eq_true rfl) ?_
      refine xe_aload_n dX10_bounded_0 rfl ?_
      refine xe_getIv dX10_bounded_1 flX10_198 (st124 hs) (by decide) rfl (v := nI 0) (h13) ?_
      refine xn_if_gt (tgt := 15) dX10_bounded_4 rfl (by omega) (fun c1 => ?_) (fun c1 => ?_)
      · omega
      · refine xe_aload_n dX10_bounded_7 rfl ?_
        refine xe_iconst dX10_bounded_8 kc_2 ?_
        refine xe_callVI (d' := 0) (y' := mX10_is) dX10_bounded_9 mlX10_216 mvX10_is rfl (st124 hs) (by decide) rfl (by decide) (by decide) (Nat.le_of_ble_eq_true rfl) (c_X10_is_1 l g _ (by exact hs) hR hk) rfl ?_
        refine xn_if_ne (tgt := 22) dX10_bounded_12 rfl (by omega) (fun c2 => ?_) (fun c2 => ?_)
        · refine xe_aload_n dX10_bounded_22 rfl ?_
          refine xe_getP dX10_bounded_23 flX10_27 (st124 hs) (by decide) rfl (sp124_7 hs) ?_
          refine xe_aload_n dX10_bounded_26 rfl ?_
          refine xe_getIv dX10_bounded_27 flX10_201 (st124 hs) (by decide) rfl (v := nI t) (h11) ?_
          refine xn_ialdv dX10_bounded_30 (st129 hs) (by omega) (by decide) (v := nI (tk_V K t)) (hv.1) ?_
          refine xe_istore_n (i := 3) dX10_bounded_31 rfl (by decide) rfl ?_
          refine xe_iload_n dX10_bounded_32 rfl ?_
          refine xe_iload_n dX10_bounded_33 rfl ?_
          refine xn_icmp_lt (tgt := 42) dX10_bounded_34 rfl (by omega) (by omega) (fun c3 => ?_) (fun c3 => ?_)
          · refine xe_aload_n dX10_bounded_42 rfl ?_
            refine xe_iconst dX10_bounded_43 kc_5 ?_
            refine xe_aload_n dX10_bounded_44 rfl ?_
            refine xe_getIv dX10_bounded_45 flX10_201 (st124 hs) (by decide) rfl (v := nI t) (h11) ?_
            refine xe_callVVq (d' := 0) (y' := mX10_wrong) dX10_bounded_48 mlX10_278 mvX10_wrong rfl (st124 hs) (by decide) rfl (by decide) (by decide) (Nat.le_of_ble_eq_true rfl) (c_X10_wrong l g _ (by exact hs) (K := K) (m := m) (by exact rt_Tc hT rfl rfl rfl rfl) hinc (by exact h13) (e := e) (k := 5) (u := t) (by exact lfu_of hlf) (by decide) (by decide) ht) rfl (fun hw4 hwq4 => ?_)
            obtain ⟨a4, b4, rfl, hl4⟩ := hwq4
            refine xe_aload_n dX10_bounded_51 rfl ?_
            refine xe_callVV (d' := 1) (y' := mX10_goesOn) dX10_bounded_52 mlX10_219 mvX10_goesOn rfl (st124 hs) (by decide) rfl (by decide) (by decide) (Nat.le_of_ble_eq_true rfl) (c_X10_goesOn_f l g _ (by exact hs) (t := t) (by refine ⟨rt_Tc hT ?_ ?_ ?_ ?_, ht, ?_, ?_⟩ <;> first | exact rfl | exact h11 | exact h13) (by omega)) rfl ?_
            refine xe_iload_n dX10_bounded_55 rfl ?_
            refine xe_ireturn dX10_bounded_56 rfl (by first | rfl | decide +kernel) ?_
            exact ⟨_, rfl, _, _, (q_heq [124] (H := h) (by repeat (first | exact q_out_r | refine q_out_w rfl ?_)) (by repeat (first | exact q_out_r | refine q_out_w rfl ?_)) (And.intro (q_feq [13, 14, 15, 16] (f := q_I h 124) (by repeat (first | exact q_fout_r | refine q_fout_w rfl ?_)) (by repeat (first | exact q_fout_r | refine q_fout_w rfl ?_)) (And.intro rfl (And.intro rfl (And.intro rfl (And.intro rfl trivial))))) trivial))⟩
          · refine xe_iload_n dX10_bounded_37 rfl ?_
            refine xe_iload_n dX10_bounded_38 rfl ?_
            refine xn_icmp_le (tgt := 51) dX10_bounded_39 rfl (by omega) (by omega) (fun c5 => ?_) (fun c5 => ?_)
            · refine xe_aload_n dX10_bounded_51 rfl ?_
              refine xe_callVV (d' := 1) (y' := mX10_goesOn) dX10_bounded_52 mlX10_219 mvX10_goesOn rfl (st124 hs) (by decide) rfl (by decide) (by decide) (Nat.le_of_ble_eq_true rfl) (c_X10_goesOn_f l g _ (by exact hs) (t := t) (by refine ⟨rt_Tc hT ?_ ?_ ?_ ?_, ht, ?_, ?_⟩ <;> first | exact rfl | exact h11 | exact h13) (by omega)) rfl ?_
              refine xe_iload_n dX10_bounded_55 rfl ?_
              refine xe_ireturn dX10_bounded_56 rfl (by first | rfl | decide +kernel) ?_
              exact ⟨_, rfl, _, _, (q_heq [124] (H := h) (by repeat (first | exact q_out_r | refine q_out_w rfl ?_)) (by repeat (first | exact q_out_r | refine q_out_w rfl ?_)) (And.intro (q_feq [13, 14, 15, 16] (f := q_I h 124) (by repeat (first | exact q_fout_r | refine q_fout_w rfl ?_)) (by repeat (first | exact q_fout_r | refine q_fout_w rfl ?_)) (And.intro rfl (And.intro rfl (And.intro rfl (And.intro rfl trivial))))) trivial))⟩
            · refine xe_aload_n dX10_bounded_42 rfl ?_
              refine xe_iconst dX10_bounded_43 kc_5 ?_
              refine xe_aload_n dX10_bounded_44 rfl ?_
              refine xe_getIv dX10_bounded_45 flX10_201 (st124 hs) (by decide) rfl (v := nI t) (h11) ?_
              refine xe_callVVq (d' := 0) (y' := mX10_wrong) dX10_bounded_48 mlX10_278 mvX10_wrong rfl (st124 hs) (by decide) rfl (by decide) (by decide) (Nat.le_of_ble_eq_true rfl) (c_X10_wrong l g _ (by exact hs) (K := K) (m := m) (by exact rt_Tc hT rfl rfl rfl rfl) hinc (by exact h13) (e := e) (k := 5) (u := t) (by exact lfu_of hlf) (by decide) (by decide) ht) rfl (fun hw6 hwq6 => ?_)
              obtain ⟨a6, b6, rfl, hl6⟩ := hwq6
              refine xe_aload_n dX10_bounded_51 rfl ?_
              refine xe_callVV (d' := 1) (y' := mX10_goesOn) dX10_bounded_52 mlX10_219 mvX10_goesOn rfl (st124 hs) (by decide) rfl (by decide) (by decide) (Nat.le_of_ble_eq_true rfl) (c_X10_goesOn_f l g _ (by exact hs) (t := t) (by refine ⟨rt_Tc hT ?_ ?_ ?_ ?_, ht, ?_, ?_⟩ <;> first | exact rfl | exact h11 | exact h13) (by omega)) rfl ?_
              refine xe_iload_n dX10_bounded_55 rfl ?_
              refine xe_ireturn dX10_bounded_56 rfl (by first | rfl | decide +kernel) ?_
              exact ⟨_, rfl, _, _, (q_heq [124] (H := h) (by repeat (first | exact q_out_r | refine q_out_w rfl ?_)) (by repeat (first | exact q_out_r | refine q_out_w rfl ?_)) (And.intro (q_feq [13, 14, 15, 16] (f := q_I h 124) (by repeat (first | exact q_fout_r | refine q_fout_w rfl ?_)) (by repeat (first | exact q_fout_r | refine q_fout_w rfl ?_)) (And.intro rfl (And.intro rfl (And.intro rfl (And.intro rfl trivial))))) trivial))⟩
        · omega
  · rw [tx_ck_1 hk] at hck
    cases hck
    refine q_CtV mvX10_bounded (Nat.le_of_ble_eq_true rfl) ?_
    refine xe_aload_n dX10_bounded_0 rfl ?_
    refine xe_getIv dX10_bounded_1 flX10_198 (st124 hs) (by decide) rfl (v := nI 0) (h13) ?_
    refine xn_if_gt (tgt := 15) dX10_bounded_4 rfl (by omega) (fun c1 => ?_) (fun c1 => ?_)
    · omega
    · refine xe_aload_n dX10_bounded_7 rfl ?_
      refine xe_iconst dX10_bounded_8 kc_2 ?_
      refine xe_callVI (d' := 0) (y' := mX10_is) dX10_bounded_9 mlX10_216 mvX10_is rfl (st124 hs) (by decide) rfl (by decide) (by decide) (Nat.le_of_ble_eq_true rfl) (c_X10_is_0 l g _ (by exact hs) hR (by decide) (hk)) rfl ?_
      refine xn_if_ne (tgt := 22) dX10_bounded_12 rfl (by omega) (fun c2 => ?_) (fun c2 => ?_)
      · omega
      · refine xe_aload_n dX10_bounded_15 rfl ?_
        refine xe_iconst dX10_bounded_16 kc_1 ?_
        refine xe_callVV (d' := 0) (y' := mX10_fail) dX10_bounded_17 mlX10_213 mvX10_fail rfl (st124 hs) (by decide) rfl (by decide) (by decide) (Nat.le_of_ble_eq_true rfl) (c_X10_fail_0 l g _ (by exact hs) hR _) rfl ?_
        refine xe_iload_n dX10_bounded_20 rfl ?_
        refine xe_ireturn dX10_bounded_21 rfl (by first | rfl | decide +kernel) ?_
        exact ⟨_, rfl, _, _, (q_heq [124] (H := h) (by repeat (first | exact q_out_r | refine q_out_w rfl ?_)) (by repeat (first | exact q_out_r | refine q_out_w rfl ?_)) (And.intro (q_feq [13, 14, 15, 16] (f := q_I h 124) (by repeat (first | exact q_fout_r | refine q_fout_w rfl ?_)) (by repeat (first | exact q_fout_r | refine q_fout_w rfl ?_)) (And.intro rfl (And.intro rfl (And.intro rfl (And.intro rfl trivial))))) trivial))⟩
theorem c_X10_bounded_b (l : Launch) (g : q_GP) (h : q_H) (hs : q_Stat h) {f : Nat} (h13 : q_I h 124 13 = nI f) (hf : 0 < f) (hf5 : f ≤ 5) (lo hi_ : Int32) : q_Cd l g 2 mX10_bounded [.ref 124, .int lo, .int hi_] h (some (.int lo)) h := by
  refine q_CdV mvX10_bounded (Nat.le_of_ble_eq_true rfl) ?_
  refine xe_aload_n dX10_bounded_0 rfl ?_
  refine xe_getIv dX10_bounded_1 flX10_198 (st124 hs) (by decide) rfl (v := nI f) (h13) ?_
  refine xn_if_gt (tgt := 15) dX10_bounded_4 rfl (by omega) (fun c1 => ?_) (fun c1 => ?_)
  · refine xe_aload_n dX10_bounded_15 rfl ?_
    refine xe_iconst dX10_bounded_16 kc_1 ?_
    refine xe_callVV (d' := 0) (y' := mX10_fail) dX10_bounded_17 mlX10_213 mvX10_fail rfl (st124 hs) (by decide) rfl (by decide) (by decide) (Nat.le_of_ble_eq_true rfl) (c_X10_fail_f l g _ (by exact hs) (by exact h13) hf hf5 _) rfl ?_
    refine xe_iload_n dX10_bounded_20 rfl ?_
    refine xe_ireturn dX10_bounded_21 rfl (by first | rfl | decide +kernel) ?_
    exact ⟨rfl, rfl⟩
  · omega
theorem c_X10_notes (l : Launch) (g : q_GP) (h : q_H) (hs : q_Stat h) {n u : Nat} (hn : q_I h 124 20 = nI n) (hn2 : n < 16) (hu : u ≤ 400) (s a : Int32) : q_Cd l g 0 mX10_notes [.ref 124, .int (nI u), .int s, .int a] h none (q_wJ (q_wI (q_wI (q_wI h 124 (upd (q_I h 124) 20 (nI (n + 1)))) 133 (upd (q_I h 133) n s)) 134 (upd (q_I h 134) n a)) 132 (vp_updL (q_J h 132) n (q_J h 130 u))) := by
  refine q_CdV mvX10_notes (Nat.le_of_ble_eq_true rfl) ?_
  refine xe_aload_n dX10_notes_0 rfl ?_
  refine xe_getP dX10_notes_1 flX10_40 (st124 hs) (by decide) rfl (sp124_21 hs) ?_
  refine xe_aload_n dX10_notes_4 rfl ?_
  refine xe_getIv dX10_notes_5 flX10_234 (st124 hs) (by decide) rfl (v := nI n) (hn) ?_
  refine xe_aload_n dX10_notes_8 rfl ?_
  refine xe_getP dX10_notes_9 flX10_30 (st124 hs) (by decide) rfl (sp124_8 hs) ?_
  refine xe_iload_n dX10_notes_12 rfl ?_
  refine xn_laldv dX10_notes_13 (st130 hs) (by omega) (by decide) (v := (q_J h 130 u)) (rfl) ?_
  refine xn_last dX10_notes_14 (st132 hs) (by omega) (by decide) ?_
  refine xe_aload_n dX10_notes_15 rfl ?_
  refine xe_getP dX10_notes_16 flX10_43 (st124 hs) (by decide) rfl (sp124_22 hs) ?_
  refine xe_aload_n dX10_notes_19 rfl ?_
  refine xe_getIv dX10_notes_20 flX10_234 (st124 hs) (by decide) rfl (v := nI n) (hn) ?_
  refine xe_iload_n dX10_notes_23 rfl ?_
  refine xn_iast dX10_notes_24 (st133 hs) (by omega) (by decide) ?_
  refine xe_aload_n dX10_notes_25 rfl ?_
  refine xe_getP dX10_notes_26 flX10_46 (st124 hs) (by decide) rfl (sp124_23 hs) ?_
  refine xe_aload_n dX10_notes_29 rfl ?_
  refine xe_getIv dX10_notes_30 flX10_234 (st124 hs) (by decide) rfl (v := nI n) (hn) ?_
  refine xe_iload_n dX10_notes_33 rfl ?_
  refine xn_iast dX10_notes_34 (st134 hs) (by omega) (by decide) ?_
  refine xe_aload_n dX10_notes_35 rfl ?_
  refine xe_dup dX10_notes_36 rfl ?_
  refine xe_getIv dX10_notes_37 flX10_234 (st124 hs) (by decide) rfl (v := nI n) (hn) ?_
  refine xe_iconst dX10_notes_40 kc_1 ?_
  refine xn_iadd dX10_notes_41 ?_
  refine xe_putI dX10_notes_42 flX10_234 (st124 hs) (by decide) rfl (Or.inl rfl) rfl rfl ?_
  refine xe_return dX10_notes_45 rfl ?_
  exact ⟨rfl, (q_heqJ [124, 133, 134] [132] (H := h) (by repeat (first | exact q_outJ_r | refine q_outJ_w rfl ?_ | refine q_outJ_j rfl ?_)) (by repeat (first | exact q_outJ_r | refine q_outJ_w rfl ?_ | refine q_outJ_j rfl ?_)) (And.intro (q_feq [20] (f := q_I h 124) (by repeat (first | exact q_fout_r | refine q_fout_w rfl ?_)) (by repeat (first | exact q_fout_r | refine q_fout_w rfl ?_)) (And.intro rfl trivial)) (And.intro rfl (And.intro rfl trivial))) (And.intro rfl trivial))⟩
