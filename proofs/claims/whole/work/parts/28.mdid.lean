/-! the reference: did, surely -/
theorem q_mag_o {h h1 : q_H} {ks : List Nat} (a : q_out ks h h1) (hk : ks.all (fun r => r == 124 || q_msc r) = true) (hf : ∀ k, q_mfk k = false → q_I h1 124 k = q_I h 124 k) : q_mag h h1 := by
  refine ⟨fun r h3 h4 => ?_, hf, fun r _ _ => ?_, congrArg (fun z => z.2) a.2⟩
  · refine a.1 r ?_
    rw [← Bool.not_eq_true]
    intro q
    have := List.all_eq_true.mp hk r (List.contains_iff_mem.mp q)
    rw [h4, Bool.or_false] at this
    exact h3 (eq_of_beq this)
  · exact congrFun (congrArg (fun z => z.1) a.2) r
theorem q_mf_u {f : Nat → Int32} {k j : Nat} {v : Int32} (hj : q_mfk j = false) (hk : q_mfk k = true) : upd f k v j = f j := pk_un (fun q => by rw [q, hk] at hj; cases hj)
theorem q_Stat_mag {h X : q_H} (hX : q_mag h X) (hs : q_Stat h) : q_Stat X := by
  have e := hX.2.2.2
  have eT : q_T X = q_T h := congrArg (fun z => z.2.1) e
  have eL : q_L X = q_L h := congrArg (fun z => z.2.2.1) e
  have eN : q_N X = q_N h := congrArg (fun z => z.2.2.2.1) e
  have eP : q_P X = q_P h := congrArg (fun z => z.1) e
  refine ⟨fun r t n h1 => ?_, fun r k a h1 => ?_⟩
  · have := hs.1 r t n h1
    unfold q_Sh at this ⊢
    rw [eN, eT, eL]
    exact this
  · rw [eP]
    exact hs.2 r k a h1
theorem q_pow_k : ∀ k, k ≤ 16 → nI 1 <<< (nI k &&& 31) = nI (2 ^ k) := by
  intro k hk
  have key : ∀ k : Fin 17, nI 1 <<< (nI k.1 &&& 31) = nI (2 ^ k.1) := by decide +kernel
  exact key ⟨k, by omega⟩
/-- how often deed d is done in row k -/
def q_tms (k d : Nat) : Int32 := nI k >>> (nI (2 * d) &&& 31) &&& nI 3
def f_rs (F : Nat → Int32) (k d : Nat) (s : Int32 × Int32) : Int32 × Int32 := if q_tms k d ≤ 0 then (s.1 + q_tms k d * F d, s.2) else (s.1 + q_tms k d * F d, s.2 ||| nI 1 <<< (nI d &&& 31))
/-- row k: what it comes to, and what is done in it -/
def q_rk (F : Nat → Int32) (nd k : Nat) : Int32 × Int32 := q_it (f_rs F k) (nI 0, nI 0) nd
def f_rw (F : Nat → Int32) (nd : Nat) (n : Int32) (k : Nat) (s : Int32 × Int32) : Int32 × Int32 := if (q_rk F nd k).1 = n then (if s.1 = 0 then (s.1 + nI 1, (q_rk F nd k).2) else (s.1 + nI 1, s.2 &&& (q_rk F nd k).2)) else s
/-- rows, and what is done in all of them -/
def q_rws (F : Nat → Int32) (nd : Nat) (n : Int32) (k : Nat) : Int32 × Int32 := q_it (f_rw F nd n) (nI 0, nI 0) k
theorem f_rs_co {F G : Nat → Int32} {k d : Nat} (h : F d = G d) (s : Int32 × Int32) : f_rs F k d s = f_rs G k d s := by
  unfold f_rs
  rw [h]
set_option maxHeartbeats 4000000 in
theorem c_X10_fillsRows (l : Launch) (g : q_GP) (h : q_H) (hs : q_Stat h) {lv nm nd nc mo : Nat} (hp : rm_P h lv nm nd nc mo) {LW : q_LW} (hL : rm_L h lv LW) {w : Nat} (hw : q_I h 154 200 = nI w) (hw2 : w < 2 ^ 20) {m : Nat} (hm : m < nm) (n : Int32) : q_Ct l g 3 mX10_fillsRows [.ref 124, .int (nI m), .int n] h (fun r h1 => r = none ∧ q_mag h h1 ∧ q_I h1 124 60 = (q_rws (fun d => q_fin (q_I h 154) (q_I h 140) LW lv nc w m d) nd n (2 ^ (2 * nd))).1 ∧ q_I h1 124 61 = (q_rws (fun d => q_fin (q_I h 154) (q_I h 140) LW lv nc w m d) nd n (2 ^ (2 * nd))).2) := by
  obtain ⟨p1, p2, p3, p4, p5, p6, p7, p8, p9, p10⟩ := id hp
  have hpw : 2 ^ (2 * nd) ≤ 65536 := Nat.pow_le_pow_right (by decide) (show 2 * nd ≤ 16 by omega)
  refine q_CtV mvX10_fillsRows (Nat.le_of_ble_eq_true rfl) ?_
  refine xe_aload_n dX10_fillsRows_0 rfl ?_
  refine xe_callVV (d' := 0) (y' := mX10_copies) dX10_fillsRows_1 mlX10_343 mvX10_copies rfl (st124 hs) (by decide) rfl (by decide) (by decide) (Nat.le_of_ble_eq_true rfl) (c_X10_copies l g _ (by exact hs)) rfl ?_
  refine xe_iconst dX10_fillsRows_4 kc_0 ?_
  refine xe_istore_n (i := 3) dX10_fillsRows_5 rfl (by decide) rfl ?_
  refine xe_fin (L' := (fun (i1 : Nat) (s1 : (Nat → Int32) × (Nat → Int32) × (Nat → Int32) × Int32) => [(0, .ref 124), (1, .int (nI m)), (2, .int n), (3, .int (nI i1))]) 0 (q_I h 164, q_I h 152, q_I h 153, (q_I h 124 46))) (h' := (fun (i1 : Nat) (s1 : (Nat → Int32) × (Nat → Int32) × (Nat → Int32) × Int32) => (q_wI (q_wI (q_wI (q_wI (q_wI h 124 (upd (q_I h 124) 46 s1.2.2.2)) 152 s1.2.1) 153 s1.2.2.1) 155 (q_cpy (q_I h 154) (q_I h 155) 210)) 164 s1.1)) 0 (q_I h 164, q_I h 152, q_I h 153, (q_I h 124 46))) ?_ (And.intro rfl (And.intro rfl (And.intro rfl (And.intro rfl trivial)))) (q_heq [124, 152, 153, 155, 164] (H := h) (by repeat (first | exact q_out_r | refine q_out_w rfl ?_)) (by repeat (first | exact q_out_r | refine q_out_w rfl ?_)) (And.intro (q_feq [46] (f := q_I h 124) (by repeat (first | exact q_fout_r | refine q_fout_w rfl ?_)) (by repeat (first | exact q_fout_r | refine q_fout_w rfl ?_)) (And.intro rfl trivial)) (And.intro rfl (And.intro rfl (And.intro rfl (And.intro rfl trivial))))))
  refine xe_loopI (σ := (Nat → Int32) × (Nat → Int32) × (Nat → Int32) × Int32) (nd) (fun i s => s.1 = q_fil (fun d => q_fin (q_I h 154) (q_I h 140) LW lv nc w m d) (q_I h 164) i) (fun (i1 : Nat) (s1 : (Nat → Int32) × (Nat → Int32) × (Nat → Int32) × Int32) => [(0, .ref 124), (1, .int (nI m)), (2, .int n), (3, .int (nI i1))]) (fun (i1 : Nat) (s1 : (Nat → Int32) × (Nat → Int32) × (Nat → Int32) × Int32) => (q_wI (q_wI (q_wI (q_wI (q_wI h 124 (upd (q_I h 124) 46 s1.2.2.2)) 152 s1.2.1) 153 s1.2.2.1) 155 (q_cpy (q_I h 154) (q_I h 155) 210)) 164 s1.1)) (q_I h 164, q_I h 152, q_I h 153, (q_I h 124 46)) ((q_fil0 _ _).symm) (fun i1 hi1 s1 e1 K1 => ?_) (fun s1 e1 => ?_)
  · refine xe_iload_n dX10_fillsRows_6 rfl ?_
    refine xe_aload_n dX10_fillsRows_7 rfl ?_
    refine xe_getP dX10_fillsRows_8 flX10_55 (st124 hs) (by decide) rfl (sp124_26 hs) ?_
    refine xe_aload_n dX10_fillsRows_11 rfl ?_
    refine xe_getIv dX10_fillsRows_12 flX10_228 (st124 hs) (by decide) rfl (v := nI lv) (p1) ?_
    refine xn_ialdv dX10_fillsRows_15 (st137 hs) (by omega) (by decide) (v := nI nd) (p5) ?_
    refine xn_icmp_ge (tgt := 37) dX10_fillsRows_16 rfl (by omega) (by omega) (fun c2 => ?_) (fun c2 => ?_)
    · omega
    · refine xe_aload_n dX10_fillsRows_19 rfl ?_
      refine xe_getP dX10_fillsRows_20 flX10_138 (st124 hs) (by decide) rfl (sp124_58 hs) ?_
      refine xe_iload_n dX10_fillsRows_23 rfl ?_
      refine xe_aload_n dX10_fillsRows_24 rfl ?_
      refine xe_iload_n dX10_fillsRows_25 rfl ?_
      refine xe_iload_n dX10_fillsRows_26 rfl ?_
      refine xe_callVIq (d' := 2) (y' := mX10_fineOf) dX10_fillsRows_27 mlX10_362 mvX10_fineOf rfl (st124 hs) (by decide) rfl (by decide) (by decide) (Nat.le_of_ble_eq_true rfl) (c_X10_fineOf l g _ (by exact hs) (by exact hp) (by exact rm_L_of (h := h) ⟨rfl, rfl, rfl, rfl, rfl, rfl, rfl, rfl, rfl⟩ hL) (by exact hw) (by omega) _ _ (by omega) (by omega)) rfl (fun h3 hq3 => ?_)
      obtain ⟨V3, p3_, b3, rfl⟩ := hq3
      refine xn_iast dX10_fillsRows_30 (st164 hs) (by omega) (by decide) ?_
      refine xn_iinc dX10_fillsRows_31 rfl kc_1 ?_
      refine xe_goto (tgt := 6) dX10_fillsRows_34 rfl ?_
      exact xe_fin (K1 (upd s1.1 i1 (q_fin (q_cpy (q_I h 154) (q_I h 155) 210) (q_I h 140) LW lv nc w m i1), V3, p3_, b3) (by show upd s1.1 i1 (q_fin (q_cpy (q_I h 154) (q_I h 155) 210) (q_I h 140) LW lv nc w m i1) = q_fil (fun d => q_fin (q_I h 154) (q_I h 140) LW lv nc w m d) (q_I h 164) (i1 + 1); rw [e1, q_fin_rq (q_req_cpy (q_I h 154) (q_I h 155) (n := 210) (by decide)) _ _ _ _ _ (by omega) (by omega)]; exact q_filS (fun d => q_fin (q_I h 154) (q_I h 140) LW lv nc w m d) _ _)) (And.intro rfl (And.intro rfl (And.intro rfl (And.intro rfl trivial)))) (q_heq [124, 152, 153, 155, 164] (H := h) (by repeat (first | exact q_out_r | refine q_out_w rfl ?_)) (by repeat (first | exact q_out_r | refine q_out_w rfl ?_)) (And.intro (q_feq [46] (f := q_I h 124) (by repeat (first | exact q_fout_r | refine q_fout_w rfl ?_)) (by repeat (first | exact q_fout_r | refine q_fout_w rfl ?_)) (And.intro rfl trivial)) (And.intro rfl (And.intro rfl (And.intro rfl (And.intro rfl trivial))))))
  · refine xe_iload_n dX10_fillsRows_6 rfl ?_
    refine xe_aload_n dX10_fillsRows_7 rfl ?_
    refine xe_getP dX10_fillsRows_8 flX10_55 (st124 hs) (by decide) rfl (sp124_26 hs) ?_
    refine xe_aload_n dX10_fillsRows_11 rfl ?_
    refine xe_getIv dX10_fillsRows_12 flX10_228 (st124 hs) (by decide) rfl (v := nI lv) (p1) ?_
    refine xn_ialdv dX10_fillsRows_15 (st137 hs) (by omega) (by decide) (v := nI nd) (p5) ?_
    refine xn_icmp_ge (tgt := 37) dX10_fillsRows_16 rfl (by omega) (by omega) (fun c4 => ?_) (fun c4 => ?_)
    · refine xe_aload_n dX10_fillsRows_37 rfl ?_
      refine xe_iconst dX10_fillsRows_38 kc_0 ?_
      refine xe_putI dX10_fillsRows_39 flX10_398 (st124 hs) (by decide) rfl (Or.inl rfl) rfl rfl ?_
      refine xe_aload_n dX10_fillsRows_42 rfl ?_
      refine xe_iconst dX10_fillsRows_43 kc_0 ?_
      refine xe_putI dX10_fillsRows_44 flX10_401 (st124 hs) (by decide) rfl (Or.inl rfl) rfl rfl ?_
      refine xe_iconst dX10_fillsRows_47 kc_0 ?_
      refine xe_istore_n (i := 3) dX10_fillsRows_48 rfl (by decide) rfl ?_
      refine xe_fin (L' := (fun (i5 : Nat) (s5 : Int32 × Int32) => [(0, .ref 124), (1, .int (nI m)), (2, .int n), (3, .int (nI i5))]) 0 (nI 0, nI 0)) (h' := (fun (i5 : Nat) (s5 : Int32 × Int32) => (q_wI (q_wI (q_wI (q_wI (q_wI h 124 (upd (upd (upd (q_I h 124) 46 s1.2.2.2) 60 s5.1) 61 s5.2)) 152 s1.2.1) 153 s1.2.2.1) 155 (q_cpy (q_I h 154) (q_I h 155) 210)) 164 s1.1)) 0 (nI 0, nI 0)) ?_ (And.intro rfl (And.intro rfl (And.intro rfl (And.intro rfl trivial)))) (q_heq [124, 152, 153, 155, 164] (H := h) (by repeat (first | exact q_out_r | refine q_out_w rfl ?_)) (by repeat (first | exact q_out_r | refine q_out_w rfl ?_)) (And.intro (q_feq [46, 60, 61] (f := q_I h 124) (by repeat (first | exact q_fout_r | refine q_fout_w rfl ?_)) (by repeat (first | exact q_fout_r | refine q_fout_w rfl ?_)) (And.intro rfl (And.intro rfl (And.intro rfl trivial)))) (And.intro rfl (And.intro rfl (And.intro rfl (And.intro rfl trivial))))))
      refine xe_loop (σ := Int32 × Int32) (2 ^ (2 * nd)) (f_rw (fun d => q_fin (q_I h 154) (q_I h 140) LW lv nc w m d) nd n) (nI 0, nI 0) (fun (i5 : Nat) (s5 : Int32 × Int32) => [(0, .ref 124), (1, .int (nI m)), (2, .int n), (3, .int (nI i5))]) (fun (i5 : Nat) (s5 : Int32 × Int32) => (q_wI (q_wI (q_wI (q_wI (q_wI h 124 (upd (upd (upd (q_I h 124) 46 s1.2.2.2) 60 s5.1) 61 s5.2)) 152 s1.2.1) 153 s1.2.2.1) 155 (q_cpy (q_I h 154) (q_I h 155) 210)) 164 s1.1)) (fun i5 hi5 s5 e5 K5 => ?_) ?_
      · refine xe_iload_n dX10_fillsRows_49 rfl ?_
        refine xe_iconst dX10_fillsRows_50 kc_1 ?_
        refine xe_iconst dX10_fillsRows_51 kc_2 ?_
        refine xe_aload_n dX10_fillsRows_52 rfl ?_
        refine xe_getP dX10_fillsRows_53 flX10_55 (st124 hs) (by decide) rfl (sp124_26 hs) ?_
        refine xe_aload_n dX10_fillsRows_56 rfl ?_
        refine xe_getIv dX10_fillsRows_57 flX10_228 (st124 hs) (by decide) rfl (v := nI lv) (p1) ?_
        refine xn_ialdv dX10_fillsRows_60 (st137 hs) (by omega) (by decide) (v := nI nd) (p5) ?_
        refine xn_imul dX10_fillsRows_61 ?_
        refine xe_ishl dX10_fillsRows_62 ?_
        refine xe_top (v' := nI (2 ^ (2 * nd))) (q_pow_k (2 * nd) (by omega)) ?_
        refine xn_icmp_ge (tgt := 182) dX10_fillsRows_63 rfl (by omega) (by omega) (fun c6 => ?_) (fun c6 => ?_)
        · omega
        · refine xe_iconst dX10_fillsRows_66 kc_0 ?_
          refine xe_istore dX10_fillsRows_67 (by decide) rfl ?_
          refine xe_iconst dX10_fillsRows_69 kc_0 ?_
          refine xe_istore dX10_fillsRows_70 (by decide) rfl ?_
          refine xe_iconst dX10_fillsRows_72 kc_0 ?_
          refine xe_istore dX10_fillsRows_73 (by decide) rfl ?_
          refine xe_fin (L' := (fun (i7 : Nat) (s7 : Int32 × Int32) => [(0, .ref 124), (1, .int (nI m)), (2, .int n), (3, .int (nI i5)), (4, .int s7.1), (5, .int s7.2), (6, .int (nI i7))]) 0 (nI 0, nI 0)) (h' := (fun (i7 : Nat) (s7 : Int32 × Int32) => (q_wI (q_wI (q_wI (q_wI (q_wI h 124 (upd (upd (upd (q_I h 124) 46 s1.2.2.2) 60 s5.1) 61 s5.2)) 152 s1.2.1) 153 s1.2.2.1) 155 (q_cpy (q_I h 154) (q_I h 155) 210)) 164 s1.1)) 0 (nI 0, nI 0)) ?_ (And.intro rfl (And.intro rfl (And.intro rfl (And.intro rfl (And.intro rfl (And.intro rfl (And.intro rfl trivial))))))) (q_heq [124, 152, 153, 155, 164] (H := h) (by repeat (first | exact q_out_r | refine q_out_w rfl ?_)) (by repeat (first | exact q_out_r | refine q_out_w rfl ?_)) (And.intro (q_feq [46, 60, 61] (f := q_I h 124) (by repeat (first | exact q_fout_r | refine q_fout_w rfl ?_)) (by repeat (first | exact q_fout_r | refine q_fout_w rfl ?_)) (And.intro rfl (And.intro rfl (And.intro rfl trivial)))) (And.intro rfl (And.intro rfl (And.intro rfl (And.intro rfl trivial))))))
          refine xe_loop (σ := Int32 × Int32) (nd) (f_rs (fun d => q_fin (q_I h 154) (q_I h 140) LW lv nc w m d) i5) (nI 0, nI 0) (fun (i7 : Nat) (s7 : Int32 × Int32) => [(0, .ref 124), (1, .int (nI m)), (2, .int n), (3, .int (nI i5)), (4, .int s7.1), (5, .int s7.2), (6, .int (nI i7))]) (fun (i7 : Nat) (s7 : Int32 × Int32) => (q_wI (q_wI (q_wI (q_wI (q_wI h 124 (upd (upd (upd (q_I h 124) 46 s1.2.2.2) 60 s5.1) 61 s5.2)) 152 s1.2.1) 153 s1.2.2.1) 155 (q_cpy (q_I h 154) (q_I h 155) 210)) 164 s1.1)) (fun i7 hi7 s7 e7 K7 => ?_) ?_
          · refine xe_iload dX10_fillsRows_75 rfl ?_
            refine xe_aload_n dX10_fillsRows_77 rfl ?_
            refine xe_getP dX10_fillsRows_78 flX10_55 (st124 hs) (by decide) rfl (sp124_26 hs) ?_
            refine xe_aload_n dX10_fillsRows_81 rfl ?_
            refine xe_getIv dX10_fillsRows_82 flX10_228 (st124 hs) (by decide) rfl (v := nI lv) (p1) ?_
            refine xn_ialdv dX10_fillsRows_85 (st137 hs) (by omega) (by decide) (v := nI nd) (p5) ?_
            refine xn_icmp_ge (tgt := 134) dX10_fillsRows_86 rfl (by omega) (by omega) (fun c8 => ?_) (fun c8 => ?_)
            · omega
            · refine xe_iload_n dX10_fillsRows_89 rfl ?_
              refine xe_iconst dX10_fillsRows_90 kc_2 ?_
              refine xe_iload dX10_fillsRows_91 rfl ?_
              refine xn_imul dX10_fillsRows_93 ?_
              refine xe_ishr dX10_fillsRows_94 ?_
              refine xe_iconst dX10_fillsRows_95 kc_3 ?_
              refine xe_iand dX10_fillsRows_96 ?_
              refine xe_istore dX10_fillsRows_97 (by decide) rfl ?_
              refine xe_iload dX10_fillsRows_99 rfl ?_
              refine xe_iload dX10_fillsRows_101 rfl ?_
              refine xe_aload_n dX10_fillsRows_103 rfl ?_
              refine xe_getP dX10_fillsRows_104 flX10_138 (st124 hs) (by decide) rfl (sp124_58 hs) ?_
              refine xe_iload dX10_fillsRows_107 rfl ?_
              refine xn_ialdv dX10_fillsRows_109 (st164 hs) (by omega) (by decide) (v := ((fun d => q_fin (q_I h 154) (q_I h 140) LW lv nc w m d) i7)) (by show s1.1 _ = _; rw [e1]; exact if_pos (by omega)) ?_
              refine xe_imul dX10_fillsRows_110 ?_
              refine xe_iadd dX10_fillsRows_111 ?_
              refine xe_istore dX10_fillsRows_112 (by decide) rfl ?_
              refine xe_iload dX10_fillsRows_114 rfl ?_
              refine xe_if_le (tgt := 128) dX10_fillsRows_116 rfl (fun c9 => ?_) (fun c9 => ?_)
              · refine xn_iinc dX10_fillsRows_128 rfl kc_1 ?_
                refine xe_goto (tgt := 75) dX10_fillsRows_131 rfl ?_
                have e7F : (f_rs (fun d => q_fin (q_I h 154) (q_I h 140) LW lv nc w m d) i5) i7 s7 = _ := (if_pos c9)
                rw [e7F] at K7
                exact xe_fin K7 (And.intro rfl (And.intro rfl (And.intro rfl (And.intro rfl (And.intro rfl (And.intro rfl (And.intro rfl trivial))))))) (q_heq [124, 152, 153, 155, 164] (H := h) (by repeat (first | exact q_out_r | refine q_out_w rfl ?_)) (by repeat (first | exact q_out_r | refine q_out_w rfl ?_)) (And.intro (q_feq [46, 60, 61] (f := q_I h 124) (by repeat (first | exact q_fout_r | refine q_fout_w rfl ?_)) (by repeat (first | exact q_fout_r | refine q_fout_w rfl ?_)) (And.intro rfl (And.intro rfl (And.intro rfl trivial)))) (And.intro rfl (And.intro rfl (And.intro rfl (And.intro rfl trivial))))))
              · refine xe_iload dX10_fillsRows_119 rfl ?_
                refine xe_iconst dX10_fillsRows_121 kc_1 ?_
                refine xe_iload dX10_fillsRows_122 rfl ?_
                refine xe_ishl dX10_fillsRows_124 ?_
                refine xe_ior dX10_fillsRows_125 ?_
                refine xe_istore dX10_fillsRows_126 (by decide) rfl ?_
                refine xn_iinc dX10_fillsRows_128 rfl kc_1 ?_
                refine xe_goto (tgt := 75) dX10_fillsRows_131 rfl ?_
                have e7F : (f_rs (fun d => q_fin (q_I h 154) (q_I h 140) LW lv nc w m d) i5) i7 s7 = _ := (if_neg c9)
                rw [e7F] at K7
                exact xe_fin K7 (And.intro rfl (And.intro rfl (And.intro rfl (And.intro rfl (And.intro rfl (And.intro rfl (And.intro rfl trivial))))))) (q_heq [124, 152, 153, 155, 164] (H := h) (by repeat (first | exact q_out_r | refine q_out_w rfl ?_)) (by repeat (first | exact q_out_r | refine q_out_w rfl ?_)) (And.intro (q_feq [46, 60, 61] (f := q_I h 124) (by repeat (first | exact q_fout_r | refine q_fout_w rfl ?_)) (by repeat (first | exact q_fout_r | refine q_fout_w rfl ?_)) (And.intro rfl (And.intro rfl (And.intro rfl trivial)))) (And.intro rfl (And.intro rfl (And.intro rfl (And.intro rfl trivial))))))
          · refine xe_iload dX10_fillsRows_75 rfl ?_
            refine xe_aload_n dX10_fillsRows_77 rfl ?_
            refine xe_getP dX10_fillsRows_78 flX10_55 (st124 hs) (by decide) rfl (sp124_26 hs) ?_
            refine xe_aload_n dX10_fillsRows_81 rfl ?_
            refine xe_getIv dX10_fillsRows_82 flX10_228 (st124 hs) (by decide) rfl (v := nI lv) (p1) ?_
            refine xn_ialdv dX10_fillsRows_85 (st137 hs) (by omega) (by decide) (v := nI nd) (p5) ?_
            refine xn_icmp_ge (tgt := 134) dX10_fillsRows_86 rfl (by omega) (by omega) (fun c10 => ?_) (fun c10 => ?_)
            · refine xe_iload dX10_fillsRows_134 rfl ?_
              refine xe_iload_n dX10_fillsRows_136 rfl ?_
              refine xe_icmp_eq (tgt := 143) dX10_fillsRows_137 rfl (fun c11 => ?_) (fun c11 => ?_)
              · refine xe_aload_n dX10_fillsRows_143 rfl ?_
                refine xe_aload_n dX10_fillsRows_144 rfl ?_
                refine xe_getIv dX10_fillsRows_145 flX10_398 (st124 hs) (by decide) rfl (v := s5.1) (rfl) ?_
                refine xe_if_ne (tgt := 156) dX10_fillsRows_148 rfl (fun c12 => ?_) (fun c12 => ?_)
                · refine xe_aload_n dX10_fillsRows_156 rfl ?_
                  refine xe_getIv dX10_fillsRows_157 flX10_401 (st124 hs) (by decide) rfl (v := s5.2) (rfl) ?_
                  refine xe_iload dX10_fillsRows_160 rfl ?_
                  refine xe_iand dX10_fillsRows_162 ?_
                  refine xe_putI dX10_fillsRows_163 flX10_401 (st124 hs) (by decide) rfl (Or.inl rfl) rfl rfl ?_
                  refine xe_aload_n dX10_fillsRows_166 rfl ?_
                  refine xe_dup dX10_fillsRows_167 rfl ?_
                  refine xe_getIv dX10_fillsRows_168 flX10_398 (st124 hs) (by decide) rfl (v := s5.1) (rfl) ?_
                  refine xe_iconst dX10_fillsRows_171 kc_1 ?_
                  refine xe_iadd dX10_fillsRows_172 ?_
                  refine xe_putI dX10_fillsRows_173 flX10_398 (st124 hs) (by decide) rfl (Or.inl rfl) rfl rfl ?_
                  refine xn_iinc dX10_fillsRows_176 rfl kc_1 ?_
                  refine xe_goto (tgt := 49) dX10_fillsRows_179 rfl ?_
                  have e5F : (f_rw (fun d => q_fin (q_I h 154) (q_I h 140) LW lv nc w m d) nd n) i5 s5 = _ := ((if_pos c11).trans (if_neg c12))
                  rw [e5F] at K5
                  exact xe_fin K5 (And.intro rfl (And.intro rfl (And.intro rfl (And.intro rfl trivial)))) (q_heq [124, 152, 153, 155, 164] (H := h) (by repeat (first | exact q_out_r | refine q_out_w rfl ?_)) (by repeat (first | exact q_out_r | refine q_out_w rfl ?_)) (And.intro (q_feq [46, 60, 61] (f := q_I h 124) (by repeat (first | exact q_fout_r | refine q_fout_w rfl ?_)) (by repeat (first | exact q_fout_r | refine q_fout_w rfl ?_)) (And.intro rfl (And.intro rfl (And.intro rfl trivial)))) (And.intro rfl (And.intro rfl (And.intro rfl (And.intro rfl trivial))))))
                · refine xe_iload dX10_fillsRows_151 rfl ?_
                  refine xe_goto (tgt := 163) dX10_fillsRows_153 rfl ?_
                  refine xe_putI dX10_fillsRows_163 flX10_401 (st124 hs) (by decide) rfl (Or.inl rfl) rfl rfl ?_
                  refine xe_aload_n dX10_fillsRows_166 rfl ?_
                  refine xe_dup dX10_fillsRows_167 rfl ?_
                  refine xe_getIv dX10_fillsRows_168 flX10_398 (st124 hs) (by decide) rfl (v := s5.1) (rfl) ?_
                  refine xe_iconst dX10_fillsRows_171 kc_1 ?_
                  refine xe_iadd dX10_fillsRows_172 ?_
                  refine xe_putI dX10_fillsRows_173 flX10_398 (st124 hs) (by decide) rfl (Or.inl rfl) rfl rfl ?_
                  refine xn_iinc dX10_fillsRows_176 rfl kc_1 ?_
                  refine xe_goto (tgt := 49) dX10_fillsRows_179 rfl ?_
                  have e5F : (f_rw (fun d => q_fin (q_I h 154) (q_I h 140) LW lv nc w m d) nd n) i5 s5 = _ := ((if_pos c11).trans (if_pos c12))
                  rw [e5F] at K5
                  exact xe_fin K5 (And.intro rfl (And.intro rfl (And.intro rfl (And.intro rfl trivial)))) (q_heq [124, 152, 153, 155, 164] (H := h) (by repeat (first | exact q_out_r | refine q_out_w rfl ?_)) (by repeat (first | exact q_out_r | refine q_out_w rfl ?_)) (And.intro (q_feq [46, 60, 61] (f := q_I h 124) (by repeat (first | exact q_fout_r | refine q_fout_w rfl ?_)) (by repeat (first | exact q_fout_r | refine q_fout_w rfl ?_)) (And.intro rfl (And.intro rfl (And.intro rfl trivial)))) (And.intro rfl (And.intro rfl (And.intro rfl (And.intro rfl trivial))))))
              · refine xe_goto (tgt := 176) dX10_fillsRows_140 rfl ?_
                refine xn_iinc dX10_fillsRows_176 rfl kc_1 ?_
                refine xe_goto (tgt := 49) dX10_fillsRows_179 rfl ?_
                have e5F : (f_rw (fun d => q_fin (q_I h 154) (q_I h 140) LW lv nc w m d) nd n) i5 s5 = _ := (if_neg c11)
                rw [e5F] at K5
                exact xe_fin K5 (And.intro rfl (And.intro rfl (And.intro rfl (And.intro rfl trivial)))) (q_heq [124, 152, 153, 155, 164] (H := h) (by repeat (first | exact q_out_r | refine q_out_w rfl ?_)) (by repeat (first | exact q_out_r | refine q_out_w rfl ?_)) (And.intro (q_feq [46, 60, 61] (f := q_I h 124) (by repeat (first | exact q_fout_r | refine q_fout_w rfl ?_)) (by repeat (first | exact q_fout_r | refine q_fout_w rfl ?_)) (And.intro rfl (And.intro rfl (And.intro rfl trivial)))) (And.intro rfl (And.intro rfl (And.intro rfl (And.intro rfl trivial))))))
            · omega
      · refine xe_iload_n dX10_fillsRows_49 rfl ?_
        refine xe_iconst dX10_fillsRows_50 kc_1 ?_
        refine xe_iconst dX10_fillsRows_51 kc_2 ?_
        refine xe_aload_n dX10_fillsRows_52 rfl ?_
        refine xe_getP dX10_fillsRows_53 flX10_55 (st124 hs) (by decide) rfl (sp124_26 hs) ?_
        refine xe_aload_n dX10_fillsRows_56 rfl ?_
        refine xe_getIv dX10_fillsRows_57 flX10_228 (st124 hs) (by decide) rfl (v := nI lv) (p1) ?_
        refine xn_ialdv dX10_fillsRows_60 (st137 hs) (by omega) (by decide) (v := nI nd) (p5) ?_
        refine xn_imul dX10_fillsRows_61 ?_
        refine xe_ishl dX10_fillsRows_62 ?_
        refine xe_top (v' := nI (2 ^ (2 * nd))) (q_pow_k (2 * nd) (by omega)) ?_
        refine xn_icmp_ge (tgt := 182) dX10_fillsRows_63 rfl (by omega) (by omega) (fun c13 => ?_) (fun c13 => ?_)
        · refine xe_return dX10_fillsRows_182 rfl ?_
          exact ⟨rfl, q_mag_o (ks := [124, 152, 153, 155, 164]) (by repeat (first | exact q_out_r | refine q_out_w rfl ?_)) rfl (fun k hk => by show (upd (upd (upd (q_I h 124) 46 s1.2.2.2) 60 ((q_it (f_rw (fun d => q_fin (q_I h 154) (q_I h 140) LW lv nc w m d) nd n) (nI 0, nI 0) (2 ^ (2 * nd))).1)) 61 ((q_it (f_rw (fun d => q_fin (q_I h 154) (q_I h 140) LW lv nc w m d) nd n) (nI 0, nI 0) (2 ^ (2 * nd))).2)) k = _; repeat (first | exact rfl | refine (q_mf_u hk rfl).trans ?_)), rfl, rfl⟩
        · omega
    · omega
theorem c_X10_did_t (l : Launch) (g : q_GP) (h : q_H) (hs : q_Stat h) {lv nm nd nc mo : Nat} (hp : rm_P h lv nm nd nc mo) {LW : q_LW} (hL : rm_L h lv LW) {w : Nat} (hw : q_I h 154 200 = nI w) (hw2 : w < 2 ^ 20) {m n : Nat} (hm : m < nm) (hn : n ≤ 9999) : q_Ct l g 4 mX10_did [.ref 124, .int (nI m), .int (nI n)] h (fun r h1 => r = some (.int (q_rws (fun d => q_fin (q_I h 154) (q_I h 140) LW lv nc w m d) nd (nI n) (2 ^ (2 * nd))).1) ∧ q_mag h h1) := by
  obtain ⟨p1, p2, p3, p4, p5, p6, p7, p8, p9, p10⟩ := id hp
  have h1 := q_ltn_t (by omega : nm < 2 ^ 31) hm
  refine q_CtV mvX10_did (Nat.le_of_ble_eq_true rfl) ?_
  refine xe_aload_n dX10_did_0 rfl ?_
  refine xe_iload_n dX10_did_1 rfl ?_
  refine xe_callVI (d' := 1) (y' := mX10_isMan) dX10_did_2 mlX10_340 mvX10_isMan rfl (st124 hs) (by decide) rfl (by decide) (by decide) (Nat.le_of_ble_eq_true rfl) (c_X10_isManv l g _ (by exact hs) (by exact hp) _ (by assumption)) rfl ?_
  refine xn_if_eq (tgt := 19) dX10_did_5 rfl (by omega) (fun c1 => ?_) (fun c1 => ?_)
  · omega
  · refine xe_iload_n dX10_did_8 rfl ?_
    refine xe_iconst dX10_did_9 kc_0 ?_
    refine xe_sipush dX10_did_10 ks_9999 ?_
    refine xe_callSI (d' := 0) (y' := mX10_in) dX10_did_13 mlX10_312 msX10_in rfl (by decide) (by decide) (Nat.le_of_ble_eq_true rfl) (c_X10_inv l g _ _ _ _ (q_in_t (by omega) (by omega) (by decide))) rfl ?_
    refine xn_if_ne (tgt := 21) dX10_did_16 rfl (by omega) (fun c2 => ?_) (fun c2 => ?_)
    · refine xe_aload_n dX10_did_21 rfl ?_
      refine xe_iload_n dX10_did_22 rfl ?_
      refine xe_iload_n dX10_did_23 rfl ?_
      refine xe_callVVq (d' := 3) (y' := mX10_fillsRows) dX10_did_24 mlX10_404 mvX10_fillsRows rfl (st124 hs) (by decide) rfl (by decide) (by decide) (Nat.le_of_ble_eq_true rfl) (c_X10_fillsRows l g _ (by exact hs) (by exact hp) hL hw hw2 hm _) rfl (fun h1 hq => ?_)
      obtain ⟨hX, r1, r2⟩ := hq
      have hs : q_Stat h1 := q_Stat_mag hX hs
      refine xe_aload_n dX10_did_27 rfl ?_
      refine xe_getIv dX10_did_28 flX10_398 (st124 hs) (by decide) rfl (v := (q_rws (fun d => q_fin (q_I h 154) (q_I h 140) LW lv nc w m d) nd (nI n) (2 ^ (2 * nd))).1) (r1) ?_
      refine xe_ireturn dX10_did_31 rfl (by first | rfl | decide +kernel) ?_
      exact ⟨rfl, hX⟩
    · omega
theorem c_X10_did_f (l : Launch) (g : q_GP) (h : q_H) (hs : q_Stat h) {lv nm nd nc mo : Nat} (hp : rm_P h lv nm nd nc mo) (x z : Int32) (hxz : ¬ (q_isN x nm ∧ ∃ k, 0 ≤ k ∧ k ≤ 9999 ∧ z = nI k)) : q_Cd l g 4 mX10_did [.ref 124, .int x, .int z] h (some (.int (-1))) h := by
  obtain ⟨p1, p2, p3, p4, p5, p6, p7, p8, p9, p10⟩ := id hp
  by_cases h1 : q_isN x nm
  · have e1 : q_ltn x nm = nI 1 := by
      obtain ⟨k, hk, rfl⟩ := q_isN_of (by omega) h1
      exact q_ltn_t (by omega) hk
    have e2 := q_in_f (a := 0) (b := 9999) (by decide) (by decide) (fun q => hxz ⟨h1, q⟩)
    refine q_CdV mvX10_did (Nat.le_of_ble_eq_true rfl) ?_
    refine xe_aload_n dX10_did_0 rfl ?_
    refine xe_iload_n dX10_did_1 rfl ?_
    refine xe_callVI (d' := 1) (y' := mX10_isMan) dX10_did_2 mlX10_340 mvX10_isMan rfl (st124 hs) (by decide) rfl (by decide) (by decide) (Nat.le_of_ble_eq_true rfl) (c_X10_isManv l g _ (by exact hs) (by exact hp) _ (by assumption)) rfl ?_
    refine xn_if_eq (tgt := 19) dX10_did_5 rfl (by omega) (fun c1 => ?_) (fun c1 => ?_)
    · omega
    · refine xe_iload_n dX10_did_8 rfl ?_
      refine xe_iconst dX10_did_9 kc_0 ?_
      refine xe_sipush dX10_did_10 ks_9999 ?_
      refine xe_callSI (d' := 0) (y' := mX10_in) dX10_did_13 mlX10_312 msX10_in rfl (by decide) (by decide) (Nat.le_of_ble_eq_true rfl) (c_X10_inv l g _ _ _ _ (e2)) rfl ?_
      refine xn_if_ne (tgt := 21) dX10_did_16 rfl (by omega) (fun c2 => ?_) (fun c2 => ?_)
      · omega
      · refine xe_iconst dX10_did_19 kc_m1 ?_
        refine xe_ireturn dX10_did_20 rfl (by first | rfl | decide +kernel) ?_
        exact ⟨rfl, rfl⟩
  · have e1 := q_ltn_f (by omega : nm < 2 ^ 31) h1
    refine q_CdV mvX10_did (Nat.le_of_ble_eq_true rfl) ?_
    refine xe_aload_n dX10_did_0 rfl ?_
    refine xe_iload_n dX10_did_1 rfl ?_
    refine xe_callVI (d' := 1) (y' := mX10_isMan) dX10_did_2 mlX10_340 mvX10_isMan rfl (st124 hs) (by decide) rfl (by decide) (by decide) (Nat.le_of_ble_eq_true rfl) (c_X10_isManv l g _ (by exact hs) (by exact hp) _ (by assumption)) rfl ?_
    refine xn_if_eq (tgt := 19) dX10_did_5 rfl (by omega) (fun c1 => ?_) (fun c1 => ?_)
    · refine xe_iconst dX10_did_19 kc_m1 ?_
      refine xe_ireturn dX10_did_20 rfl (by first | rfl | decide +kernel) ?_
      exact ⟨rfl, rfl⟩
    · omega
theorem c_X10_surely_t (l : Launch) (g : q_GP) (h : q_H) (hs : q_Stat h) {lv nm nd nc mo : Nat} (hp : rm_P h lv nm nd nc mo) {LW : q_LW} (hL : rm_L h lv LW) {w : Nat} (hw : q_I h 154 200 = nI w) (hw2 : w < 2 ^ 20) {m n : Nat} (hm : m < nm) (hn : n ≤ 9999) : q_Ct l g 4 mX10_surely [.ref 124, .int (nI m), .int (nI n)] h (fun r h1 => r = some (.int (q_rws (fun d => q_fin (q_I h 154) (q_I h 140) LW lv nc w m d) nd (nI n) (2 ^ (2 * nd))).2) ∧ q_mag h h1) := by
  obtain ⟨p1, p2, p3, p4, p5, p6, p7, p8, p9, p10⟩ := id hp
  have h1 := q_ltn_t (by omega : nm < 2 ^ 31) hm
  refine q_CtV mvX10_surely (Nat.le_of_ble_eq_true rfl) ?_
  refine xe_aload_n dX10_surely_0 rfl ?_
  refine xe_iload_n dX10_surely_1 rfl ?_
  refine xe_callVI (d' := 1) (y' := mX10_isMan) dX10_surely_2 mlX10_340 mvX10_isMan rfl (st124 hs) (by decide) rfl (by decide) (by decide) (Nat.le_of_ble_eq_true rfl) (c_X10_isManv l g _ (by exact hs) (by exact hp) _ (by assumption)) rfl ?_
  refine xn_if_eq (tgt := 19) dX10_surely_5 rfl (by omega) (fun c1 => ?_) (fun c1 => ?_)
  · omega
  · refine xe_iload_n dX10_surely_8 rfl ?_
    refine xe_iconst dX10_surely_9 kc_0 ?_
    refine xe_sipush dX10_surely_10 ks_9999 ?_
    refine xe_callSI (d' := 0) (y' := mX10_in) dX10_surely_13 mlX10_312 msX10_in rfl (by decide) (by decide) (Nat.le_of_ble_eq_true rfl) (c_X10_inv l g _ _ _ _ (q_in_t (by omega) (by omega) (by decide))) rfl ?_
    refine xn_if_ne (tgt := 21) dX10_surely_16 rfl (by omega) (fun c2 => ?_) (fun c2 => ?_)
    · refine xe_aload_n dX10_surely_21 rfl ?_
      refine xe_iload_n dX10_surely_22 rfl ?_
      refine xe_iload_n dX10_surely_23 rfl ?_
      refine xe_callVVq (d' := 3) (y' := mX10_fillsRows) dX10_surely_24 mlX10_404 mvX10_fillsRows rfl (st124 hs) (by decide) rfl (by decide) (by decide) (Nat.le_of_ble_eq_true rfl) (c_X10_fillsRows l g _ (by exact hs) (by exact hp) hL hw hw2 hm _) rfl (fun h1 hq => ?_)
      obtain ⟨hX, r1, r2⟩ := hq
      have hs : q_Stat h1 := q_Stat_mag hX hs
      refine xe_aload_n dX10_surely_27 rfl ?_
      refine xe_getIv dX10_surely_28 flX10_401 (st124 hs) (by decide) rfl (v := (q_rws (fun d => q_fin (q_I h 154) (q_I h 140) LW lv nc w m d) nd (nI n) (2 ^ (2 * nd))).2) (r2) ?_
      refine xe_ireturn dX10_surely_31 rfl (by first | rfl | decide +kernel) ?_
      exact ⟨rfl, hX⟩
    · omega
theorem c_X10_surely_f (l : Launch) (g : q_GP) (h : q_H) (hs : q_Stat h) {lv nm nd nc mo : Nat} (hp : rm_P h lv nm nd nc mo) (x z : Int32) (hxz : ¬ (q_isN x nm ∧ ∃ k, 0 ≤ k ∧ k ≤ 9999 ∧ z = nI k)) : q_Cd l g 4 mX10_surely [.ref 124, .int x, .int z] h (some (.int (-1))) h := by
  obtain ⟨p1, p2, p3, p4, p5, p6, p7, p8, p9, p10⟩ := id hp
  by_cases h1 : q_isN x nm
  · have e1 : q_ltn x nm = nI 1 := by
      obtain ⟨k, hk, rfl⟩ := q_isN_of (by omega) h1
      exact q_ltn_t (by omega) hk
    have e2 := q_in_f (a := 0) (b := 9999) (by decide) (by decide) (fun q => hxz ⟨h1, q⟩)
    refine q_CdV mvX10_surely (Nat.le_of_ble_eq_true rfl) ?_
    refine xe_aload_n dX10_surely_0 rfl ?_
    refine xe_iload_n dX10_surely_1 rfl ?_
    refine xe_callVI (d' := 1) (y' := mX10_isMan) dX10_surely_2 mlX10_340 mvX10_isMan rfl (st124 hs) (by decide) rfl (by decide) (by decide) (Nat.le_of_ble_eq_true rfl) (c_X10_isManv l g _ (by exact hs) (by exact hp) _ (by assumption)) rfl ?_
    refine xn_if_eq (tgt := 19) dX10_surely_5 rfl (by omega) (fun c1 => ?_) (fun c1 => ?_)
    · omega
    · refine xe_iload_n dX10_surely_8 rfl ?_
      refine xe_iconst dX10_surely_9 kc_0 ?_
      refine xe_sipush dX10_surely_10 ks_9999 ?_
      refine xe_callSI (d' := 0) (y' := mX10_in) dX10_surely_13 mlX10_312 msX10_in rfl (by decide) (by decide) (Nat.le_of_ble_eq_true rfl) (c_X10_inv l g _ _ _ _ (e2)) rfl ?_
      refine xn_if_ne (tgt := 21) dX10_surely_16 rfl (by omega) (fun c2 => ?_) (fun c2 => ?_)
      · omega
      · refine xe_iconst dX10_surely_19 kc_m1 ?_
        refine xe_ireturn dX10_surely_20 rfl (by first | rfl | decide +kernel) ?_
        exact ⟨rfl, rfl⟩
  · have e1 := q_ltn_f (by omega : nm < 2 ^ 31) h1
    refine q_CdV mvX10_surely (Nat.le_of_ble_eq_true rfl) ?_
    refine xe_aload_n dX10_surely_0 rfl ?_
    refine xe_iload_n dX10_surely_1 rfl ?_
    refine xe_callVI (d' := 1) (y' := mX10_isMan) dX10_surely_2 mlX10_340 mvX10_isMan rfl (st124 hs) (by decide) rfl (by decide) (by decide) (Nat.le_of_ble_eq_true rfl) (c_X10_isManv l g _ (by exact hs) (by exact hp) _ (by assumption)) rfl ?_
    refine xn_if_eq (tgt := 19) dX10_surely_5 rfl (by omega) (fun c1 => ?_) (fun c1 => ?_)
    · refine xe_iconst dX10_surely_19 kc_m1 ?_
      refine xe_ireturn dX10_surely_20 rfl (by first | rfl | decide +kernel) ?_
      exact ⟨rfl, rfl⟩
    · omega
