/-! the reference: did, surely -/
theorem q_pow_k : ∀ k, k ≤ 16 → nI 1 <<< (nI k &&& 31) = nI (2 ^ k) := by
  intro k hk
  have key : ∀ k : Fin 17, nI 1 <<< (nI k.1 &&& 31) = nI (2 ^ k.1) := by decide +kernel
  exact key ⟨k, by omega⟩
/-- how often deed d is done in row k -/
def q_tms (k d : Nat) : Int32 := nI k >>> (nI (2 * d) &&& 31) &&& nI 3
def q_rsum (F : Nat → Int32) (k : Nat) : Nat → Int32
  | 0 => nI 0
  | d + 1 => q_rsum F k d + q_tms k d * F d
def q_rset (k : Nat) : Nat → Int32
  | 0 => nI 0
  | d + 1 => if 0 < q_tms k d then q_rset k d ||| nI 1 <<< (nI d &&& 31) else q_rset k d
/-- rows among the first k, and what is done in all of them -/
def q_rws (F : Nat → Int32) (nd : Nat) (n : Int32) : Nat → Int32 × Int32
  | 0 => (nI 0, nI 0)
  | k + 1 => if q_rsum F k nd = n then ((q_rws F nd n k).1 + nI 1, if (q_rws F nd n k).1 = 0 then q_rset k nd else (q_rws F nd n k).2 &&& q_rset k nd) else q_rws F nd n k
def q_rw (X : q_H) (a b : Int32) : q_H := q_wI X 124 (upd (upd (q_I X 124) 60 a) 61 b)
theorem q_upd_comm (f : Nat → Int32) {j k : Nat} (h : j ≠ k) (x y : Int32) : upd (upd f j x) k y = upd (upd f k y) j x := by
  funext i
  unfold upd
  by_cases h1 : i = k
  · by_cases h2 : i = j
    · exact absurd (h2.symm.trans h1) h
    · rw [if_pos h1, if_neg h2, if_pos h1]
  · by_cases h2 : i = j
    · rw [if_neg h1, if_pos h2, if_pos h2]
    · rw [if_neg h1, if_neg h2, if_neg h2, if_neg h1]
theorem q_rw_a (X : q_H) (a b a' : Int32) : q_wI (q_rw X a b) 124 (upd (q_I (q_rw X a b) 124) 60 a') = q_rw X a' b := by
  unfold q_rw
  rw [q_Iw, q_wwI, q_upd_comm _ (by decide : (61 : Nat) ≠ 60), q_upd_upd]
theorem q_rw_b (X : q_H) (a b b' : Int32) : q_wI (q_rw X a b) 124 (upd (q_I (q_rw X a b) 124) 61 b') = q_rw X a b' := by
  unfold q_rw
  rw [q_Iw, q_wwI, q_upd_upd]
theorem q_rw_0 (X : q_H) : q_wI (q_wI X 124 (upd (q_I X 124) 60 (nI 0))) 124 (upd (q_I (q_wI X 124 (upd (q_I X 124) 60 (nI 0))) 124) 61 (nI 0)) = q_rw X (nI 0) (nI 0) := by
  unfold q_rw
  rw [q_Iw, q_wwI]
theorem q_mag_rw {h X : q_H} (a : q_mag h X) (x y : Int32) : q_mag h (q_rw X x y) := by
  have h1 := q_mag_f (q_mag_f a 60 x rfl) 61 y rfl
  have e : q_wI (q_wI X 124 (upd (q_I X 124) 60 x)) 124 (upd (q_I (q_wI X 124 (upd (q_I X 124) 60 x)) 124) 61 y) = q_rw X x y := by
    unfold q_rw
    rw [q_Iw, q_wwI]
  rw [e] at h1
  exact h1
set_option maxHeartbeats 4000000 in
theorem c_X10_fillsRows (l : Launch) (g : q_GP) (h : q_H) (hs : q_Stat h) {lv nm nd nc mo : Nat} (hp : rm_P h lv nm nd nc mo) {LW : q_LW} (hL : rm_L h lv LW) {w : Nat} (hw : q_I h 154 200 = nI w) (hw2 : w < 2 ^ 20) {m : Nat} (hm : m < nm) (n : Int32) : q_Ct l g 3 mX10_fillsRows [.ref 124, .int (nI m), .int n] h (fun r h1 => r = none ∧ ∃ X, q_mag h X ∧ h1 = q_rw X (q_rws (fun d => q_fin (q_I h 154) (q_I h 140) LW lv nc w m d) nd n (2 ^ (2 * nd))).1 (q_rws (fun d => q_fin (q_I h 154) (q_I h 140) LW lv nc w m d) nd n (2 ^ (2 * nd))).2) := by
  obtain ⟨p1, p2, p3, p4, p5, p6, p7, p8, p9, p10⟩ := id hp
  have hpw : 2 ^ (2 * nd) ≤ 65536 := Nat.pow_le_pow_right (by decide) (show 2 * nd ≤ 16 by omega)
  have eF : ∀ d, d < nd → (fun d => q_fin (q_cpy (q_I h 154) (q_I h 155) 210) (q_I h 140) LW lv nc w m d) d = (fun d => q_fin (q_I h 154) (q_I h 140) LW lv nc w m d) d := fun d hd => q_fin_rq (q_req_cpy (q_I h 154) (q_I h 155) (n := 210) (by decide)) _ _ _ _ _ (by omega) (by omega)
  have eS : ∀ j, j ≤ nd → ∀ k, q_rsum (fun d => q_fin (q_cpy (q_I h 154) (q_I h 155) 210) (q_I h 140) LW lv nc w m d) k j = q_rsum (fun d => q_fin (q_I h 154) (q_I h 140) LW lv nc w m d) k j := by
    intro j
    induction j with
    | zero => intro _ _; rfl
    | succ j ih =>
      intro hj k
      unfold q_rsum
      rw [ih (by omega) k, eF j (by omega)]
  have eR : ∀ k, q_rws (fun d => q_fin (q_cpy (q_I h 154) (q_I h 155) 210) (q_I h 140) LW lv nc w m d) nd n k = q_rws (fun d => q_fin (q_I h 154) (q_I h 140) LW lv nc w m d) nd n k := by
    intro k
    induction k with
    | zero => rfl
    | succ k ih =>
      unfold q_rws
      rw [ih, eS nd (Nat.le_refl _) k]
  refine q_CtV mvX10_fillsRows (Nat.le_of_ble_eq_true rfl) ?_
  refine xe_aload_n dX10_fillsRows_0 rfl ?_
  refine xe_callVV (d' := 0) (y' := mX10_copies) dX10_fillsRows_1 mlX10_343 mvX10_copies rfl (st124 hs) (by decide) rfl (by decide) (by decide) (Nat.le_of_ble_eq_true rfl) (c_X10_copies l g _ (by exact hs)) rfl ?_
  refine xe_iconst dX10_fillsRows_4 kc_0 ?_
  refine xe_istore_n (i := 3) dX10_fillsRows_5 rfl (by decide) rfl ?_
  refine xe_locals (L' := (fun i => [(0, .ref 124), (1, .int (nI m)), (2, .int n), (3, .int (nI i))]) 0) (And.intro rfl (And.intro rfl (And.intro rfl (And.intro rfl trivial)))) ?_
  refine xe_heap (h2 := q_h3 (q_wI (q_wI h 155 (q_cpy (q_I h 154) (q_I h 155) 210)) 164 (q_fil (fun d => q_fin (q_cpy (q_I h 154) (q_I h 155) 210) (q_I h 140) LW lv nc w m d) (q_I h 164) 0)) (q_I h 152, q_I h 153, q_I h 124 46)) (by rw [q_fil0]; exact ((q_h3_0 (q_wI (q_wI h 155 (q_cpy (q_I h 154) (q_I h 155) 210)) 164 (q_I h 164))).trans (q_wsI (q_wI h 155 (q_cpy (q_I h 154) (q_I h 155) 210)) 164)).symm) ?_
  refine xe_forE nd (fun i => [(0, .ref 124), (1, .int (nI m)), (2, .int n), (3, .int (nI i))]) (fun i s => q_h3 (q_wI (q_wI h 155 (q_cpy (q_I h 154) (q_I h 155) 210)) 164 (q_fil (fun d => q_fin (q_cpy (q_I h 154) (q_I h 155) 210) (q_I h 140) LW lv nc w m d) (q_I h 164) i)) s) (fun i s hi K => ?_) (fun s => ?_) _
  · refine xe_iload_n dX10_fillsRows_6 rfl ?_
    refine xe_aload_n dX10_fillsRows_7 rfl ?_
    refine xe_getP dX10_fillsRows_8 flX10_55 (st124 hs) (by decide) rfl (sp124_26 hs) ?_
    refine xe_aload_n dX10_fillsRows_11 rfl ?_
    refine xe_getIv dX10_fillsRows_12 flX10_228 (st124 hs) (by decide) rfl (v := nI lv) (p1) ?_
    refine xn_ialdv dX10_fillsRows_15 (st137 hs) (by omega) (by decide) (v := nI nd) (p5) ?_
    refine xn_icmp_ge (tgt := 37) dX10_fillsRows_16 rfl (by omega) (by omega) (fun c1 => ?_) (fun c1 => ?_)
    · omega
    · refine xe_aload_n dX10_fillsRows_19 rfl ?_
      refine xe_getP dX10_fillsRows_20 flX10_138 (st124 hs) (by decide) rfl (sp124_58 hs) ?_
      refine xe_iload_n dX10_fillsRows_23 rfl ?_
      refine xe_aload_n dX10_fillsRows_24 rfl ?_
      refine xe_iload_n dX10_fillsRows_25 rfl ?_
      refine xe_iload_n dX10_fillsRows_26 rfl ?_
      refine xe_callVIq (d' := 2) (y' := mX10_fineOf) dX10_fillsRows_27 mlX10_362 mvX10_fineOf rfl (st124 hs) (by decide) rfl (by decide) (by decide) (Nat.le_of_ble_eq_true rfl) (c_X10_fineOf l g _ (by exact hs) (by exact hp) (by exact rm_L_of (h := h) ⟨rfl, rfl, rfl, rfl, rfl, rfl, rfl, rfl, rfl⟩ hL) (by exact hw) (by omega) _ _ (by omega) (by omega)) rfl (fun h1 hq => ?_)
      obtain ⟨V1, p1, b1, rfl⟩ := hq
      refine xe_top (v' := (fun d => q_fin (q_cpy (q_I h 154) (q_I h 155) 210) (q_I h 140) LW lv nc w m d) i) rfl ?_
      refine xn_iast dX10_fillsRows_30 (st164 hs) (by omega) (by decide) ?_
      refine xn_iinc dX10_fillsRows_31 rfl kc_1 ?_
      refine xe_goto (tgt := 6) dX10_fillsRows_34 rfl ?_
      refine xe_locals (L' := (fun i => [(0, .ref 124), (1, .int (nI m)), (2, .int n), (3, .int (nI i))]) (i + 1)) (And.intro rfl (And.intro rfl (And.intro rfl (And.intro rfl trivial)))) ?_
      refine xe_heap (h2 := q_h3 (q_wI (q_wI h 155 (q_cpy (q_I h 154) (q_I h 155) 210)) 164 (q_fil (fun d => q_fin (q_cpy (q_I h 154) (q_I h 155) 210) (q_I h 140) LW lv nc w m d) (q_I h 164) (i + 1))) (V1, p1, b1)) ((q_s3_R _ _ _ _ _ (by decide) (by decide) (by decide)).trans ?_) ?_
      · show q_s3 (q_wI (q_s3 (q_wI (q_wI h 155 (q_cpy (q_I h 154) (q_I h 155) 210)) 164 (q_fil (fun d => q_fin (q_cpy (q_I h 154) (q_I h 155) 210) (q_I h 140) LW lv nc w m d) (q_I h 164) i)) s.1 s.2.1 s.2.2) 164 (upd (q_fil (fun d => q_fin (q_cpy (q_I h 154) (q_I h 155) 210) (q_I h 140) LW lv nc w m d) (q_I h 164) i) i ((fun d => q_fin (q_cpy (q_I h 154) (q_I h 155) 210) (q_I h 140) LW lv nc w m d) i))) V1 p1 b1 = _
        rw [q_filS (fun d => q_fin (q_cpy (q_I h 154) (q_I h 155) 210) (q_I h 140) LW lv nc w m d), q_s3_R _ _ _ _ _ (by decide) (by decide) (by decide), q_wwI]
        exact q_s3_s3 _ _ _ _ _ _ _
      · exact K (V1, p1, b1)
  · refine xe_iload_n dX10_fillsRows_6 rfl ?_
    refine xe_aload_n dX10_fillsRows_7 rfl ?_
    refine xe_getP dX10_fillsRows_8 flX10_55 (st124 hs) (by decide) rfl (sp124_26 hs) ?_
    refine xe_aload_n dX10_fillsRows_11 rfl ?_
    refine xe_getIv dX10_fillsRows_12 flX10_228 (st124 hs) (by decide) rfl (v := nI lv) (p1) ?_
    refine xn_ialdv dX10_fillsRows_15 (st137 hs) (by omega) (by decide) (v := nI nd) (p5) ?_
    refine xn_icmp_ge (tgt := 37) dX10_fillsRows_16 rfl (by omega) (by omega) (fun c1 => ?_) (fun c1 => ?_)
    · refine xe_aload_n dX10_fillsRows_37 rfl ?_
      refine xe_iconst dX10_fillsRows_38 kc_0 ?_
      refine xe_putI dX10_fillsRows_39 flX10_398 (st124 hs) (by decide) rfl (Or.inl rfl) rfl rfl ?_
      refine xe_aload_n dX10_fillsRows_42 rfl ?_
      refine xe_iconst dX10_fillsRows_43 kc_0 ?_
      refine xe_putI dX10_fillsRows_44 flX10_401 (st124 hs) (by decide) rfl (Or.inl rfl) rfl rfl ?_
      refine xe_iconst dX10_fillsRows_47 kc_0 ?_
      refine xe_istore_n (i := 3) dX10_fillsRows_48 rfl (by decide) rfl ?_
      refine xe_locals (L' := (fun i => [(0, .ref 124), (1, .int (nI m)), (2, .int n), (3, .int (nI i))]) 0) (And.intro rfl (And.intro rfl (And.intro rfl (And.intro rfl trivial)))) ?_
      refine xe_heap (h2 := q_rw (q_h3 (q_wI (q_wI h 155 (q_cpy (q_I h 154) (q_I h 155) 210)) 164 (q_fil (fun d => q_fin (q_cpy (q_I h 154) (q_I h 155) 210) (q_I h 140) LW lv nc w m d) (q_I h 164) nd)) s) (q_rws (fun d => q_fin (q_cpy (q_I h 154) (q_I h 155) 210) (q_I h 140) LW lv nc w m d) nd n 0).1 (q_rws (fun d => q_fin (q_cpy (q_I h 154) (q_I h 155) 210) (q_I h 140) LW lv nc w m d) nd n 0).2) (q_rw_0 _) ?_
      refine xe_for (2 ^ (2 * nd)) (fun i => [(0, .ref 124), (1, .int (nI m)), (2, .int n), (3, .int (nI i))]) (fun i => q_rw (q_h3 (q_wI (q_wI h 155 (q_cpy (q_I h 154) (q_I h 155) 210)) 164 (q_fil (fun d => q_fin (q_cpy (q_I h 154) (q_I h 155) 210) (q_I h 140) LW lv nc w m d) (q_I h 164) nd)) s) (q_rws (fun d => q_fin (q_cpy (q_I h 154) (q_I h 155) 210) (q_I h 140) LW lv nc w m d) nd n i).1 (q_rws (fun d => q_fin (q_cpy (q_I h 154) (q_I h 155) 210) (q_I h 140) LW lv nc w m d) nd n i).2) (fun i hi K => ?_) ?_
      · refine xe_iload_n dX10_fillsRows_49 rfl ?_
        refine xe_iconst dX10_fillsRows_50 kc_1 ?_
        refine xe_iconst dX10_fillsRows_51 kc_2 ?_
        refine xe_aload_n dX10_fillsRows_52 rfl ?_
        refine xe_getP dX10_fillsRows_53 flX10_55 (st124 hs) (by decide) rfl (sp124_26 hs) ?_
        refine xe_aload_n dX10_fillsRows_56 rfl ?_
        refine xe_getIv dX10_fillsRows_57 flX10_228 (st124 hs) (by decide) rfl (v := nI lv) (p1) ?_
        refine xn_ialdv dX10_fillsRows_60 (st137 hs) (by omega) (by decide) (v := nI nd) (p5) ?_
        refine xn_imul dX10_fillsRows_61 ?_
        refine xe_ishl dX10_fillsRows_62 ?_
        refine xe_top (v' := nI (2 ^ (2 * nd))) (q_pow_k (2 * nd) (by omega)) ?_
        refine xn_icmp_ge (tgt := 182) dX10_fillsRows_63 rfl (by omega) (by omega) (fun c1 => ?_) (fun c1 => ?_)
        · omega
        · refine xe_iconst dX10_fillsRows_66 kc_0 ?_
          refine xe_istore dX10_fillsRows_67 (by decide) rfl ?_
          refine xe_iconst dX10_fillsRows_69 kc_0 ?_
          refine xe_istore dX10_fillsRows_70 (by decide) rfl ?_
          refine xe_iconst dX10_fillsRows_72 kc_0 ?_
          refine xe_istore dX10_fillsRows_73 (by decide) rfl ?_
          refine xe_locals (L' := (fun j => [(0, .ref 124), (1, .int (nI m)), (2, .int n), (3, .int (nI i)), (4, .int (q_rsum (fun d => q_fin (q_cpy (q_I h 154) (q_I h 155) 210) (q_I h 140) LW lv nc w m d) i j)), (5, .int (q_rset i j)), (6, .int (nI j))]) 0) (And.intro rfl (And.intro rfl (And.intro rfl (And.intro rfl (And.intro rfl (And.intro rfl (And.intro rfl trivial))))))) ?_
          refine xe_for nd (fun j => [(0, .ref 124), (1, .int (nI m)), (2, .int n), (3, .int (nI i)), (4, .int (q_rsum (fun d => q_fin (q_cpy (q_I h 154) (q_I h 155) 210) (q_I h 140) LW lv nc w m d) i j)), (5, .int (q_rset i j)), (6, .int (nI j))]) (fun _ => q_rw (q_h3 (q_wI (q_wI h 155 (q_cpy (q_I h 154) (q_I h 155) 210)) 164 (q_fil (fun d => q_fin (q_cpy (q_I h 154) (q_I h 155) 210) (q_I h 140) LW lv nc w m d) (q_I h 164) nd)) s) (q_rws (fun d => q_fin (q_cpy (q_I h 154) (q_I h 155) 210) (q_I h 140) LW lv nc w m d) nd n i).1 (q_rws (fun d => q_fin (q_cpy (q_I h 154) (q_I h 155) 210) (q_I h 140) LW lv nc w m d) nd n i).2) (fun j hj K2 => ?_) ?_
          · refine xe_iload dX10_fillsRows_75 rfl ?_
            refine xe_aload_n dX10_fillsRows_77 rfl ?_
            refine xe_getP dX10_fillsRows_78 flX10_55 (st124 hs) (by decide) rfl (sp124_26 hs) ?_
            refine xe_aload_n dX10_fillsRows_81 rfl ?_
            refine xe_getIv dX10_fillsRows_82 flX10_228 (st124 hs) (by decide) rfl (v := nI lv) (p1) ?_
            refine xn_ialdv dX10_fillsRows_85 (st137 hs) (by omega) (by decide) (v := nI nd) (p5) ?_
            refine xn_icmp_ge (tgt := 134) dX10_fillsRows_86 rfl (by omega) (by omega) (fun c1 => ?_) (fun c1 => ?_)
            · omega
            · refine xe_iload_n dX10_fillsRows_89 rfl ?_
              refine xe_iconst dX10_fillsRows_90 kc_2 ?_
              refine xe_iload dX10_fillsRows_91 rfl ?_
              refine xn_imul dX10_fillsRows_93 ?_
              refine xe_ishr dX10_fillsRows_94 ?_
              refine xe_iconst dX10_fillsRows_95 kc_3 ?_
              refine xe_iand dX10_fillsRows_96 ?_
              refine xe_istore dX10_fillsRows_97 (by decide) rfl ?_
              refine xe_iload dX10_fillsRows_99 rfl ?_
              refine xe_iload dX10_fillsRows_101 rfl ?_
              refine xe_aload_n dX10_fillsRows_103 rfl ?_
              refine xe_getP dX10_fillsRows_104 flX10_138 (st124 hs) (by decide) rfl (sp124_58 hs) ?_
              refine xe_iload dX10_fillsRows_107 rfl ?_
              refine xn_ialdv dX10_fillsRows_109 (st164 hs) (by omega) (by decide) (v := (fun d => q_fin (q_cpy (q_I h 154) (q_I h 155) 210) (q_I h 140) LW lv nc w m d) j) ((if_pos hj)) ?_
              refine xe_imul dX10_fillsRows_110 ?_
              refine xe_iadd dX10_fillsRows_111 ?_
              refine xe_istore dX10_fillsRows_112 (by decide) rfl ?_
              refine xe_iload dX10_fillsRows_114 rfl ?_
              refine xe_if_le (tgt := 128) dX10_fillsRows_116 rfl (fun c2 => ?_) (fun c2 => ?_)
              · have c_t := c2
                refine xn_iinc dX10_fillsRows_128 rfl kc_1 ?_
                refine xe_goto (tgt := 75) dX10_fillsRows_131 rfl ?_
                have c_e : q_rset i (j + 1) = q_rset i j := if_neg (Int32.not_lt.mpr c_t)
                refine xe_locals (L' := (fun j => [(0, .ref 124), (1, .int (nI m)), (2, .int n), (3, .int (nI i)), (4, .int (q_rsum (fun d => q_fin (q_cpy (q_I h 154) (q_I h 155) 210) (q_I h 140) LW lv nc w m d) i j)), (5, .int (q_rset i j)), (6, .int (nI j))]) (j + 1)) (And.intro rfl (And.intro rfl (And.intro rfl (And.intro rfl (And.intro rfl (And.intro (by exact congrArg (fun v => some (Value.int v)) c_e.symm) (And.intro rfl trivial))))))) ?_
                exact K2
              · have c_t := c2
                refine xe_iload dX10_fillsRows_119 rfl ?_
                refine xe_iconst dX10_fillsRows_121 kc_1 ?_
                refine xe_iload dX10_fillsRows_122 rfl ?_
                refine xe_ishl dX10_fillsRows_124 ?_
                refine xe_ior dX10_fillsRows_125 ?_
                refine xe_istore dX10_fillsRows_126 (by decide) rfl ?_
                refine xn_iinc dX10_fillsRows_128 rfl kc_1 ?_
                refine xe_goto (tgt := 75) dX10_fillsRows_131 rfl ?_
                have c_e : q_rset i (j + 1) = q_rset i j ||| nI 1 <<< (nI j &&& 31) := if_pos (Int32.not_le.mp c_t)
                refine xe_locals (L' := (fun j => [(0, .ref 124), (1, .int (nI m)), (2, .int n), (3, .int (nI i)), (4, .int (q_rsum (fun d => q_fin (q_cpy (q_I h 154) (q_I h 155) 210) (q_I h 140) LW lv nc w m d) i j)), (5, .int (q_rset i j)), (6, .int (nI j))]) (j + 1)) (And.intro rfl (And.intro rfl (And.intro rfl (And.intro rfl (And.intro rfl (And.intro (by exact congrArg (fun v => some (Value.int v)) c_e.symm) (And.intro rfl trivial))))))) ?_
                exact K2
          · refine xe_iload dX10_fillsRows_75 rfl ?_
            refine xe_aload_n dX10_fillsRows_77 rfl ?_
            refine xe_getP dX10_fillsRows_78 flX10_55 (st124 hs) (by decide) rfl (sp124_26 hs) ?_
            refine xe_aload_n dX10_fillsRows_81 rfl ?_
            refine xe_getIv dX10_fillsRows_82 flX10_228 (st124 hs) (by decide) rfl (v := nI lv) (p1) ?_
            refine xn_ialdv dX10_fillsRows_85 (st137 hs) (by omega) (by decide) (v := nI nd) (p5) ?_
            refine xn_icmp_ge (tgt := 134) dX10_fillsRows_86 rfl (by omega) (by omega) (fun c1 => ?_) (fun c1 => ?_)
            · refine xe_iload dX10_fillsRows_134 rfl ?_
              refine xe_iload_n dX10_fillsRows_136 rfl ?_
              refine xe_icmp_eq (tgt := 143) dX10_fillsRows_137 rfl (fun c2 => ?_) (fun c2 => ?_)
              · have c_s : q_rsum (fun d => q_fin (q_cpy (q_I h 154) (q_I h 155) 210) (q_I h 140) LW lv nc w m d) i nd = n := c2
                refine xe_aload_n dX10_fillsRows_143 rfl ?_
                refine xe_aload_n dX10_fillsRows_144 rfl ?_
                refine xe_getIv dX10_fillsRows_145 flX10_398 (st124 hs) (by decide) rfl (v := (q_rws (fun d => q_fin (q_cpy (q_I h 154) (q_I h 155) 210) (q_I h 140) LW lv nc w m d) nd n i).1) (rfl) ?_
                refine xe_if_ne (tgt := 156) dX10_fillsRows_148 rfl (fun c3 => ?_) (fun c3 => ?_)
                · have c_r : ¬ (q_rws (fun d => q_fin (q_cpy (q_I h 154) (q_I h 155) 210) (q_I h 140) LW lv nc w m d) nd n i).1 = 0 := c3
                  refine xe_aload_n dX10_fillsRows_156 rfl ?_
                  refine xe_getIv dX10_fillsRows_157 flX10_401 (st124 hs) (by decide) rfl (v := (q_rws (fun d => q_fin (q_cpy (q_I h 154) (q_I h 155) 210) (q_I h 140) LW lv nc w m d) nd n i).2) (rfl) ?_
                  refine xe_iload dX10_fillsRows_160 rfl ?_
                  refine xe_iand dX10_fillsRows_162 ?_
                  refine xe_putI dX10_fillsRows_163 flX10_401 (st124 hs) (by decide) rfl (Or.inl rfl) rfl rfl ?_
                  refine xe_aload_n dX10_fillsRows_166 rfl ?_
                  refine xe_dup dX10_fillsRows_167 rfl ?_
                  refine xe_getIv dX10_fillsRows_168 flX10_398 (st124 hs) (by decide) rfl (v := (q_rws (fun d => q_fin (q_cpy (q_I h 154) (q_I h 155) 210) (q_I h 140) LW lv nc w m d) nd n i).1) (rfl) ?_
                  refine xe_iconst dX10_fillsRows_171 kc_1 ?_
                  refine xe_iadd dX10_fillsRows_172 ?_
                  refine xe_putI dX10_fillsRows_173 flX10_398 (st124 hs) (by decide) rfl (Or.inl rfl) rfl rfl ?_
                  refine xn_iinc dX10_fillsRows_176 rfl kc_1 ?_
                  refine xe_goto (tgt := 49) dX10_fillsRows_179 rfl ?_
                  have c_e : q_rws (fun d => q_fin (q_cpy (q_I h 154) (q_I h 155) 210) (q_I h 140) LW lv nc w m d) nd n (i + 1) = ((q_rws (fun d => q_fin (q_cpy (q_I h 154) (q_I h 155) 210) (q_I h 140) LW lv nc w m d) nd n i).1 + nI 1, (q_rws (fun d => q_fin (q_cpy (q_I h 154) (q_I h 155) 210) (q_I h 140) LW lv nc w m d) nd n i).2 &&& q_rset i nd) := (if_pos c_s).trans (congrArg (Prod.mk _) (if_neg c_r))
                  refine xe_locals (L' := (fun i => [(0, .ref 124), (1, .int (nI m)), (2, .int n), (3, .int (nI i))]) (i + 1)) (And.intro rfl (And.intro rfl (And.intro rfl (And.intro rfl trivial)))) ?_
                  refine xe_heap (h2 := q_rw (q_h3 (q_wI (q_wI h 155 (q_cpy (q_I h 154) (q_I h 155) 210)) 164 (q_fil (fun d => q_fin (q_cpy (q_I h 154) (q_I h 155) 210) (q_I h 140) LW lv nc w m d) (q_I h 164) nd)) s) ((q_rws (fun d => q_fin (q_cpy (q_I h 154) (q_I h 155) 210) (q_I h 140) LW lv nc w m d) nd n i).1 + nI 1) ((q_rws (fun d => q_fin (q_cpy (q_I h 154) (q_I h 155) 210) (q_I h 140) LW lv nc w m d) nd n i).2 &&& q_rset i nd)) ((congrArg (fun H => q_wI H 124 (upd (q_I H 124) 60 ((q_rws (fun d => q_fin (q_cpy (q_I h 154) (q_I h 155) 210) (q_I h 140) LW lv nc w m d) nd n i).1 + nI 1))) (q_rw_b _ _ _ _)).trans (q_rw_a _ _ _ _)) ?_
                  rw [c_e] at K
                  exact K
                · have c_r : (q_rws (fun d => q_fin (q_cpy (q_I h 154) (q_I h 155) 210) (q_I h 140) LW lv nc w m d) nd n i).1 = 0 := c3
                  refine xe_iload dX10_fillsRows_151 rfl ?_
                  refine xe_goto (tgt := 163) dX10_fillsRows_153 rfl ?_
                  refine xe_putI dX10_fillsRows_163 flX10_401 (st124 hs) (by decide) rfl (Or.inl rfl) rfl rfl ?_
                  refine xe_aload_n dX10_fillsRows_166 rfl ?_
                  refine xe_dup dX10_fillsRows_167 rfl ?_
                  refine xe_getIv dX10_fillsRows_168 flX10_398 (st124 hs) (by decide) rfl (v := (q_rws (fun d => q_fin (q_cpy (q_I h 154) (q_I h 155) 210) (q_I h 140) LW lv nc w m d) nd n i).1) (rfl) ?_
                  refine xe_iconst dX10_fillsRows_171 kc_1 ?_
                  refine xe_iadd dX10_fillsRows_172 ?_
                  refine xe_putI dX10_fillsRows_173 flX10_398 (st124 hs) (by decide) rfl (Or.inl rfl) rfl rfl ?_
                  refine xn_iinc dX10_fillsRows_176 rfl kc_1 ?_
                  refine xe_goto (tgt := 49) dX10_fillsRows_179 rfl ?_
                  have c_e : q_rws (fun d => q_fin (q_cpy (q_I h 154) (q_I h 155) 210) (q_I h 140) LW lv nc w m d) nd n (i + 1) = ((q_rws (fun d => q_fin (q_cpy (q_I h 154) (q_I h 155) 210) (q_I h 140) LW lv nc w m d) nd n i).1 + nI 1, q_rset i nd) := (if_pos c_s).trans (congrArg (Prod.mk _) (if_pos c_r))
                  refine xe_locals (L' := (fun i => [(0, .ref 124), (1, .int (nI m)), (2, .int n), (3, .int (nI i))]) (i + 1)) (And.intro rfl (And.intro rfl (And.intro rfl (And.intro rfl trivial)))) ?_
                  refine xe_heap (h2 := q_rw (q_h3 (q_wI (q_wI h 155 (q_cpy (q_I h 154) (q_I h 155) 210)) 164 (q_fil (fun d => q_fin (q_cpy (q_I h 154) (q_I h 155) 210) (q_I h 140) LW lv nc w m d) (q_I h 164) nd)) s) ((q_rws (fun d => q_fin (q_cpy (q_I h 154) (q_I h 155) 210) (q_I h 140) LW lv nc w m d) nd n i).1 + nI 1) (q_rset i nd)) ((congrArg (fun H => q_wI H 124 (upd (q_I H 124) 60 ((q_rws (fun d => q_fin (q_cpy (q_I h 154) (q_I h 155) 210) (q_I h 140) LW lv nc w m d) nd n i).1 + nI 1))) (q_rw_b _ _ _ _)).trans (q_rw_a _ _ _ _)) ?_
                  rw [c_e] at K
                  exact K
              · have c_s : ¬ q_rsum (fun d => q_fin (q_cpy (q_I h 154) (q_I h 155) 210) (q_I h 140) LW lv nc w m d) i nd = n := c2
                refine xe_goto (tgt := 176) dX10_fillsRows_140 rfl ?_
                refine xn_iinc dX10_fillsRows_176 rfl kc_1 ?_
                refine xe_goto (tgt := 49) dX10_fillsRows_179 rfl ?_
                have c_e : q_rws (fun d => q_fin (q_cpy (q_I h 154) (q_I h 155) 210) (q_I h 140) LW lv nc w m d) nd n (i + 1) = q_rws (fun d => q_fin (q_cpy (q_I h 154) (q_I h 155) 210) (q_I h 140) LW lv nc w m d) nd n i := if_neg c_s
                refine xe_locals (L' := (fun i => [(0, .ref 124), (1, .int (nI m)), (2, .int n), (3, .int (nI i))]) (i + 1)) (And.intro rfl (And.intro rfl (And.intro rfl (And.intro rfl trivial)))) ?_
                rw [c_e] at K
                exact K
            · omega
      · refine xe_iload_n dX10_fillsRows_49 rfl ?_
        refine xe_iconst dX10_fillsRows_50 kc_1 ?_
        refine xe_iconst dX10_fillsRows_51 kc_2 ?_
        refine xe_aload_n dX10_fillsRows_52 rfl ?_
        refine xe_getP dX10_fillsRows_53 flX10_55 (st124 hs) (by decide) rfl (sp124_26 hs) ?_
        refine xe_aload_n dX10_fillsRows_56 rfl ?_
        refine xe_getIv dX10_fillsRows_57 flX10_228 (st124 hs) (by decide) rfl (v := nI lv) (p1) ?_
        refine xn_ialdv dX10_fillsRows_60 (st137 hs) (by omega) (by decide) (v := nI nd) (p5) ?_
        refine xn_imul dX10_fillsRows_61 ?_
        refine xe_ishl dX10_fillsRows_62 ?_
        refine xe_top (v' := nI (2 ^ (2 * nd))) (q_pow_k (2 * nd) (by omega)) ?_
        refine xn_icmp_ge (tgt := 182) dX10_fillsRows_63 rfl (by omega) (by omega) (fun c1 => ?_) (fun c1 => ?_)
        · refine xe_return dX10_fillsRows_182 rfl ?_
          exact ⟨rfl, _, q_mag_s3 (q_mag_w (q_mag_w (q_mag_r h) _ rfl (by decide)) _ rfl (by decide)) s.1 s.2.1 s.2.2, by rw [← eR]; rfl⟩
        · omega
    · omega
theorem q_Stat_mag {h X : q_H} (hX : q_mag h X) (hs : q_Stat h) : q_Stat X := by
  have e := hX.2.2.2
  have eT : q_T X = q_T h := congrArg (fun z => z.2.1) e
  have eL : q_L X = q_L h := congrArg (fun z => z.2.2.1) e
  have eN : q_N X = q_N h := congrArg (fun z => z.2.2.2.1) e
  have eP : q_P X = q_P h := congrArg (fun z => z.1) e
  refine ⟨fun r t n h1 => ?_, fun r k a h1 => ?_⟩
  · have := hs.1 r t n h1
    unfold q_Sh at this ⊢
    rw [eN, eT, eL]
    exact this
  · rw [eP]
    exact hs.2 r k a h1
theorem c_X10_did_t (l : Launch) (g : q_GP) (h : q_H) (hs : q_Stat h) {lv nm nd nc mo : Nat} (hp : rm_P h lv nm nd nc mo) {LW : q_LW} (hL : rm_L h lv LW) {w : Nat} (hw : q_I h 154 200 = nI w) (hw2 : w < 2 ^ 20) {m n : Nat} (hm : m < nm) (hn : n ≤ 9999) : q_Ct l g 4 mX10_did [.ref 124, .int (nI m), .int (nI n)] h (fun r h1 => r = some (.int (q_rws (fun d => q_fin (q_I h 154) (q_I h 140) LW lv nc w m d) nd (nI n) (2 ^ (2 * nd))).1) ∧ q_mag h h1) := by
  obtain ⟨p1, p2, p3, p4, p5, p6, p7, p8, p9, p10⟩ := id hp
  have h1 := q_ltn_t (by omega : nm < 2 ^ 31) hm
  refine q_CtV mvX10_did (Nat.le_of_ble_eq_true rfl) ?_
  refine xe_aload_n dX10_did_0 rfl ?_
  refine xe_iload_n dX10_did_1 rfl ?_
  refine xe_callVI (d' := 1) (y' := mX10_isMan) dX10_did_2 mlX10_340 mvX10_isMan rfl (st124 hs) (by decide) rfl (by decide) (by decide) (Nat.le_of_ble_eq_true rfl) (c_X10_isManv l g _ (by exact hs) (by exact hp) _ (by assumption)) rfl ?_
  refine xn_if_eq (tgt := 19) dX10_did_5 rfl (by omega) (fun c1 => ?_) (fun c1 => ?_)
  · omega
  · refine xe_iload_n dX10_did_8 rfl ?_
    refine xe_iconst dX10_did_9 kc_0 ?_
    refine xe_sipush dX10_did_10 ks_9999 ?_
    refine xe_callSI (d' := 0) (y' := mX10_in) dX10_did_13 mlX10_312 msX10_in rfl (by decide) (by decide) (Nat.le_of_ble_eq_true rfl) (c_X10_inv l g _ _ _ _ (q_in_t (by omega) (by omega) (by decide))) rfl ?_
    refine xn_if_ne (tgt := 21) dX10_did_16 rfl (by omega) (fun c2 => ?_) (fun c2 => ?_)
    · refine xe_aload_n dX10_did_21 rfl ?_
      refine xe_iload_n dX10_did_22 rfl ?_
      refine xe_iload_n dX10_did_23 rfl ?_
      refine xe_callVVq (d' := 3) (y' := mX10_fillsRows) dX10_did_24 mlX10_404 mvX10_fillsRows rfl (st124 hs) (by decide) rfl (by decide) (by decide) (Nat.le_of_ble_eq_true rfl) (c_X10_fillsRows l g _ (by exact hs) (by exact hp) (by exact rm_L_of (h := h) ⟨rfl, rfl, rfl, rfl, rfl, rfl, rfl, rfl, rfl⟩ hL) (by exact hw) (by omega) (by omega) _) rfl (fun h1 hq => ?_)
      obtain ⟨X, hX, rfl⟩ := hq
      have hs : q_Stat (q_rw X _ _) := q_Stat_mag hX hs
      refine xe_aload_n dX10_did_27 rfl ?_
      refine xe_getIv dX10_did_28 flX10_398 (st124 hs) (by decide) rfl (v := (q_rws (fun d => q_fin (q_I h 154) (q_I h 140) LW lv nc w m d) nd (nI n) (2 ^ (2 * nd))).1) (rfl) ?_
      refine xe_ireturn dX10_did_31 rfl (by first | rfl | decide +kernel) ?_
      exact ⟨rfl, q_mag_rw hX _ _⟩
    · omega
theorem c_X10_did_f (l : Launch) (g : q_GP) (h : q_H) (hs : q_Stat h) {lv nm nd nc mo : Nat} (hp : rm_P h lv nm nd nc mo) (x z : Int32) (hxz : ¬ (q_isN x nm ∧ ∃ k, 0 ≤ k ∧ k ≤ 9999 ∧ z = nI k)) : q_Cd l g 4 mX10_did [.ref 124, .int x, .int z] h (some (.int (-1))) h := by
  obtain ⟨p1, p2, p3, p4, p5, p6, p7, p8, p9, p10⟩ := id hp
  by_cases h1 : q_isN x nm
  · have e1 : q_ltn x nm = nI 1 := by
      obtain ⟨k, hk, rfl⟩ := q_isN_of (by omega) h1
      exact q_ltn_t (by omega) hk
    have e2 := q_in_f (a := 0) (b := 9999) (by decide) (by decide) (fun q => hxz ⟨h1, q⟩)
    refine q_CdV mvX10_did (Nat.le_of_ble_eq_true rfl) ?_
    refine xe_aload_n dX10_did_0 rfl ?_
    refine xe_iload_n dX10_did_1 rfl ?_
    refine xe_callVI (d' := 1) (y' := mX10_isMan) dX10_did_2 mlX10_340 mvX10_isMan rfl (st124 hs) (by decide) rfl (by decide) (by decide) (Nat.le_of_ble_eq_true rfl) (c_X10_isManv l g _ (by exact hs) (by exact hp) _ (by assumption)) rfl ?_
    refine xn_if_eq (tgt := 19) dX10_did_5 rfl (by omega) (fun c1 => ?_) (fun c1 => ?_)
    · omega
    · refine xe_iload_n dX10_did_8 rfl ?_
      refine xe_iconst dX10_did_9 kc_0 ?_
      refine xe_sipush dX10_did_10 ks_9999 ?_
      refine xe_callSI (d' := 0) (y' := mX10_in) dX10_did_13 mlX10_312 msX10_in rfl (by decide) (by decide) (Nat.le_of_ble_eq_true rfl) (c_X10_inv l g _ _ _ _ (e2)) rfl ?_
      refine xn_if_ne (tgt := 21) dX10_did_16 rfl (by omega) (fun c2 => ?_) (fun c2 => ?_)
      · omega
      · refine xe_iconst dX10_did_19 kc_m1 ?_
        refine xe_ireturn dX10_did_20 rfl (by first | rfl | decide +kernel) ?_
        exact ⟨rfl, rfl⟩
  · have e1 := q_ltn_f (by omega : nm < 2 ^ 31) h1
    refine q_CdV mvX10_did (Nat.le_of_ble_eq_true rfl) ?_
    refine xe_aload_n dX10_did_0 rfl ?_
    refine xe_iload_n dX10_did_1 rfl ?_
    refine xe_callVI (d' := 1) (y' := mX10_isMan) dX10_did_2 mlX10_340 mvX10_isMan rfl (st124 hs) (by decide) rfl (by decide) (by decide) (Nat.le_of_ble_eq_true rfl) (c_X10_isManv l g _ (by exact hs) (by exact hp) _ (by assumption)) rfl ?_
    refine xn_if_eq (tgt := 19) dX10_did_5 rfl (by omega) (fun c1 => ?_) (fun c1 => ?_)
    · refine xe_iconst dX10_did_19 kc_m1 ?_
      refine xe_ireturn dX10_did_20 rfl (by first | rfl | decide +kernel) ?_
      exact ⟨rfl, rfl⟩
    · omega
theorem c_X10_surely_t (l : Launch) (g : q_GP) (h : q_H) (hs : q_Stat h) {lv nm nd nc mo : Nat} (hp : rm_P h lv nm nd nc mo) {LW : q_LW} (hL : rm_L h lv LW) {w : Nat} (hw : q_I h 154 200 = nI w) (hw2 : w < 2 ^ 20) {m n : Nat} (hm : m < nm) (hn : n ≤ 9999) : q_Ct l g 4 mX10_surely [.ref 124, .int (nI m), .int (nI n)] h (fun r h1 => r = some (.int (q_rws (fun d => q_fin (q_I h 154) (q_I h 140) LW lv nc w m d) nd (nI n) (2 ^ (2 * nd))).2) ∧ q_mag h h1) := by
  obtain ⟨p1, p2, p3, p4, p5, p6, p7, p8, p9, p10⟩ := id hp
  have h1 := q_ltn_t (by omega : nm < 2 ^ 31) hm
  refine q_CtV mvX10_surely (Nat.le_of_ble_eq_true rfl) ?_
  refine xe_aload_n dX10_surely_0 rfl ?_
  refine xe_iload_n dX10_surely_1 rfl ?_
  refine xe_callVI (d' := 1) (y' := mX10_isMan) dX10_surely_2 mlX10_340 mvX10_isMan rfl (st124 hs) (by decide) rfl (by decide) (by decide) (Nat.le_of_ble_eq_true rfl) (c_X10_isManv l g _ (by exact hs) (by exact hp) _ (by assumption)) rfl ?_
  refine xn_if_eq (tgt := 19) dX10_surely_5 rfl (by omega) (fun c1 => ?_) (fun c1 => ?_)
  · omega
  · refine xe_iload_n dX10_surely_8 rfl ?_
    refine xe_iconst dX10_surely_9 kc_0 ?_
    refine xe_sipush dX10_surely_10 ks_9999 ?_
    refine xe_callSI (d' := 0) (y' := mX10_in) dX10_surely_13 mlX10_312 msX10_in rfl (by decide) (by decide) (Nat.le_of_ble_eq_true rfl) (c_X10_inv l g _ _ _ _ (q_in_t (by omega) (by omega) (by decide))) rfl ?_
    refine xn_if_ne (tgt := 21) dX10_surely_16 rfl (by omega) (fun c2 => ?_) (fun c2 => ?_)
    · refine xe_aload_n dX10_surely_21 rfl ?_
      refine xe_iload_n dX10_surely_22 rfl ?_
      refine xe_iload_n dX10_surely_23 rfl ?_
      refine xe_callVVq (d' := 3) (y' := mX10_fillsRows) dX10_surely_24 mlX10_404 mvX10_fillsRows rfl (st124 hs) (by decide) rfl (by decide) (by decide) (Nat.le_of_ble_eq_true rfl) (c_X10_fillsRows l g _ (by exact hs) (by exact hp) (by exact rm_L_of (h := h) ⟨rfl, rfl, rfl, rfl, rfl, rfl, rfl, rfl, rfl⟩ hL) (by exact hw) (by omega) (by omega) _) rfl (fun h1 hq => ?_)
      obtain ⟨X, hX, rfl⟩ := hq
      have hs : q_Stat (q_rw X _ _) := q_Stat_mag hX hs
      refine xe_aload_n dX10_surely_27 rfl ?_
      refine xe_getIv dX10_surely_28 flX10_401 (st124 hs) (by decide) rfl (v := (q_rws (fun d => q_fin (q_I h 154) (q_I h 140) LW lv nc w m d) nd (nI n) (2 ^ (2 * nd))).2) (rfl) ?_
      refine xe_ireturn dX10_surely_31 rfl (by first | rfl | decide +kernel) ?_
      exact ⟨rfl, q_mag_rw hX _ _⟩
    · omega
theorem c_X10_surely_f (l : Launch) (g : q_GP) (h : q_H) (hs : q_Stat h) {lv nm nd nc mo : Nat} (hp : rm_P h lv nm nd nc mo) (x z : Int32) (hxz : ¬ (q_isN x nm ∧ ∃ k, 0 ≤ k ∧ k ≤ 9999 ∧ z = nI k)) : q_Cd l g 4 mX10_surely [.ref 124, .int x, .int z] h (some (.int (-1))) h := by
  obtain ⟨p1, p2, p3, p4, p5, p6, p7, p8, p9, p10⟩ := id hp
  by_cases h1 : q_isN x nm
  · have e1 : q_ltn x nm = nI 1 := by
      obtain ⟨k, hk, rfl⟩ := q_isN_of (by omega) h1
      exact q_ltn_t (by omega) hk
    have e2 := q_in_f (a := 0) (b := 9999) (by decide) (by decide) (fun q => hxz ⟨h1, q⟩)
    refine q_CdV mvX10_surely (Nat.le_of_ble_eq_true rfl) ?_
    refine xe_aload_n dX10_surely_0 rfl ?_
    refine xe_iload_n dX10_surely_1 rfl ?_
    refine xe_callVI (d' := 1) (y' := mX10_isMan) dX10_surely_2 mlX10_340 mvX10_isMan rfl (st124 hs) (by decide) rfl (by decide) (by decide) (Nat.le_of_ble_eq_true rfl) (c_X10_isManv l g _ (by exact hs) (by exact hp) _ (by assumption)) rfl ?_
    refine xn_if_eq (tgt := 19) dX10_surely_5 rfl (by omega) (fun c1 => ?_) (fun c1 => ?_)
    · omega
    · refine xe_iload_n dX10_surely_8 rfl ?_
      refine xe_iconst dX10_surely_9 kc_0 ?_
      refine xe_sipush dX10_surely_10 ks_9999 ?_
      refine xe_callSI (d' := 0) (y' := mX10_in) dX10_surely_13 mlX10_312 msX10_in rfl (by decide) (by decide) (Nat.le_of_ble_eq_true rfl) (c_X10_inv l g _ _ _ _ (e2)) rfl ?_
      refine xn_if_ne (tgt := 21) dX10_surely_16 rfl (by omega) (fun c2 => ?_) (fun c2 => ?_)
      · omega
      · refine xe_iconst dX10_surely_19 kc_m1 ?_
        refine xe_ireturn dX10_surely_20 rfl (by first | rfl | decide +kernel) ?_
        exact ⟨rfl, rfl⟩
  · have e1 := q_ltn_f (by omega : nm < 2 ^ 31) h1
    refine q_CdV mvX10_surely (Nat.le_of_ble_eq_true rfl) ?_
    refine xe_aload_n dX10_surely_0 rfl ?_
    refine xe_iload_n dX10_surely_1 rfl ?_
    refine xe_callVI (d' := 1) (y' := mX10_isMan) dX10_surely_2 mlX10_340 mvX10_isMan rfl (st124 hs) (by decide) rfl (by decide) (by decide) (Nat.le_of_ble_eq_true rfl) (c_X10_isManv l g _ (by exact hs) (by exact hp) _ (by assumption)) rfl ?_
    refine xn_if_eq (tgt := 19) dX10_surely_5 rfl (by omega) (fun c1 => ?_) (fun c1 => ?_)
    · refine xe_iconst dX10_surely_19 kc_m1 ?_
      refine xe_ireturn dX10_surely_20 rfl (by first | rfl | decide +kernel) ?_
      exact ⟨rfl, rfl⟩
    · omega
