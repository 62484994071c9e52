/-! the class: quilt, quiltOf -/
theorem q_kag2_t {h h1 h2 : q_H} {ks : List Nat} (a : q_out ks h h1) (hk : ks.all (fun r => (111 :: 112 :: 122 :: 123 :: q_ksl).contains r) = true) (a0 : q_I h1 111 0 = q_I h 111 0 ∧ q_I h1 112 0 = q_I h 112 0 ∧ q_I h1 122 0 = q_I h 122 0 ∧ q_I h1 123 0 = q_I h 123 0) (b : q_kag2 h1 h2) : q_kag2 h h2 := by
  refine ⟨⟨fun r hr => (b.1.1 r hr).trans (a.1 r ?_), b.1.2.trans a.2⟩, b.2.1.trans a0.1, b.2.2.1.trans a0.2.1, b.2.2.2.1.trans a0.2.2.1, b.2.2.2.2.trans a0.2.2.2⟩
  rw [← Bool.not_eq_true] at hr ⊢
  intro q
  exact hr (List.all_eq_true.mp hk r (List.contains_iff_mem.mp q))
theorem q_sew_n {l : Launch} {g : q_GP} {d : Nat} {y : q_MI} {as : List Value} {h : q_H} {A B : Prop} {Z : q_H → Prop} {Y : q_H → Prop} (C : q_Ct l g d y as h (fun r h1 => Z h1 ∧ ((A ∧ r = some (.int (nI 1)) ∧ Y h1) ∨ (B ∧ r = some (.int (nI 0)))))) : q_Ct l g d y as h (fun r h1 => ∃ v : Int32, r = some (.int v) ∧ (Z h1 ∧ ((A ∧ v = nI 1 ∧ Y h1) ∨ (B ∧ v = nI 0)))) :=
  q_Ct_post (fun r h1 q => by
    obtain ⟨q1, q2 | q2⟩ := q
    · exact ⟨nI 1, q2.2.1, q1, Or.inl ⟨q2.1, rfl, q2.2.2⟩⟩
    · exact ⟨nI 0, q2.2, q1, Or.inr ⟨q2.1, rfl⟩⟩) C
theorem q_sew_nar {A B C : Prop} {v : Int32} (h : (A ∧ v = nI 1 ∧ C) ∨ (B ∧ v = nI 0)) : narrow .boolean (.int v) = .int v := by
  rcases h with q | q
  · rw [q.2.1]
    decide +kernel
  · rw [q.2]
    decide +kernel
theorem c_X9_sew (l : Launch) (g : q_GP) (h : q_H) (hs : q_Stat h) {p nm nd nc mo n : Nat} (hp : rk_P h p nm nd nc mo n) {LW : q_LW} (hL : 0 < nm → rk_L h p n LW) {w : Nat} (hw : q_I h 34 6 = nI w) (hw2 : w < 2 ^ 20) {gu hv : Nat → Nat} (hgu : ∀ d, d < nd → q_I h (p + 4) d = nI (gu d) ∧ gu d ≤ 99) (hhv : ∀ m, m < nm → q_s8 (q_cr h) (8 * m) = nI (hv m) ∧ hv m < 2 ^ 30) (hz1 : q_I h 111 0 = nI 0) (hz2 : q_I h 112 0 = nI 0) {k : Nat} (hk1 : 1 ≤ k) (hk : k ≤ 400) : q_Ct l g 4 mX9_sew [.ref 0, .int (nI k)] h (fun r h1 => q_kag2 h h1 ∧ ((q_lg nm (2 ^ nd) (fun s => q_sb gu s nd) (fun m => q_cm (q_fi (q_cr h) (q_I h (p + 5)) LW 0 nc w m) (hv m) nd) nm k < 1000000 ∧ r = some (.int (nI 1)) ∧ q_I h1 98 8 = nI (q_lg nm (2 ^ nd) (fun s => q_sb gu s nd) (fun m => q_cm (q_fi (q_cr h) (q_I h (p + 5)) LW 0 nc w m) (hv m) nd) nm k) ∧ q_I h1 98 9 = nI (q_qsum (fun m => (fun m => q_cm (q_fi (q_cr h) (q_I h (p + 5)) LW 0 nc w m) (hv m) nd) m (q_chs nm (2 ^ nd) (fun s => q_sb gu s nd) (fun m => q_cm (q_fi (q_cr h) (q_I h (p + 5)) LW 0 nc w m) (hv m) nd) k m)) nm) ∧ ∀ m, m < nm → q_I h1 115 m = nI (q_chs nm (2 ^ nd) (fun s => q_sb gu s nd) (fun m => q_cm (q_fi (q_cr h) (q_I h (p + 5)) LW 0 nc w m) (hv m) nd) k m)) ∨ (¬ q_lg nm (2 ^ nd) (fun s => q_sb gu s nd) (fun m => q_cm (q_fi (q_cr h) (q_I h (p + 5)) LW 0 nc w m) (hv m) nd) nm k < 1000000 ∧ r = some (.int (nI 0))))) := by
  obtain ⟨P0, P1, P2, P2b, P3, P3b, P4, P4b, P5, P5b, P6, P6b⟩ := id hp
  rcases P1 with rfl | rfl
  · refine q_CtV mvX9_sew (Nat.le_of_ble_eq_true rfl) ?_
    refine xe_iconst dX9_sew_0 kc_0 ?_
    refine xe_istore_n (i := 2) dX9_sew_1 rfl (by decide) rfl ?_
    refine xe_fin (L' := (fun (m_ : Nat) (s1 : (Nat → Int32) × (Nat → Int32) × (Nat → Int32) × (Nat → Int32)) => [(0, .ref 0), (1, .int (nI k)), (2, .int (nI m_))]) 0 (q_I h 99, q_I h 100, q_I h 20, q_I h 21)) (h' := (fun (m_ : Nat) (s1 : (Nat → Int32) × (Nat → Int32) × (Nat → Int32) × (Nat → Int32)) => (q_wI (q_wI (q_wI (q_wI h 20 s1.2.2.1) 21 s1.2.2.2) 99 s1.1) 100 s1.2.1)) 0 (q_I h 99, q_I h 100, q_I h 20, q_I h 21)) ?_ (And.intro rfl (And.intro rfl (And.intro rfl trivial))) (q_heq [20, 21, 99, 100] (H := h) (by repeat (first | exact q_out_r | refine q_out_w rfl ?_)) (by repeat (first | exact q_out_r | refine q_out_w rfl ?_)) (And.intro rfl (And.intro rfl (And.intro rfl (And.intro rfl trivial)))))
    refine xe_loopI (σ := (Nat → Int32) × (Nat → Int32) × (Nat → Int32) × (Nat → Int32)) (nm) (fun i s => ∀ m, m < i → s.2.1 m = nI (hv m) ∧ ∀ d, d < nd → s.1 (m * 8 + d) = nI ((fun m => q_fi (q_cr h) (q_I h (10 + 5)) LW 0 nc w m) m d)) (fun (m_ : Nat) (s1 : (Nat → Int32) × (Nat → Int32) × (Nat → Int32) × (Nat → Int32)) => [(0, .ref 0), (1, .int (nI k)), (2, .int (nI m_))]) (fun (m_ : Nat) (s1 : (Nat → Int32) × (Nat → Int32) × (Nat → Int32) × (Nat → Int32)) => (q_wI (q_wI (q_wI (q_wI h 20 s1.2.2.1) 21 s1.2.2.2) 99 s1.1) 100 s1.2.1)) (q_I h 99, q_I h 100, q_I h 20, q_I h 21) (fun _ q => absurd q (Nat.not_lt_zero _)) (fun m_ hm_ s1 e1 K1 => ?_) (fun s1 e1 => ?_)
    · refine xe_iload_n dX9_sew_2 rfl ?_
      refine xe_aload_n dX9_sew_3 rfl ?_
      refine xe_getP dX9_sew_4 flX9_26 (st0 hs) (by decide) rfl P0 ?_
      refine xe_getIv dX9_sew_7 flX9_117 (st10 hs) (by decide) rfl (v := nI nm) (P3) ?_
      refine xn_icmp_ge (tgt := 75) dX9_sew_10 rfl (by omega) (by omega) (fun c2 => ?_) (fun c2 => ?_)
      · omega
      · refine xe_aload_n dX9_sew_13 rfl ?_
        refine xe_getP dX9_sew_14 flX9_65 (st0 hs) (by decide) rfl (sp0_9 hs) ?_
        refine xe_getP dX9_sew_17 flX9_316 (st98 hs) (by decide) rfl (sp98_1 hs) ?_
        refine xe_iload_n dX9_sew_20 rfl ?_
        refine xe_aload_n dX9_sew_21 rfl ?_
        refine xe_getP dX9_sew_22 flX9_36 (st0 hs) (by decide) rfl (sp0_4 hs) ?_
        refine xe_iload_n dX9_sew_25 rfl ?_
        refine xe_callVI (d' := 0) (y' := mX6_inRow) dX9_sew_26 mlX9_140 mvX6_inRow rfl (st34 hs) (by decide) rfl (by decide) (by decide) (Nat.le_of_ble_eq_true rfl) (c_X6_inRow l g _ (by exact hs) _ (by omega)) rfl ?_
        refine xe_top (v' := q_s8 (q_cr h) (8 * m_)) (q_cr_in h (by omega)) ?_
        refine xn_iast dX9_sew_29 (st100 hs) (by omega) (by decide) ?_
        refine xe_iconst dX9_sew_30 kc_0 ?_
        refine xe_istore_n (i := 3) dX9_sew_31 rfl (by decide) rfl ?_
        refine xe_fin (L' := (fun (d_ : Nat) (s3 : (Nat → Int32) × (Nat → Int32) × (Nat → Int32)) => [(0, .ref 0), (1, .int (nI k)), (2, .int (nI m_)), (3, .int (nI d_))]) 0 (s1.1, s1.2.2.1, s1.2.2.2)) (h' := (fun (d_ : Nat) (s3 : (Nat → Int32) × (Nat → Int32) × (Nat → Int32)) => (q_wI (q_wI (q_wI (q_wI h 20 s3.2.1) 21 s3.2.2) 99 s3.1) 100 (upd s1.2.1 m_ (q_s8 (q_cr h) (8 * m_))))) 0 (s1.1, s1.2.2.1, s1.2.2.2)) ?_ (And.intro rfl (And.intro rfl (And.intro rfl (And.intro rfl trivial)))) (q_heq [20, 21, 99, 100] (H := h) (by repeat (first | exact q_out_r | refine q_out_w rfl ?_)) (by repeat (first | exact q_out_r | refine q_out_w rfl ?_)) (And.intro rfl (And.intro rfl (And.intro rfl (And.intro rfl trivial)))))
        refine xe_loopI (σ := (Nat → Int32) × (Nat → Int32) × (Nat → Int32)) (nd) (fun j s => (∀ d, d < j → s.1 (m_ * 8 + d) = nI ((fun m => q_fi (q_cr h) (q_I h (10 + 5)) LW 0 nc w m) m_ d)) ∧ ∀ m, m < m_ → ∀ d, d < nd → s.1 (m * 8 + d) = nI ((fun m => q_fi (q_cr h) (q_I h (10 + 5)) LW 0 nc w m) m d)) (fun (d_ : Nat) (s3 : (Nat → Int32) × (Nat → Int32) × (Nat → Int32)) => [(0, .ref 0), (1, .int (nI k)), (2, .int (nI m_)), (3, .int (nI d_))]) (fun (d_ : Nat) (s3 : (Nat → Int32) × (Nat → Int32) × (Nat → Int32)) => (q_wI (q_wI (q_wI (q_wI h 20 s3.2.1) 21 s3.2.2) 99 s3.1) 100 (upd s1.2.1 m_ (q_s8 (q_cr h) (8 * m_))))) (s1.1, s1.2.2.1, s1.2.2.2) (⟨fun _ q => absurd q (Nat.not_lt_zero _), fun m q => (e1 m q).2⟩) (fun d_ hd_ s3 e3 K3 => ?_) (fun s3 e3 => ?_)
        · refine xe_iload_n dX9_sew_32 rfl ?_
          refine xe_aload_n dX9_sew_33 rfl ?_
          refine xe_getP dX9_sew_34 flX9_26 (st0 hs) (by decide) rfl P0 ?_
          refine xe_getIv dX9_sew_37 flX9_131 (st10 hs) (by decide) rfl (v := nI nd) (P4) ?_
          refine xn_icmp_ge (tgt := 69) dX9_sew_40 rfl (by omega) (by omega) (fun c4 => ?_) (fun c4 => ?_)
          · omega
          · refine xe_aload_n dX9_sew_43 rfl ?_
            refine xe_getP dX9_sew_44 flX9_65 (st0 hs) (by decide) rfl (sp0_9 hs) ?_
            refine xe_getP dX9_sew_47 flX9_319 (st98 hs) (by decide) rfl (sp98_0 hs) ?_
            refine xe_iload_n dX9_sew_50 rfl ?_
            refine xe_bipush dX9_sew_51 kb_8 ?_
            refine xn_imul dX9_sew_53 ?_
            refine xe_iload_n dX9_sew_54 rfl ?_
            refine xn_iadd dX9_sew_55 ?_
            refine xe_aload_n dX9_sew_56 rfl ?_
            refine xe_iload_n dX9_sew_57 rfl ?_
            refine xe_iload_n dX9_sew_58 rfl ?_
            refine xe_callVIq (d' := 2) (y' := mX9_fineNow) dX9_sew_59 mlX9_177 mvX9_fineNow rfl (st0 hs) (by decide) rfl (by decide) (by decide) (Nat.le_of_ble_eq_true rfl) (c_X9_fineNow l g _ (by exact hs) (by exact hp) (by first | exact hL | exact hL (by omega)) (by exact hw) hw2 (by omega) (by omega)) rfl (fun h5 hq5 => ?_)
            obtain ⟨V5, S5, rfl⟩ := hq5
            refine xn_iast dX9_sew_62 (st99 hs) (by omega) (by decide) ?_
            refine xn_iinc dX9_sew_63 rfl kc_1 ?_
            refine xe_goto (tgt := 32) dX9_sew_66 rfl ?_
            exact xe_fin (K3 (upd s3.1 ((m_ * 8) + d_) (q_fin (q_cr h) (q_I h (10 + 5)) LW 0 nc w m_ d_), V5, S5) (⟨fun d q => q_updw (fun e => by have q2 : d = d_ := (by omega); subst q2; exact (q_fi_eq _ _ _ _ _ _ _ _).1) (fun e => e3.1 d (by omega)), fun m q d hd => (pk_un (by omega)).trans (e3.2 m q d hd)⟩)) (And.intro rfl (And.intro rfl (And.intro rfl (And.intro rfl trivial)))) (q_heq [20, 21, 99, 100] (H := h) (by repeat (first | exact q_out_r | refine q_out_w rfl ?_)) (by repeat (first | exact q_out_r | refine q_out_w rfl ?_)) (And.intro rfl (And.intro rfl (And.intro rfl (And.intro rfl trivial)))))
        · refine xe_iload_n dX9_sew_32 rfl ?_
          refine xe_aload_n dX9_sew_33 rfl ?_
          refine xe_getP dX9_sew_34 flX9_26 (st0 hs) (by decide) rfl P0 ?_
          refine xe_getIv dX9_sew_37 flX9_131 (st10 hs) (by decide) rfl (v := nI nd) (P4) ?_
          refine xn_icmp_ge (tgt := 69) dX9_sew_40 rfl (by omega) (by omega) (fun c6 => ?_) (fun c6 => ?_)
          · refine xn_iinc dX9_sew_69 rfl kc_1 ?_
            refine xe_goto (tgt := 2) dX9_sew_72 rfl ?_
            exact xe_fin (K1 (s3.1, upd s1.2.1 m_ (q_s8 (q_cr h) (8 * m_)), s3.2.1, s3.2.2) (fun m q => if e : m = m_ then by subst e; exact ⟨pk_us.trans (hhv _ hm_).1, e3.1⟩ else ⟨(pk_un e).trans (e1 m (by omega)).1, fun d hd => (e3.2 m (by omega) d hd)⟩)) (And.intro rfl (And.intro rfl (And.intro rfl trivial))) (q_heq [20, 21, 99, 100] (H := h) (by repeat (first | exact q_out_r | refine q_out_w rfl ?_)) (by repeat (first | exact q_out_r | refine q_out_w rfl ?_)) (And.intro rfl (And.intro rfl (And.intro rfl (And.intro rfl trivial)))))
          · omega
    · refine xe_iload_n dX9_sew_2 rfl ?_
      refine xe_aload_n dX9_sew_3 rfl ?_
      refine xe_getP dX9_sew_4 flX9_26 (st0 hs) (by decide) rfl P0 ?_
      refine xe_getIv dX9_sew_7 flX9_117 (st10 hs) (by decide) rfl (v := nI nm) (P3) ?_
      refine xn_icmp_ge (tgt := 75) dX9_sew_10 rfl (by omega) (by omega) (fun c7 => ?_) (fun c7 => ?_)
      · refine xe_aload_n dX9_sew_75 rfl ?_
        refine xe_getP dX9_sew_76 flX9_65 (st0 hs) (by decide) rfl (sp0_9 hs) ?_
        refine xe_aload_n dX9_sew_79 rfl ?_
        refine xe_getP dX9_sew_80 flX9_26 (st0 hs) (by decide) rfl P0 ?_
        refine xe_iload_n dX9_sew_83 rfl ?_
        refine xe_callVIn (d' := 3) (y' := mX4_sew) dX9_sew_84 mlX9_320 mvX4_sew rfl (st98 hs) (by decide) rfl (by decide) (by decide) (Nat.le_of_ble_eq_true rfl) (q_sew_n (c_X4_sew10 l g _ (by exact hs) P3b P4b (by exact P3) (by exact P4) hk1 hk (gu := gu) (hv := hv) (fi := (fun m => q_fi (q_cr h) (q_I h (10 + 5)) LW 0 nc w m)) (fun m hm d hd => ⟨(e1 m hm).2 d hd, (q_fi_eq _ _ _ _ _ _ _ _).2⟩) (fun m hm => ⟨(e1 m hm).1, (hhv m hm).2⟩) (fun d hd => (hgu d hd).2) (by exact hz2) (fun d hd => by exact (hgu d hd).1) (by exact hz1))) rfl (fun rv hX hqX => ?_)
        refine xe_ireturn dX9_sew_87 rfl (q_sew_nar hqX.2) ?_
        refine ⟨q_kag2_t (h1 := (q_wI (q_wI (q_wI (q_wI h 20 s1.2.2.1) 21 s1.2.2.2) 99 s1.1) 100 s1.2.1)) (ks := [20, 21, 99, 100]) (by repeat (first | exact q_out_r | refine q_out_w rfl ?_)) rfl ⟨rfl, rfl, rfl, rfl⟩ hqX.1, ?_⟩
        rcases hqX.2 with q | q
        · exact Or.inl ⟨q.1, congrArg (fun v => some (Value.int v)) q.2.1, q.2.2⟩
        · exact Or.inr ⟨q.1, congrArg (fun v => some (Value.int v)) q.2⟩
      · omega
  · refine q_CtV mvX9_sew (Nat.le_of_ble_eq_true rfl) ?_
    refine xe_iconst dX9_sew_0 kc_0 ?_
    refine xe_istore_n (i := 2) dX9_sew_1 rfl (by decide) rfl ?_
    refine xe_fin (L' := (fun (m_ : Nat) (s1 : (Nat → Int32) × (Nat → Int32) × (Nat → Int32) × (Nat → Int32)) => [(0, .ref 0), (1, .int (nI k)), (2, .int (nI m_))]) 0 (q_I h 99, q_I h 100, q_I h 32, q_I h 33)) (h' := (fun (m_ : Nat) (s1 : (Nat → Int32) × (Nat → Int32) × (Nat → Int32) × (Nat → Int32)) => (q_wI (q_wI (q_wI (q_wI h 32 s1.2.2.1) 33 s1.2.2.2) 99 s1.1) 100 s1.2.1)) 0 (q_I h 99, q_I h 100, q_I h 32, q_I h 33)) ?_ (And.intro rfl (And.intro rfl (And.intro rfl trivial))) (q_heq [32, 33, 99, 100] (H := h) (by repeat (first | exact q_out_r | refine q_out_w rfl ?_)) (by repeat (first | exact q_out_r | refine q_out_w rfl ?_)) (And.intro rfl (And.intro rfl (And.intro rfl (And.intro rfl trivial)))))
    refine xe_loopI (σ := (Nat → Int32) × (Nat → Int32) × (Nat → Int32) × (Nat → Int32)) (nm) (fun i s => ∀ m, m < i → s.2.1 m = nI (hv m) ∧ ∀ d, d < nd → s.1 (m * 8 + d) = nI ((fun m => q_fi (q_cr h) (q_I h (22 + 5)) LW 0 nc w m) m d)) (fun (m_ : Nat) (s1 : (Nat → Int32) × (Nat → Int32) × (Nat → Int32) × (Nat → Int32)) => [(0, .ref 0), (1, .int (nI k)), (2, .int (nI m_))]) (fun (m_ : Nat) (s1 : (Nat → Int32) × (Nat → Int32) × (Nat → Int32) × (Nat → Int32)) => (q_wI (q_wI (q_wI (q_wI h 32 s1.2.2.1) 33 s1.2.2.2) 99 s1.1) 100 s1.2.1)) (q_I h 99, q_I h 100, q_I h 32, q_I h 33) (fun _ q => absurd q (Nat.not_lt_zero _)) (fun m_ hm_ s1 e1 K1 => ?_) (fun s1 e1 => ?_)
    · refine xe_iload_n dX9_sew_2 rfl ?_
      refine xe_aload_n dX9_sew_3 rfl ?_
      refine xe_getP dX9_sew_4 flX9_26 (st0 hs) (by decide) rfl P0 ?_
      refine xe_getIv dX9_sew_7 flX9_117 (st22 hs) (by decide) rfl (v := nI nm) (P3) ?_
      refine xn_icmp_ge (tgt := 75) dX9_sew_10 rfl (by omega) (by omega) (fun c2 => ?_) (fun c2 => ?_)
      · omega
      · refine xe_aload_n dX9_sew_13 rfl ?_
        refine xe_getP dX9_sew_14 flX9_65 (st0 hs) (by decide) rfl (sp0_9 hs) ?_
        refine xe_getP dX9_sew_17 flX9_316 (st98 hs) (by decide) rfl (sp98_1 hs) ?_
        refine xe_iload_n dX9_sew_20 rfl ?_
        refine xe_aload_n dX9_sew_21 rfl ?_
        refine xe_getP dX9_sew_22 flX9_36 (st0 hs) (by decide) rfl (sp0_4 hs) ?_
        refine xe_iload_n dX9_sew_25 rfl ?_
        refine xe_callVI (d' := 0) (y' := mX6_inRow) dX9_sew_26 mlX9_140 mvX6_inRow rfl (st34 hs) (by decide) rfl (by decide) (by decide) (Nat.le_of_ble_eq_true rfl) (c_X6_inRow l g _ (by exact hs) _ (by omega)) rfl ?_
        refine xe_top (v' := q_s8 (q_cr h) (8 * m_)) (q_cr_in h (by omega)) ?_
        refine xn_iast dX9_sew_29 (st100 hs) (by omega) (by decide) ?_
        refine xe_iconst dX9_sew_30 kc_0 ?_
        refine xe_istore_n (i := 3) dX9_sew_31 rfl (by decide) rfl ?_
        refine xe_fin (L' := (fun (d_ : Nat) (s3 : (Nat → Int32) × (Nat → Int32) × (Nat → Int32)) => [(0, .ref 0), (1, .int (nI k)), (2, .int (nI m_)), (3, .int (nI d_))]) 0 (s1.1, s1.2.2.1, s1.2.2.2)) (h' := (fun (d_ : Nat) (s3 : (Nat → Int32) × (Nat → Int32) × (Nat → Int32)) => (q_wI (q_wI (q_wI (q_wI h 32 s3.2.1) 33 s3.2.2) 99 s3.1) 100 (upd s1.2.1 m_ (q_s8 (q_cr h) (8 * m_))))) 0 (s1.1, s1.2.2.1, s1.2.2.2)) ?_ (And.intro rfl (And.intro rfl (And.intro rfl (And.intro rfl trivial)))) (q_heq [32, 33, 99, 100] (H := h) (by repeat (first | exact q_out_r | refine q_out_w rfl ?_)) (by repeat (first | exact q_out_r | refine q_out_w rfl ?_)) (And.intro rfl (And.intro rfl (And.intro rfl (And.intro rfl trivial)))))
        refine xe_loopI (σ := (Nat → Int32) × (Nat → Int32) × (Nat → Int32)) (nd) (fun j s => (∀ d, d < j → s.1 (m_ * 8 + d) = nI ((fun m => q_fi (q_cr h) (q_I h (22 + 5)) LW 0 nc w m) m_ d)) ∧ ∀ m, m < m_ → ∀ d, d < nd → s.1 (m * 8 + d) = nI ((fun m => q_fi (q_cr h) (q_I h (22 + 5)) LW 0 nc w m) m d)) (fun (d_ : Nat) (s3 : (Nat → Int32) × (Nat → Int32) × (Nat → Int32)) => [(0, .ref 0), (1, .int (nI k)), (2, .int (nI m_)), (3, .int (nI d_))]) (fun (d_ : Nat) (s3 : (Nat → Int32) × (Nat → Int32) × (Nat → Int32)) => (q_wI (q_wI (q_wI (q_wI h 32 s3.2.1) 33 s3.2.2) 99 s3.1) 100 (upd s1.2.1 m_ (q_s8 (q_cr h) (8 * m_))))) (s1.1, s1.2.2.1, s1.2.2.2) (⟨fun _ q => absurd q (Nat.not_lt_zero _), fun m q => (e1 m q).2⟩) (fun d_ hd_ s3 e3 K3 => ?_) (fun s3 e3 => ?_)
        · refine xe_iload_n dX9_sew_32 rfl ?_
          refine xe_aload_n dX9_sew_33 rfl ?_
          refine xe_getP dX9_sew_34 flX9_26 (st0 hs) (by decide) rfl P0 ?_
          refine xe_getIv dX9_sew_37 flX9_131 (st22 hs) (by decide) rfl (v := nI nd) (P4) ?_
          refine xn_icmp_ge (tgt := 69) dX9_sew_40 rfl (by omega) (by omega) (fun c4 => ?_) (fun c4 => ?_)
          · omega
          · refine xe_aload_n dX9_sew_43 rfl ?_
            refine xe_getP dX9_sew_44 flX9_65 (st0 hs) (by decide) rfl (sp0_9 hs) ?_
            refine xe_getP dX9_sew_47 flX9_319 (st98 hs) (by decide) rfl (sp98_0 hs) ?_
            refine xe_iload_n dX9_sew_50 rfl ?_
            refine xe_bipush dX9_sew_51 kb_8 ?_
            refine xn_imul dX9_sew_53 ?_
            refine xe_iload_n dX9_sew_54 rfl ?_
            refine xn_iadd dX9_sew_55 ?_
            refine xe_aload_n dX9_sew_56 rfl ?_
            refine xe_iload_n dX9_sew_57 rfl ?_
            refine xe_iload_n dX9_sew_58 rfl ?_
            refine xe_callVIq (d' := 2) (y' := mX9_fineNow) dX9_sew_59 mlX9_177 mvX9_fineNow rfl (st0 hs) (by decide) rfl (by decide) (by decide) (Nat.le_of_ble_eq_true rfl) (c_X9_fineNow l g _ (by exact hs) (by exact hp) (by first | exact hL | exact hL (by omega)) (by exact hw) hw2 (by omega) (by omega)) rfl (fun h5 hq5 => ?_)
            obtain ⟨V5, S5, rfl⟩ := hq5
            refine xn_iast dX9_sew_62 (st99 hs) (by omega) (by decide) ?_
            refine xn_iinc dX9_sew_63 rfl kc_1 ?_
            refine xe_goto (tgt := 32) dX9_sew_66 rfl ?_
            exact xe_fin (K3 (upd s3.1 ((m_ * 8) + d_) (q_fin (q_cr h) (q_I h (22 + 5)) LW 0 nc w m_ d_), V5, S5) (⟨fun d q => q_updw (fun e => by have q2 : d = d_ := (by omega); subst q2; exact (q_fi_eq _ _ _ _ _ _ _ _).1) (fun e => e3.1 d (by omega)), fun m q d hd => (pk_un (by omega)).trans (e3.2 m q d hd)⟩)) (And.intro rfl (And.intro rfl (And.intro rfl (And.intro rfl trivial)))) (q_heq [32, 33, 99, 100] (H := h) (by repeat (first | exact q_out_r | refine q_out_w rfl ?_)) (by repeat (first | exact q_out_r | refine q_out_w rfl ?_)) (And.intro rfl (And.intro rfl (And.intro rfl (And.intro rfl trivial)))))
        · refine xe_iload_n dX9_sew_32 rfl ?_
          refine xe_aload_n dX9_sew_33 rfl ?_
          refine xe_getP dX9_sew_34 flX9_26 (st0 hs) (by decide) rfl P0 ?_
          refine xe_getIv dX9_sew_37 flX9_131 (st22 hs) (by decide) rfl (v := nI nd) (P4) ?_
          refine xn_icmp_ge (tgt := 69) dX9_sew_40 rfl (by omega) (by omega) (fun c6 => ?_) (fun c6 => ?_)
          · refine xn_iinc dX9_sew_69 rfl kc_1 ?_
            refine xe_goto (tgt := 2) dX9_sew_72 rfl ?_
            exact xe_fin (K1 (s3.1, upd s1.2.1 m_ (q_s8 (q_cr h) (8 * m_)), s3.2.1, s3.2.2) (fun m q => if e : m = m_ then by subst e; exact ⟨pk_us.trans (hhv _ hm_).1, e3.1⟩ else ⟨(pk_un e).trans (e1 m (by omega)).1, fun d hd => (e3.2 m (by omega) d hd)⟩)) (And.intro rfl (And.intro rfl (And.intro rfl trivial))) (q_heq [32, 33, 99, 100] (H := h) (by repeat (first | exact q_out_r | refine q_out_w rfl ?_)) (by repeat (first | exact q_out_r | refine q_out_w rfl ?_)) (And.intro rfl (And.intro rfl (And.intro rfl (And.intro rfl trivial)))))
          · omega
    · refine xe_iload_n dX9_sew_2 rfl ?_
      refine xe_aload_n dX9_sew_3 rfl ?_
      refine xe_getP dX9_sew_4 flX9_26 (st0 hs) (by decide) rfl P0 ?_
      refine xe_getIv dX9_sew_7 flX9_117 (st22 hs) (by decide) rfl (v := nI nm) (P3) ?_
      refine xn_icmp_ge (tgt := 75) dX9_sew_10 rfl (by omega) (by omega) (fun c7 => ?_) (fun c7 => ?_)
      · refine xe_aload_n dX9_sew_75 rfl ?_
        refine xe_getP dX9_sew_76 flX9_65 (st0 hs) (by decide) rfl (sp0_9 hs) ?_
        refine xe_aload_n dX9_sew_79 rfl ?_
        refine xe_getP dX9_sew_80 flX9_26 (st0 hs) (by decide) rfl P0 ?_
        refine xe_iload_n dX9_sew_83 rfl ?_
        refine xe_callVIn (d' := 3) (y' := mX4_sew) dX9_sew_84 mlX9_320 mvX4_sew rfl (st98 hs) (by decide) rfl (by decide) (by decide) (Nat.le_of_ble_eq_true rfl) (q_sew_n (c_X4_sew22 l g _ (by exact hs) P3b P4b (by exact P3) (by exact P4) hk1 hk (gu := gu) (hv := hv) (fi := (fun m => q_fi (q_cr h) (q_I h (22 + 5)) LW 0 nc w m)) (fun m hm d hd => ⟨(e1 m hm).2 d hd, (q_fi_eq _ _ _ _ _ _ _ _).2⟩) (fun m hm => ⟨(e1 m hm).1, (hhv m hm).2⟩) (fun d hd => (hgu d hd).2) (by exact hz2) (fun d hd => by exact (hgu d hd).1) (by exact hz1))) rfl (fun rv hX hqX => ?_)
        refine xe_ireturn dX9_sew_87 rfl (q_sew_nar hqX.2) ?_
        refine ⟨q_kag2_t (h1 := (q_wI (q_wI (q_wI (q_wI h 32 s1.2.2.1) 33 s1.2.2.2) 99 s1.1) 100 s1.2.1)) (ks := [32, 33, 99, 100]) (by repeat (first | exact q_out_r | refine q_out_w rfl ?_)) rfl ⟨rfl, rfl, rfl, rfl⟩ hqX.1, ?_⟩
        rcases hqX.2 with q | q
        · exact Or.inl ⟨q.1, congrArg (fun v => some (Value.int v)) q.2.1, q.2.2⟩
        · exact Or.inr ⟨q.1, congrArg (fun v => some (Value.int v)) q.2⟩
      · omega
theorem c_X9_sew_y (l : Launch) (g : q_GP) (h : q_H) (hs : q_Stat h) {p nm nd nc mo n : Nat} (hp : rk_P h p nm nd nc mo n) {LW : q_LW} (hL : 0 < nm → rk_L h p n LW) {w : Nat} (hw : q_I h 34 6 = nI w) (hw2 : w < 2 ^ 20) {gu hv : Nat → Nat} (hgu : ∀ d, d < nd → q_I h (p + 4) d = nI (gu d) ∧ gu d ≤ 99) (hhv : ∀ m, m < nm → q_s8 (q_cr h) (8 * m) = nI (hv m) ∧ hv m < 2 ^ 30) (hz1 : q_I h 111 0 = nI 0) (hz2 : q_I h 112 0 = nI 0) {k : Nat} (hk1 : 1 ≤ k) (hk : k ≤ 400) (hc : q_lg nm (2 ^ nd) (fun s => q_sb gu s nd) (fun m => q_cm (q_fi (q_cr h) (q_I h (p + 5)) LW 0 nc w m) (hv m) nd) nm k < 1000000) : q_Ct l g 4 mX9_sew [.ref 0, .int (nI k)] h (fun r h1 => r = some (.int (nI 1)) ∧ q_kag2 h h1 ∧ q_I h1 98 8 = nI (q_lg nm (2 ^ nd) (fun s => q_sb gu s nd) (fun m => q_cm (q_fi (q_cr h) (q_I h (p + 5)) LW 0 nc w m) (hv m) nd) nm k) ∧ q_I h1 98 9 = nI (q_qsum (fun m => (fun m => q_cm (q_fi (q_cr h) (q_I h (p + 5)) LW 0 nc w m) (hv m) nd) m (q_chs nm (2 ^ nd) (fun s => q_sb gu s nd) (fun m => q_cm (q_fi (q_cr h) (q_I h (p + 5)) LW 0 nc w m) (hv m) nd) k m)) nm) ∧ ∀ m, m < nm → q_I h1 115 m = nI (q_chs nm (2 ^ nd) (fun s => q_sb gu s nd) (fun m => q_cm (q_fi (q_cr h) (q_I h (p + 5)) LW 0 nc w m) (hv m) nd) k m)) :=
  q_Ct_post (fun r h1 q => by
    obtain ⟨q1, q2 | q2⟩ := q
    · exact ⟨q2.2.1, q1, q2.2.2⟩
    · exact absurd hc q2.1) (c_X9_sew l g h hs hp hL hw hw2 hgu hhv hz1 hz2 hk1 hk)
theorem c_X9_sew_z (l : Launch) (g : q_GP) (h : q_H) (hs : q_Stat h) {p nm nd nc mo n : Nat} (hp : rk_P h p nm nd nc mo n) {LW : q_LW} (hL : 0 < nm → rk_L h p n LW) {w : Nat} (hw : q_I h 34 6 = nI w) (hw2 : w < 2 ^ 20) {gu hv : Nat → Nat} (hgu : ∀ d, d < nd → q_I h (p + 4) d = nI (gu d) ∧ gu d ≤ 99) (hhv : ∀ m, m < nm → q_s8 (q_cr h) (8 * m) = nI (hv m) ∧ hv m < 2 ^ 30) (hz1 : q_I h 111 0 = nI 0) (hz2 : q_I h 112 0 = nI 0) {k : Nat} (hk1 : 1 ≤ k) (hk : k ≤ 400) (hc : ¬ q_lg nm (2 ^ nd) (fun s => q_sb gu s nd) (fun m => q_cm (q_fi (q_cr h) (q_I h (p + 5)) LW 0 nc w m) (hv m) nd) nm k < 1000000) : q_Ct l g 4 mX9_sew [.ref 0, .int (nI k)] h (fun r h1 => r = some (.int (nI 0)) ∧ q_kag2 h h1) :=
  q_Ct_post (fun r h1 q => by
    obtain ⟨q1, q2 | q2⟩ := q
    · exact absurd q2.1 hc
    · exact ⟨q2.2, q1⟩) (c_X9_sew l g h hs hp hL hw hw2 hgu hhv hz1 hz2 hk1 hk)
theorem c_X9_isQuilt_t (l : Launch) (g : q_GP) (h : q_H) {k : Nat} (hk1 : 1 ≤ k) (hk : k ≤ 400) : q_Cd l g 0 mX9_isQuilt [.int (nI k)] h (some (.int (nI 1))) h := by
  refine q_CdS msX9_isQuilt (Nat.le_of_ble_eq_true rfl) ?_
  refine xe_iload_n dX9_isQuilt_0 rfl ?_
  refine xe_iconst dX9_isQuilt_1 kc_1 ?_
  refine xn_icmp_lt (tgt := 16) dX9_isQuilt_2 rfl (by omega) (by omega) (fun c1 => ?_) (fun c1 => ?_)
  · omega
  · refine xe_iload_n dX9_isQuilt_5 rfl ?_
    refine xe_sipush dX9_isQuilt_6 ks_400 ?_
    refine xn_icmp_gt (tgt := 16) dX9_isQuilt_9 rfl (by omega) (by omega) (fun c2 => ?_) (fun c2 => ?_)
    · omega
    · refine xe_iconst dX9_isQuilt_12 kc_1 ?_
      refine xe_goto (tgt := 17) dX9_isQuilt_13 rfl ?_
      refine xe_ireturn dX9_isQuilt_17 rfl (by first | rfl | decide +kernel) ?_
      exact ⟨rfl, rfl⟩
theorem c_X9_isQuilt_f (l : Launch) (g : q_GP) (h : q_H) {x : Int32} (hx : ¬ ∃ k, 1 ≤ k ∧ k ≤ 400 ∧ x = nI k) : q_Cd l g 0 mX9_isQuilt [.int x] h (some (.int (nI 0))) h := by
  refine q_CdS msX9_isQuilt (Nat.le_of_ble_eq_true rfl) ?_
  refine xe_iload_n dX9_isQuilt_0 rfl ?_
  refine xe_iconst dX9_isQuilt_1 kc_1 ?_
  refine xe_icmp_lt (tgt := 16) dX9_isQuilt_2 rfl (fun c_2 => ?_) (fun c_2 => ?_)
  · refine xe_iconst dX9_isQuilt_16 kc_0 ?_
    refine xe_ireturn dX9_isQuilt_17 rfl (by first | rfl | decide +kernel) ?_
    exact ⟨rfl, rfl⟩
  · refine xe_iload_n dX9_isQuilt_5 rfl ?_
    refine xe_sipush dX9_isQuilt_6 ks_400 ?_
    refine xe_icmp_gt (tgt := 16) dX9_isQuilt_9 rfl (fun c1 => ?_) (fun c1 => ?_)
    · refine xe_iconst dX9_isQuilt_16 kc_0 ?_
      refine xe_ireturn dX9_isQuilt_17 rfl (by first | rfl | decide +kernel) ?_
      exact ⟨rfl, rfl⟩
    · exact absurd (q_rng2 (Int32.not_lt.mp c_2) (Int32.not_lt.mp c1)) hx
theorem c_X9_quilt_n0 (l : Launch) (g : q_GP) (h : q_H) (hs : q_Stat h) {p nm nd nc mo n : Nat} (hp : rk_P h p nm nd nc mo n) {LW : q_LW} (hL : 0 < nm → rk_L h p n LW) {w : Nat} (hw : q_I h 34 6 = nI w) (hw2 : w < 2 ^ 20) {gu hv : Nat → Nat} (hgu : ∀ d, d < nd → q_I h (p + 4) d = nI (gu d) ∧ gu d ≤ 99) (hhv : ∀ m, m < nm → q_s8 (q_cr h) (8 * m) = nI (hv m) ∧ hv m < 2 ^ 30) (hz1 : q_I h 111 0 = nI 0) (hz2 : q_I h 112 0 = nI 0) {k : Nat} (hk1 : 1 ≤ k) (hk : k ≤ 400) (hc : ¬ q_lg nm (2 ^ nd) (fun s => q_sb gu s nd) (fun m => q_cm (q_fi (q_cr h) (q_I h (p + 5)) LW 0 nc w m) (hv m) nd) nm k < 1000000) : q_Ct l g 5 mX9_quilt [.ref 0, .int (nI k), .int (nI 0)] h (fun r h1 => r = some (.int (-2)) ∧ q_kag2 h h1) := by
  obtain ⟨P0, P1, P2, P2b, P3, P3b, P4, P4b, P5, P5b, P6, P6b⟩ := id hp
  rcases P1 with rfl | rfl
  · refine q_CtV mvX9_quilt (Nat.le_of_ble_eq_true rfl) ?_
    refine xe_iload_n dX9_quilt_0 rfl ?_
    refine xe_callSI (d' := 0) (y' := mX9_isQuilt) dX9_quilt_1 mlX9_302 msX9_isQuilt rfl (by decide) (by decide) (Nat.le_of_ble_eq_true rfl) (c_X9_isQuilt_t l g _ hk1 hk) rfl ?_
    refine xn_if_eq (tgt := 16) dX9_quilt_4 rfl (by omega) (fun c1 => ?_) (fun c1 => ?_)
    · omega
    · refine xe_iload_n dX9_quilt_7 rfl ?_
      refine xn_if_lt (tgt := 16) dX9_quilt_8 rfl (by omega) ?_
      refine xe_iload_n dX9_quilt_11 rfl ?_
      refine xe_iconst dX9_quilt_12 kc_1 ?_
      refine xn_icmp_le (tgt := 18) dX9_quilt_13 rfl (by omega) (by omega) (fun c3 => ?_) (fun c3 => ?_)
      · refine xe_aload_n dX9_quilt_18 rfl ?_
        refine xe_iload_n dX9_quilt_19 rfl ?_
        refine xe_callVIq (d' := 4) (y' := mX9_sew) dX9_quilt_20 mlX9_305 mvX9_sew rfl (st0 hs) (by decide) rfl (by decide) (by decide) (Nat.le_of_ble_eq_true rfl) (c_X9_sew_z l g _ (by exact hs) (by exact hp) (by exact hL) (by exact hw) hw2 hgu hhv hz1 hz2 hk1 hk hc) rfl (fun h1 hX => ?_)
        refine xn_if_ne (tgt := 29) dX9_quilt_23 rfl (by omega) (fun c4 => ?_) (fun c4 => ?_)
        · omega
        · refine xe_bipush dX9_quilt_26 kb_m2 ?_
          refine xe_ireturn dX9_quilt_28 rfl (by first | rfl | decide +kernel) ?_
          exact ⟨rfl, hX⟩
      · omega
  · refine q_CtV mvX9_quilt (Nat.le_of_ble_eq_true rfl) ?_
    refine xe_iload_n dX9_quilt_0 rfl ?_
    refine xe_callSI (d' := 0) (y' := mX9_isQuilt) dX9_quilt_1 mlX9_302 msX9_isQuilt rfl (by decide) (by decide) (Nat.le_of_ble_eq_true rfl) (c_X9_isQuilt_t l g _ hk1 hk) rfl ?_
    refine xn_if_eq (tgt := 16) dX9_quilt_4 rfl (by omega) (fun c1 => ?_) (fun c1 => ?_)
    · omega
    · refine xe_iload_n dX9_quilt_7 rfl ?_
      refine xn_if_lt (tgt := 16) dX9_quilt_8 rfl (by omega) ?_
      refine xe_iload_n dX9_quilt_11 rfl ?_
      refine xe_iconst dX9_quilt_12 kc_1 ?_
      refine xn_icmp_le (tgt := 18) dX9_quilt_13 rfl (by omega) (by omega) (fun c3 => ?_) (fun c3 => ?_)
      · refine xe_aload_n dX9_quilt_18 rfl ?_
        refine xe_iload_n dX9_quilt_19 rfl ?_
        refine xe_callVIq (d' := 4) (y' := mX9_sew) dX9_quilt_20 mlX9_305 mvX9_sew rfl (st0 hs) (by decide) rfl (by decide) (by decide) (Nat.le_of_ble_eq_true rfl) (c_X9_sew_z l g _ (by exact hs) (by exact hp) (by exact hL) (by exact hw) hw2 hgu hhv hz1 hz2 hk1 hk hc) rfl (fun h1 hX => ?_)
        refine xn_if_ne (tgt := 29) dX9_quilt_23 rfl (by omega) (fun c4 => ?_) (fun c4 => ?_)
        · omega
        · refine xe_bipush dX9_quilt_26 kb_m2 ?_
          refine xe_ireturn dX9_quilt_28 rfl (by first | rfl | decide +kernel) ?_
          exact ⟨rfl, hX⟩
      · omega
theorem c_X9_quilt_0 (l : Launch) (g : q_GP) (h : q_H) (hs : q_Stat h) {p nm nd nc mo n : Nat} (hp : rk_P h p nm nd nc mo n) {LW : q_LW} (hL : 0 < nm → rk_L h p n LW) {w : Nat} (hw : q_I h 34 6 = nI w) (hw2 : w < 2 ^ 20) {gu hv : Nat → Nat} (hgu : ∀ d, d < nd → q_I h (p + 4) d = nI (gu d) ∧ gu d ≤ 99) (hhv : ∀ m, m < nm → q_s8 (q_cr h) (8 * m) = nI (hv m) ∧ hv m < 2 ^ 30) (hz1 : q_I h 111 0 = nI 0) (hz2 : q_I h 112 0 = nI 0) {k : Nat} (hk1 : 1 ≤ k) (hk : k ≤ 400) (hc : q_lg nm (2 ^ nd) (fun s => q_sb gu s nd) (fun m => q_cm (q_fi (q_cr h) (q_I h (p + 5)) LW 0 nc w m) (hv m) nd) nm k < 1000000) : q_Ct l g 5 mX9_quilt [.ref 0, .int (nI k), .int (nI 0)] h (fun r h1 => r = some (.int (nI (q_lg nm (2 ^ nd) (fun s => q_sb gu s nd) (fun m => q_cm (q_fi (q_cr h) (q_I h (p + 5)) LW 0 nc w m) (hv m) nd) nm k))) ∧ q_kag2 h h1) := by
  obtain ⟨P0, P1, P2, P2b, P3, P3b, P4, P4b, P5, P5b, P6, P6b⟩ := id hp
  rcases P1 with rfl | rfl
  · refine q_CtV mvX9_quilt (Nat.le_of_ble_eq_true rfl) ?_
    refine xe_iload_n dX9_quilt_0 rfl ?_
    refine xe_callSI (d' := 0) (y' := mX9_isQuilt) dX9_quilt_1 mlX9_302 msX9_isQuilt rfl (by decide) (by decide) (Nat.le_of_ble_eq_true rfl) (c_X9_isQuilt_t l g _ hk1 hk) rfl ?_
    refine xn_if_eq (tgt := 16) dX9_quilt_4 rfl (by omega) (fun c1 => ?_) (fun c1 => ?_)
    · omega
    · refine xe_iload_n dX9_quilt_7 rfl ?_
      refine xn_if_lt (tgt := 16) dX9_quilt_8 rfl (by omega) ?_
      refine xe_iload_n dX9_quilt_11 rfl ?_
      refine xe_iconst dX9_quilt_12 kc_1 ?_
      refine xn_icmp_le (tgt := 18) dX9_quilt_13 rfl (by omega) (by omega) (fun c3 => ?_) (fun c3 => ?_)
      · refine xe_aload_n dX9_quilt_18 rfl ?_
        refine xe_iload_n dX9_quilt_19 rfl ?_
        refine xe_callVIq (d' := 4) (y' := mX9_sew) dX9_quilt_20 mlX9_305 mvX9_sew rfl (st0 hs) (by decide) rfl (by decide) (by decide) (Nat.le_of_ble_eq_true rfl) (c_X9_sew_y l g _ (by exact hs) (by exact hp) (by exact hL) (by exact hw) hw2 hgu hhv hz1 hz2 hk1 hk hc) rfl (fun h1 hq => ?_)
        obtain ⟨hX, r1, r2, r3⟩ := hq
        have hs : q_Stat h1 := q_Stat_2 hX.1.2 hs
        refine xn_if_ne (tgt := 29) dX9_quilt_23 rfl (by omega) (fun c4 => ?_) (fun c4 => ?_)
        · refine xe_iload_n dX9_quilt_29 rfl ?_
          refine xn_if_ne (tgt := 43) dX9_quilt_30 rfl (by omega) (fun c5 => ?_) (fun c5 => ?_)
          · omega
          · refine xe_aload_n dX9_quilt_33 rfl ?_
            refine xe_getP dX9_quilt_34 flX9_65 (st0 hs) (by decide) rfl (sp0_9 hs) ?_
            refine xe_getIv dX9_quilt_37 flX9_308 (st98 hs) (by decide) rfl (v := (nI (q_lg nm (2 ^ nd) (fun s => q_sb gu s nd) (fun m => q_cm (q_fi (q_cr h) (q_I h (10 + 5)) LW 0 nc w m) (hv m) nd) nm k))) (r1) ?_
            refine xe_goto (tgt := 50) dX9_quilt_40 rfl ?_
            refine xe_ireturn dX9_quilt_50 rfl (by first | rfl | decide +kernel) ?_
            exact ⟨rfl, hX⟩
        · omega
      · omega
  · refine q_CtV mvX9_quilt (Nat.le_of_ble_eq_true rfl) ?_
    refine xe_iload_n dX9_quilt_0 rfl ?_
    refine xe_callSI (d' := 0) (y' := mX9_isQuilt) dX9_quilt_1 mlX9_302 msX9_isQuilt rfl (by decide) (by decide) (Nat.le_of_ble_eq_true rfl) (c_X9_isQuilt_t l g _ hk1 hk) rfl ?_
    refine xn_if_eq (tgt := 16) dX9_quilt_4 rfl (by omega) (fun c1 => ?_) (fun c1 => ?_)
    · omega
    · refine xe_iload_n dX9_quilt_7 rfl ?_
      refine xn_if_lt (tgt := 16) dX9_quilt_8 rfl (by omega) ?_
      refine xe_iload_n dX9_quilt_11 rfl ?_
      refine xe_iconst dX9_quilt_12 kc_1 ?_
      refine xn_icmp_le (tgt := 18) dX9_quilt_13 rfl (by omega) (by omega) (fun c3 => ?_) (fun c3 => ?_)
      · refine xe_aload_n dX9_quilt_18 rfl ?_
        refine xe_iload_n dX9_quilt_19 rfl ?_
        refine xe_callVIq (d' := 4) (y' := mX9_sew) dX9_quilt_20 mlX9_305 mvX9_sew rfl (st0 hs) (by decide) rfl (by decide) (by decide) (Nat.le_of_ble_eq_true rfl) (c_X9_sew_y l g _ (by exact hs) (by exact hp) (by exact hL) (by exact hw) hw2 hgu hhv hz1 hz2 hk1 hk hc) rfl (fun h1 hq => ?_)
        obtain ⟨hX, r1, r2, r3⟩ := hq
        have hs : q_Stat h1 := q_Stat_2 hX.1.2 hs
        refine xn_if_ne (tgt := 29) dX9_quilt_23 rfl (by omega) (fun c4 => ?_) (fun c4 => ?_)
        · refine xe_iload_n dX9_quilt_29 rfl ?_
          refine xn_if_ne (tgt := 43) dX9_quilt_30 rfl (by omega) (fun c5 => ?_) (fun c5 => ?_)
          · omega
          · refine xe_aload_n dX9_quilt_33 rfl ?_
            refine xe_getP dX9_quilt_34 flX9_65 (st0 hs) (by decide) rfl (sp0_9 hs) ?_
            refine xe_getIv dX9_quilt_37 flX9_308 (st98 hs) (by decide) rfl (v := (nI (q_lg nm (2 ^ nd) (fun s => q_sb gu s nd) (fun m => q_cm (q_fi (q_cr h) (q_I h (22 + 5)) LW 0 nc w m) (hv m) nd) nm k))) (r1) ?_
            refine xe_goto (tgt := 50) dX9_quilt_40 rfl ?_
            refine xe_ireturn dX9_quilt_50 rfl (by first | rfl | decide +kernel) ?_
            exact ⟨rfl, hX⟩
        · omega
      · omega
theorem c_X9_quilt_n1 (l : Launch) (g : q_GP) (h : q_H) (hs : q_Stat h) {p nm nd nc mo n : Nat} (hp : rk_P h p nm nd nc mo n) {LW : q_LW} (hL : 0 < nm → rk_L h p n LW) {w : Nat} (hw : q_I h 34 6 = nI w) (hw2 : w < 2 ^ 20) {gu hv : Nat → Nat} (hgu : ∀ d, d < nd → q_I h (p + 4) d = nI (gu d) ∧ gu d ≤ 99) (hhv : ∀ m, m < nm → q_s8 (q_cr h) (8 * m) = nI (hv m) ∧ hv m < 2 ^ 30) (hz1 : q_I h 111 0 = nI 0) (hz2 : q_I h 112 0 = nI 0) {k : Nat} (hk1 : 1 ≤ k) (hk : k ≤ 400) (hc : ¬ q_lg nm (2 ^ nd) (fun s => q_sb gu s nd) (fun m => q_cm (q_fi (q_cr h) (q_I h (p + 5)) LW 0 nc w m) (hv m) nd) nm k < 1000000) : q_Ct l g 5 mX9_quilt [.ref 0, .int (nI k), .int (nI 1)] h (fun r h1 => r = some (.int (-2)) ∧ q_kag2 h h1) := by
  obtain ⟨P0, P1, P2, P2b, P3, P3b, P4, P4b, P5, P5b, P6, P6b⟩ := id hp
  rcases P1 with rfl | rfl
  · refine q_CtV mvX9_quilt (Nat.le_of_ble_eq_true rfl) ?_
    refine xe_iload_n dX9_quilt_0 rfl ?_
    refine xe_callSI (d' := 0) (y' := mX9_isQuilt) dX9_quilt_1 mlX9_302 msX9_isQuilt rfl (by decide) (by decide) (Nat.le_of_ble_eq_true rfl) (c_X9_isQuilt_t l g _ hk1 hk) rfl ?_
    refine xn_if_eq (tgt := 16) dX9_quilt_4 rfl (by omega) (fun c1 => ?_) (fun c1 => ?_)
    · omega
    · refine xe_iload_n dX9_quilt_7 rfl ?_
      refine xn_if_lt (tgt := 16) dX9_quilt_8 rfl (by omega) ?_
      refine xe_iload_n dX9_quilt_11 rfl ?_
      refine xe_iconst dX9_quilt_12 kc_1 ?_
      refine xn_icmp_le (tgt := 18) dX9_quilt_13 rfl (by omega) (by omega) (fun c3 => ?_) (fun c3 => ?_)
      · refine xe_aload_n dX9_quilt_18 rfl ?_
        refine xe_iload_n dX9_quilt_19 rfl ?_
        refine xe_callVIq (d' := 4) (y' := mX9_sew) dX9_quilt_20 mlX9_305 mvX9_sew rfl (st0 hs) (by decide) rfl (by decide) (by decide) (Nat.le_of_ble_eq_true rfl) (c_X9_sew_z l g _ (by exact hs) (by exact hp) (by exact hL) (by exact hw) hw2 hgu hhv hz1 hz2 hk1 hk hc) rfl (fun h1 hX => ?_)
        refine xn_if_ne (tgt := 29) dX9_quilt_23 rfl (by omega) (fun c4 => ?_) (fun c4 => ?_)
        · omega
        · refine xe_bipush dX9_quilt_26 kb_m2 ?_
          refine xe_ireturn dX9_quilt_28 rfl (by first | rfl | decide +kernel) ?_
          exact ⟨rfl, hX⟩
      · omega
  · refine q_CtV mvX9_quilt (Nat.le_of_ble_eq_true rfl) ?_
    refine xe_iload_n dX9_quilt_0 rfl ?_
    refine xe_callSI (d' := 0) (y' := mX9_isQuilt) dX9_quilt_1 mlX9_302 msX9_isQuilt rfl (by decide) (by decide) (Nat.le_of_ble_eq_true rfl) (c_X9_isQuilt_t l g _ hk1 hk) rfl ?_
    refine xn_if_eq (tgt := 16) dX9_quilt_4 rfl (by omega) (fun c1 => ?_) (fun c1 => ?_)
    · omega
    · refine xe_iload_n dX9_quilt_7 rfl ?_
      refine xn_if_lt (tgt := 16) dX9_quilt_8 rfl (by omega) ?_
      refine xe_iload_n dX9_quilt_11 rfl ?_
      refine xe_iconst dX9_quilt_12 kc_1 ?_
      refine xn_icmp_le (tgt := 18) dX9_quilt_13 rfl (by omega) (by omega) (fun c3 => ?_) (fun c3 => ?_)
      · refine xe_aload_n dX9_quilt_18 rfl ?_
        refine xe_iload_n dX9_quilt_19 rfl ?_
        refine xe_callVIq (d' := 4) (y' := mX9_sew) dX9_quilt_20 mlX9_305 mvX9_sew rfl (st0 hs) (by decide) rfl (by decide) (by decide) (Nat.le_of_ble_eq_true rfl) (c_X9_sew_z l g _ (by exact hs) (by exact hp) (by exact hL) (by exact hw) hw2 hgu hhv hz1 hz2 hk1 hk hc) rfl (fun h1 hX => ?_)
        refine xn_if_ne (tgt := 29) dX9_quilt_23 rfl (by omega) (fun c4 => ?_) (fun c4 => ?_)
        · omega
        · refine xe_bipush dX9_quilt_26 kb_m2 ?_
          refine xe_ireturn dX9_quilt_28 rfl (by first | rfl | decide +kernel) ?_
          exact ⟨rfl, hX⟩
      · omega
theorem c_X9_quilt_1 (l : Launch) (g : q_GP) (h : q_H) (hs : q_Stat h) {p nm nd nc mo n : Nat} (hp : rk_P h p nm nd nc mo n) {LW : q_LW} (hL : 0 < nm → rk_L h p n LW) {w : Nat} (hw : q_I h 34 6 = nI w) (hw2 : w < 2 ^ 20) {gu hv : Nat → Nat} (hgu : ∀ d, d < nd → q_I h (p + 4) d = nI (gu d) ∧ gu d ≤ 99) (hhv : ∀ m, m < nm → q_s8 (q_cr h) (8 * m) = nI (hv m) ∧ hv m < 2 ^ 30) (hz1 : q_I h 111 0 = nI 0) (hz2 : q_I h 112 0 = nI 0) {k : Nat} (hk1 : 1 ≤ k) (hk : k ≤ 400) (hc : q_lg nm (2 ^ nd) (fun s => q_sb gu s nd) (fun m => q_cm (q_fi (q_cr h) (q_I h (p + 5)) LW 0 nc w m) (hv m) nd) nm k < 1000000) : q_Ct l g 5 mX9_quilt [.ref 0, .int (nI k), .int (nI 1)] h (fun r h1 => r = some (.int (nI (q_qsum (fun m => (fun m => q_cm (q_fi (q_cr h) (q_I h (p + 5)) LW 0 nc w m) (hv m) nd) m (q_chs nm (2 ^ nd) (fun s => q_sb gu s nd) (fun m => q_cm (q_fi (q_cr h) (q_I h (p + 5)) LW 0 nc w m) (hv m) nd) k m)) nm))) ∧ q_kag2 h h1) := by
  obtain ⟨P0, P1, P2, P2b, P3, P3b, P4, P4b, P5, P5b, P6, P6b⟩ := id hp
  rcases P1 with rfl | rfl
  · refine q_CtV mvX9_quilt (Nat.le_of_ble_eq_true rfl) ?_
    refine xe_iload_n dX9_quilt_0 rfl ?_
    refine xe_callSI (d' := 0) (y' := mX9_isQuilt) dX9_quilt_1 mlX9_302 msX9_isQuilt rfl (by decide) (by decide) (Nat.le_of_ble_eq_true rfl) (c_X9_isQuilt_t l g _ hk1 hk) rfl ?_
    refine xn_if_eq (tgt := 16) dX9_quilt_4 rfl (by omega) (fun c1 => ?_) (fun c1 => ?_)
    · omega
    · refine xe_iload_n dX9_quilt_7 rfl ?_
      refine xn_if_lt (tgt := 16) dX9_quilt_8 rfl (by omega) ?_
      refine xe_iload_n dX9_quilt_11 rfl ?_
      refine xe_iconst dX9_quilt_12 kc_1 ?_
      refine xn_icmp_le (tgt := 18) dX9_quilt_13 rfl (by omega) (by omega) (fun c3 => ?_) (fun c3 => ?_)
      · refine xe_aload_n dX9_quilt_18 rfl ?_
        refine xe_iload_n dX9_quilt_19 rfl ?_
        refine xe_callVIq (d' := 4) (y' := mX9_sew) dX9_quilt_20 mlX9_305 mvX9_sew rfl (st0 hs) (by decide) rfl (by decide) (by decide) (Nat.le_of_ble_eq_true rfl) (c_X9_sew_y l g _ (by exact hs) (by exact hp) (by exact hL) (by exact hw) hw2 hgu hhv hz1 hz2 hk1 hk hc) rfl (fun h1 hq => ?_)
        obtain ⟨hX, r1, r2, r3⟩ := hq
        have hs : q_Stat h1 := q_Stat_2 hX.1.2 hs
        refine xn_if_ne (tgt := 29) dX9_quilt_23 rfl (by omega) (fun c4 => ?_) (fun c4 => ?_)
        · refine xe_iload_n dX9_quilt_29 rfl ?_
          refine xn_if_ne (tgt := 43) dX9_quilt_30 rfl (by omega) (fun c5 => ?_) (fun c5 => ?_)
          · refine xe_aload_n dX9_quilt_43 rfl ?_
            refine xe_getP dX9_quilt_44 flX9_65 (st0 hs) (by decide) rfl (sp0_9 hs) ?_
            refine xe_getIv dX9_quilt_47 flX9_311 (st98 hs) (by decide) rfl (v := (nI (q_qsum (fun m => (fun m => q_cm (q_fi (q_cr h) (q_I h (10 + 5)) LW 0 nc w m) (hv m) nd) m (q_chs nm (2 ^ nd) (fun s => q_sb gu s nd) (fun m => q_cm (q_fi (q_cr h) (q_I h (10 + 5)) LW 0 nc w m) (hv m) nd) k m)) nm))) (r2) ?_
            refine xe_ireturn dX9_quilt_50 rfl (by first | rfl | decide +kernel) ?_
            exact ⟨rfl, hX⟩
          · omega
        · omega
      · omega
  · refine q_CtV mvX9_quilt (Nat.le_of_ble_eq_true rfl) ?_
    refine xe_iload_n dX9_quilt_0 rfl ?_
    refine xe_callSI (d' := 0) (y' := mX9_isQuilt) dX9_quilt_1 mlX9_302 msX9_isQuilt rfl (by decide) (by decide) (Nat.le_of_ble_eq_true rfl) (c_X9_isQuilt_t l g _ hk1 hk) rfl ?_
    refine xn_if_eq (tgt := 16) dX9_quilt_4 rfl (by omega) (fun c1 => ?_) (fun c1 => ?_)
    · omega
    · refine xe_iload_n dX9_quilt_7 rfl ?_
      refine xn_if_lt (tgt := 16) dX9_quilt_8 rfl (by omega) ?_
      refine xe_iload_n dX9_quilt_11 rfl ?_
      refine xe_iconst dX9_quilt_12 kc_1 ?_
      refine xn_icmp_le (tgt := 18) dX9_quilt_13 rfl (by omega) (by omega) (fun c3 => ?_) (fun c3 => ?_)
      · refine xe_aload_n dX9_quilt_18 rfl ?_
        refine xe_iload_n dX9_quilt_19 rfl ?_
        refine xe_callVIq (d' := 4) (y' := mX9_sew) dX9_quilt_20 mlX9_305 mvX9_sew rfl (st0 hs) (by decide) rfl (by decide) (by decide) (Nat.le_of_ble_eq_true rfl) (c_X9_sew_y l g _ (by exact hs) (by exact hp) (by exact hL) (by exact hw) hw2 hgu hhv hz1 hz2 hk1 hk hc) rfl (fun h1 hq => ?_)
        obtain ⟨hX, r1, r2, r3⟩ := hq
        have hs : q_Stat h1 := q_Stat_2 hX.1.2 hs
        refine xn_if_ne (tgt := 29) dX9_quilt_23 rfl (by omega) (fun c4 => ?_) (fun c4 => ?_)
        · refine xe_iload_n dX9_quilt_29 rfl ?_
          refine xn_if_ne (tgt := 43) dX9_quilt_30 rfl (by omega) (fun c5 => ?_) (fun c5 => ?_)
          · refine xe_aload_n dX9_quilt_43 rfl ?_
            refine xe_getP dX9_quilt_44 flX9_65 (st0 hs) (by decide) rfl (sp0_9 hs) ?_
            refine xe_getIv dX9_quilt_47 flX9_311 (st98 hs) (by decide) rfl (v := (nI (q_qsum (fun m => (fun m => q_cm (q_fi (q_cr h) (q_I h (22 + 5)) LW 0 nc w m) (hv m) nd) m (q_chs nm (2 ^ nd) (fun s => q_sb gu s nd) (fun m => q_cm (q_fi (q_cr h) (q_I h (22 + 5)) LW 0 nc w m) (hv m) nd) k m)) nm))) (r2) ?_
            refine xe_ireturn dX9_quilt_50 rfl (by first | rfl | decide +kernel) ?_
            exact ⟨rfl, hX⟩
          · omega
        · omega
      · omega
theorem c_X9_quilt_f (l : Launch) (g : q_GP) (h : q_H) (hs : q_Stat h) (x z : Int32) (hxz : ¬ ((∃ k, 1 ≤ k ∧ k ≤ 400 ∧ x = nI k) ∧ ∃ k, 0 ≤ k ∧ k ≤ 1 ∧ z = nI k)) : q_Cd l g 5 mX9_quilt [.ref 0, .int x, .int z] h (some (.int (-1))) h := by
  by_cases h1 : ∃ k, 1 ≤ k ∧ k ≤ 400 ∧ x = nI k
  · have h2 := fun q => hxz ⟨h1, q⟩
    obtain ⟨k, hk1, hk, rfl⟩ := h1
    refine q_CdV mvX9_quilt (Nat.le_of_ble_eq_true rfl) ?_
    refine xe_iload_n dX9_quilt_0 rfl ?_
    refine xe_callSI (d' := 0) (y' := mX9_isQuilt) dX9_quilt_1 mlX9_302 msX9_isQuilt rfl (by decide) (by decide) (Nat.le_of_ble_eq_true rfl) (c_X9_isQuilt_t l g _ hk1 hk) rfl ?_
    refine xn_if_eq (tgt := 16) dX9_quilt_4 rfl (by omega) (fun c1 => ?_) (fun c1 => ?_)
    · omega
    · refine xe_iload_n dX9_quilt_7 rfl ?_
      refine xe_if_lt (tgt := 16) dX9_quilt_8 rfl (fun c_8 => ?_) (fun c_8 => ?_)
      · refine xe_iconst dX9_quilt_16 kc_m1 ?_
        refine xe_ireturn dX9_quilt_17 rfl (by first | rfl | decide +kernel) ?_
        exact ⟨rfl, rfl⟩
      · refine xe_iload_n dX9_quilt_11 rfl ?_
        refine xe_iconst dX9_quilt_12 kc_1 ?_
        refine xe_icmp_le (tgt := 18) dX9_quilt_13 rfl (fun c2 => ?_) (fun c2 => ?_)
        · exact absurd (q_rng (Int32.not_lt.mp c_8) c2) h2
        · refine xe_iconst dX9_quilt_16 kc_m1 ?_
          refine xe_ireturn dX9_quilt_17 rfl (by first | rfl | decide +kernel) ?_
          exact ⟨rfl, rfl⟩
  · refine q_CdV mvX9_quilt (Nat.le_of_ble_eq_true rfl) ?_
    refine xe_iload_n dX9_quilt_0 rfl ?_
    refine xe_callSI (d' := 0) (y' := mX9_isQuilt) dX9_quilt_1 mlX9_302 msX9_isQuilt rfl (by decide) (by decide) (Nat.le_of_ble_eq_true rfl) (c_X9_isQuilt_f l g _ h1) rfl ?_
    refine xn_if_eq (tgt := 16) dX9_quilt_4 rfl (by omega) (fun c1 => ?_) (fun c1 => ?_)
    · refine xe_iconst dX9_quilt_16 kc_m1 ?_
      refine xe_ireturn dX9_quilt_17 rfl (by first | rfl | decide +kernel) ?_
      exact ⟨rfl, rfl⟩
    · omega
theorem c_X9_quiltOf_n (l : Launch) (g : q_GP) (h : q_H) (hs : q_Stat h) {p nm nd nc mo n : Nat} (hp : rk_P h p nm nd nc mo n) {LW : q_LW} (hL : 0 < nm → rk_L h p n LW) {w : Nat} (hw : q_I h 34 6 = nI w) (hw2 : w < 2 ^ 20) {gu hv : Nat → Nat} (hgu : ∀ d, d < nd → q_I h (p + 4) d = nI (gu d) ∧ gu d ≤ 99) (hhv : ∀ m, m < nm → q_s8 (q_cr h) (8 * m) = nI (hv m) ∧ hv m < 2 ^ 30) (hz1 : q_I h 111 0 = nI 0) (hz2 : q_I h 112 0 = nI 0) {k : Nat} (hk1 : 1 ≤ k) (hk : k ≤ 400) {m : Nat} (hm : m < nm) (hc : ¬ q_lg nm (2 ^ nd) (fun s => q_sb gu s nd) (fun m => q_cm (q_fi (q_cr h) (q_I h (p + 5)) LW 0 nc w m) (hv m) nd) nm k < 1000000) : q_Ct l g 5 mX9_quiltOf [.ref 0, .int (nI k), .int (nI m)] h (fun r h1 => r = some (.int (-2)) ∧ q_kag2 h h1) := by
  obtain ⟨P0, P1, P2, P2b, P3, P3b, P4, P4b, P5, P5b, P6, P6b⟩ := id hp
  rcases P1 with rfl | rfl
  · refine q_CtV mvX9_quiltOf (Nat.le_of_ble_eq_true rfl) ?_
    refine xe_iload_n dX9_quiltOf_0 rfl ?_
    refine xe_callSI (d' := 0) (y' := mX9_isQuilt) dX9_quiltOf_1 mlX9_302 msX9_isQuilt rfl (by decide) (by decide) (Nat.le_of_ble_eq_true rfl) (c_X9_isQuilt_t l g _ hk1 hk) rfl ?_
    refine xn_if_eq (tgt := 15) dX9_quiltOf_4 rfl (by omega) (fun c1 => ?_) (fun c1 => ?_)
    · omega
    · refine xe_aload_n dX9_quiltOf_7 rfl ?_
      refine xe_iload_n dX9_quiltOf_8 rfl ?_
      refine xe_callVI (d' := 0) (y' := mX9_isMan) dX9_quiltOf_9 mlX9_134 mvX9_isMan rfl (st0 hs) (by decide) rfl (by decide) (by decide) (Nat.le_of_ble_eq_true rfl) (c_X9_isMan_t l g _ (by exact hs) (by exact hp) (by omega)) rfl ?_
      refine xn_if_ne (tgt := 17) dX9_quiltOf_12 rfl (by omega) (fun c2 => ?_) (fun c2 => ?_)
      · refine xe_aload_n dX9_quiltOf_17 rfl ?_
        refine xe_iload_n dX9_quiltOf_18 rfl ?_
        refine xe_callVIq (d' := 4) (y' := mX9_sew) dX9_quiltOf_19 mlX9_305 mvX9_sew rfl (st0 hs) (by decide) rfl (by decide) (by decide) (Nat.le_of_ble_eq_true rfl) (c_X9_sew_z l g _ (by exact hs) (by exact hp) (by exact hL) (by exact hw) hw2 hgu hhv hz1 hz2 hk1 hk hc) rfl (fun h1 hX => ?_)
        refine xn_if_eq (tgt := 37) dX9_quiltOf_22 rfl (by omega) (fun c3 => ?_) (fun c3 => ?_)
        · refine xe_bipush dX9_quiltOf_37 kb_m2 ?_
          refine xe_ireturn dX9_quiltOf_39 rfl (by first | rfl | decide +kernel) ?_
          exact ⟨rfl, hX⟩
        · omega
      · omega
  · refine q_CtV mvX9_quiltOf (Nat.le_of_ble_eq_true rfl) ?_
    refine xe_iload_n dX9_quiltOf_0 rfl ?_
    refine xe_callSI (d' := 0) (y' := mX9_isQuilt) dX9_quiltOf_1 mlX9_302 msX9_isQuilt rfl (by decide) (by decide) (Nat.le_of_ble_eq_true rfl) (c_X9_isQuilt_t l g _ hk1 hk) rfl ?_
    refine xn_if_eq (tgt := 15) dX9_quiltOf_4 rfl (by omega) (fun c1 => ?_) (fun c1 => ?_)
    · omega
    · refine xe_aload_n dX9_quiltOf_7 rfl ?_
      refine xe_iload_n dX9_quiltOf_8 rfl ?_
      refine xe_callVI (d' := 0) (y' := mX9_isMan) dX9_quiltOf_9 mlX9_134 mvX9_isMan rfl (st0 hs) (by decide) rfl (by decide) (by decide) (Nat.le_of_ble_eq_true rfl) (c_X9_isMan_t l g _ (by exact hs) (by exact hp) (by omega)) rfl ?_
      refine xn_if_ne (tgt := 17) dX9_quiltOf_12 rfl (by omega) (fun c2 => ?_) (fun c2 => ?_)
      · refine xe_aload_n dX9_quiltOf_17 rfl ?_
        refine xe_iload_n dX9_quiltOf_18 rfl ?_
        refine xe_callVIq (d' := 4) (y' := mX9_sew) dX9_quiltOf_19 mlX9_305 mvX9_sew rfl (st0 hs) (by decide) rfl (by decide) (by decide) (Nat.le_of_ble_eq_true rfl) (c_X9_sew_z l g _ (by exact hs) (by exact hp) (by exact hL) (by exact hw) hw2 hgu hhv hz1 hz2 hk1 hk hc) rfl (fun h1 hX => ?_)
        refine xn_if_eq (tgt := 37) dX9_quiltOf_22 rfl (by omega) (fun c3 => ?_) (fun c3 => ?_)
        · refine xe_bipush dX9_quiltOf_37 kb_m2 ?_
          refine xe_ireturn dX9_quiltOf_39 rfl (by first | rfl | decide +kernel) ?_
          exact ⟨rfl, hX⟩
        · omega
      · omega
theorem c_X9_quiltOf_t (l : Launch) (g : q_GP) (h : q_H) (hs : q_Stat h) {p nm nd nc mo n : Nat} (hp : rk_P h p nm nd nc mo n) {LW : q_LW} (hL : 0 < nm → rk_L h p n LW) {w : Nat} (hw : q_I h 34 6 = nI w) (hw2 : w < 2 ^ 20) {gu hv : Nat → Nat} (hgu : ∀ d, d < nd → q_I h (p + 4) d = nI (gu d) ∧ gu d ≤ 99) (hhv : ∀ m, m < nm → q_s8 (q_cr h) (8 * m) = nI (hv m) ∧ hv m < 2 ^ 30) (hz1 : q_I h 111 0 = nI 0) (hz2 : q_I h 112 0 = nI 0) {k : Nat} (hk1 : 1 ≤ k) (hk : k ≤ 400) {m : Nat} (hm : m < nm) (hc : q_lg nm (2 ^ nd) (fun s => q_sb gu s nd) (fun m => q_cm (q_fi (q_cr h) (q_I h (p + 5)) LW 0 nc w m) (hv m) nd) nm k < 1000000) : q_Ct l g 5 mX9_quiltOf [.ref 0, .int (nI k), .int (nI m)] h (fun r h1 => r = some (.int (nI (q_chs nm (2 ^ nd) (fun s => q_sb gu s nd) (fun m => q_cm (q_fi (q_cr h) (q_I h (p + 5)) LW 0 nc w m) (hv m) nd) k m))) ∧ q_kag2 h h1) := by
  obtain ⟨P0, P1, P2, P2b, P3, P3b, P4, P4b, P5, P5b, P6, P6b⟩ := id hp
  rcases P1 with rfl | rfl
  · refine q_CtV mvX9_quiltOf (Nat.le_of_ble_eq_true rfl) ?_
    refine xe_iload_n dX9_quiltOf_0 rfl ?_
    refine xe_callSI (d' := 0) (y' := mX9_isQuilt) dX9_quiltOf_1 mlX9_302 msX9_isQuilt rfl (by decide) (by decide) (Nat.le_of_ble_eq_true rfl) (c_X9_isQuilt_t l g _ hk1 hk) rfl ?_
    refine xn_if_eq (tgt := 15) dX9_quiltOf_4 rfl (by omega) (fun c1 => ?_) (fun c1 => ?_)
    · omega
    · refine xe_aload_n dX9_quiltOf_7 rfl ?_
      refine xe_iload_n dX9_quiltOf_8 rfl ?_
      refine xe_callVI (d' := 0) (y' := mX9_isMan) dX9_quiltOf_9 mlX9_134 mvX9_isMan rfl (st0 hs) (by decide) rfl (by decide) (by decide) (Nat.le_of_ble_eq_true rfl) (c_X9_isMan_t l g _ (by exact hs) (by exact hp) (by omega)) rfl ?_
      refine xn_if_ne (tgt := 17) dX9_quiltOf_12 rfl (by omega) (fun c2 => ?_) (fun c2 => ?_)
      · refine xe_aload_n dX9_quiltOf_17 rfl ?_
        refine xe_iload_n dX9_quiltOf_18 rfl ?_
        refine xe_callVIq (d' := 4) (y' := mX9_sew) dX9_quiltOf_19 mlX9_305 mvX9_sew rfl (st0 hs) (by decide) rfl (by decide) (by decide) (Nat.le_of_ble_eq_true rfl) (c_X9_sew_y l g _ (by exact hs) (by exact hp) (by exact hL) (by exact hw) hw2 hgu hhv hz1 hz2 hk1 hk hc) rfl (fun h1 hq => ?_)
        obtain ⟨hX, r1, r2, r3⟩ := hq
        have hs : q_Stat h1 := q_Stat_2 hX.1.2 hs
        refine xn_if_eq (tgt := 37) dX9_quiltOf_22 rfl (by omega) (fun c3 => ?_) (fun c3 => ?_)
        · omega
        · refine xe_aload_n dX9_quiltOf_25 rfl ?_
          refine xe_getP dX9_quiltOf_26 flX9_65 (st0 hs) (by decide) rfl (sp0_9 hs) ?_
          refine xe_getP dX9_quiltOf_29 flX9_313 (st98 hs) (by decide) rfl (sp98_7 hs) ?_
          refine xe_iload_n dX9_quiltOf_32 rfl ?_
          refine xn_ialdv dX9_quiltOf_33 (st115 hs) (by omega) (by decide) (v := (nI (q_chs nm (2 ^ nd) (fun s => q_sb gu s nd) (fun m => q_cm (q_fi (q_cr h) (q_I h (10 + 5)) LW 0 nc w m) (hv m) nd) k m))) (r3 m hm) ?_
          refine xe_goto (tgt := 39) dX9_quiltOf_34 rfl ?_
          refine xe_ireturn dX9_quiltOf_39 rfl (by first | rfl | decide +kernel) ?_
          exact ⟨rfl, hX⟩
      · omega
  · refine q_CtV mvX9_quiltOf (Nat.le_of_ble_eq_true rfl) ?_
    refine xe_iload_n dX9_quiltOf_0 rfl ?_
    refine xe_callSI (d' := 0) (y' := mX9_isQuilt) dX9_quiltOf_1 mlX9_302 msX9_isQuilt rfl (by decide) (by decide) (Nat.le_of_ble_eq_true rfl) (c_X9_isQuilt_t l g _ hk1 hk) rfl ?_
    refine xn_if_eq (tgt := 15) dX9_quiltOf_4 rfl (by omega) (fun c1 => ?_) (fun c1 => ?_)
    · omega
    · refine xe_aload_n dX9_quiltOf_7 rfl ?_
      refine xe_iload_n dX9_quiltOf_8 rfl ?_
      refine xe_callVI (d' := 0) (y' := mX9_isMan) dX9_quiltOf_9 mlX9_134 mvX9_isMan rfl (st0 hs) (by decide) rfl (by decide) (by decide) (Nat.le_of_ble_eq_true rfl) (c_X9_isMan_t l g _ (by exact hs) (by exact hp) (by omega)) rfl ?_
      refine xn_if_ne (tgt := 17) dX9_quiltOf_12 rfl (by omega) (fun c2 => ?_) (fun c2 => ?_)
      · refine xe_aload_n dX9_quiltOf_17 rfl ?_
        refine xe_iload_n dX9_quiltOf_18 rfl ?_
        refine xe_callVIq (d' := 4) (y' := mX9_sew) dX9_quiltOf_19 mlX9_305 mvX9_sew rfl (st0 hs) (by decide) rfl (by decide) (by decide) (Nat.le_of_ble_eq_true rfl) (c_X9_sew_y l g _ (by exact hs) (by exact hp) (by exact hL) (by exact hw) hw2 hgu hhv hz1 hz2 hk1 hk hc) rfl (fun h1 hq => ?_)
        obtain ⟨hX, r1, r2, r3⟩ := hq
        have hs : q_Stat h1 := q_Stat_2 hX.1.2 hs
        refine xn_if_eq (tgt := 37) dX9_quiltOf_22 rfl (by omega) (fun c3 => ?_) (fun c3 => ?_)
        · omega
        · refine xe_aload_n dX9_quiltOf_25 rfl ?_
          refine xe_getP dX9_quiltOf_26 flX9_65 (st0 hs) (by decide) rfl (sp0_9 hs) ?_
          refine xe_getP dX9_quiltOf_29 flX9_313 (st98 hs) (by decide) rfl (sp98_7 hs) ?_
          refine xe_iload_n dX9_quiltOf_32 rfl ?_
          refine xn_ialdv dX9_quiltOf_33 (st115 hs) (by omega) (by decide) (v := (nI (q_chs nm (2 ^ nd) (fun s => q_sb gu s nd) (fun m => q_cm (q_fi (q_cr h) (q_I h (22 + 5)) LW 0 nc w m) (hv m) nd) k m))) (r3 m hm) ?_
          refine xe_goto (tgt := 39) dX9_quiltOf_34 rfl ?_
          refine xe_ireturn dX9_quiltOf_39 rfl (by first | rfl | decide +kernel) ?_
          exact ⟨rfl, hX⟩
      · omega
theorem c_X9_quiltOf_f (l : Launch) (g : q_GP) (h : q_H) (hs : q_Stat h) {p nm nd nc mo n : Nat} (hp : rk_P h p nm nd nc mo n) (x z : Int32) (hxz : ¬ ((∃ k, 1 ≤ k ∧ k ≤ 400 ∧ x = nI k) ∧ q_isN z nm)) : q_Cd l g 5 mX9_quiltOf [.ref 0, .int x, .int z] h (some (.int (-1))) h := by
  obtain ⟨P0, P1, P2, P2b, P3, P3b, P4, P4b, P5, P5b, P6, P6b⟩ := id hp
  rcases P1 with rfl | rfl
  · by_cases h1 : ∃ k, 1 ≤ k ∧ k ≤ 400 ∧ x = nI k
    · have h2 := fun q => hxz ⟨h1, q⟩
      obtain ⟨k, hk1, hk, rfl⟩ := h1
      refine q_CdV mvX9_quiltOf (Nat.le_of_ble_eq_true rfl) ?_
      refine xe_iload_n dX9_quiltOf_0 rfl ?_
      refine xe_callSI (d' := 0) (y' := mX9_isQuilt) dX9_quiltOf_1 mlX9_302 msX9_isQuilt rfl (by decide) (by decide) (Nat.le_of_ble_eq_true rfl) (c_X9_isQuilt_t l g _ hk1 hk) rfl ?_
      refine xn_if_eq (tgt := 15) dX9_quiltOf_4 rfl (by omega) (fun c1 => ?_) (fun c1 => ?_)
      · omega
      · refine xe_aload_n dX9_quiltOf_7 rfl ?_
        refine xe_iload_n dX9_quiltOf_8 rfl ?_
        refine xe_callVI (d' := 0) (y' := mX9_isMan) dX9_quiltOf_9 mlX9_134 mvX9_isMan rfl (st0 hs) (by decide) rfl (by decide) (by decide) (Nat.le_of_ble_eq_true rfl) (c_X9_isMan_f l g _ (by exact hs) (by exact hp) (h2)) rfl ?_
        refine xn_if_ne (tgt := 17) dX9_quiltOf_12 rfl (by omega) (fun c2 => ?_) (fun c2 => ?_)
        · omega
        · refine xe_iconst dX9_quiltOf_15 kc_m1 ?_
          refine xe_ireturn dX9_quiltOf_16 rfl (by first | rfl | decide +kernel) ?_
          exact ⟨rfl, rfl⟩
    · refine q_CdV mvX9_quiltOf (Nat.le_of_ble_eq_true rfl) ?_
      refine xe_iload_n dX9_quiltOf_0 rfl ?_
      refine xe_callSI (d' := 0) (y' := mX9_isQuilt) dX9_quiltOf_1 mlX9_302 msX9_isQuilt rfl (by decide) (by decide) (Nat.le_of_ble_eq_true rfl) (c_X9_isQuilt_f l g _ h1) rfl ?_
      refine xn_if_eq (tgt := 15) dX9_quiltOf_4 rfl (by omega) (fun c1 => ?_) (fun c1 => ?_)
      · refine xe_iconst dX9_quiltOf_15 kc_m1 ?_
        refine xe_ireturn dX9_quiltOf_16 rfl (by first | rfl | decide +kernel) ?_
        exact ⟨rfl, rfl⟩
      · omega
  · by_cases h1 : ∃ k, 1 ≤ k ∧ k ≤ 400 ∧ x = nI k
    · have h2 := fun q => hxz ⟨h1, q⟩
      obtain ⟨k, hk1, hk, rfl⟩ := h1
      refine q_CdV mvX9_quiltOf (Nat.le_of_ble_eq_true rfl) ?_
      refine xe_iload_n dX9_quiltOf_0 rfl ?_
      refine xe_callSI (d' := 0) (y' := mX9_isQuilt) dX9_quiltOf_1 mlX9_302 msX9_isQuilt rfl (by decide) (by decide) (Nat.le_of_ble_eq_true rfl) (c_X9_isQuilt_t l g _ hk1 hk) rfl ?_
      refine xn_if_eq (tgt := 15) dX9_quiltOf_4 rfl (by omega) (fun c1 => ?_) (fun c1 => ?_)
      · omega
      · refine xe_aload_n dX9_quiltOf_7 rfl ?_
        refine xe_iload_n dX9_quiltOf_8 rfl ?_
        refine xe_callVI (d' := 0) (y' := mX9_isMan) dX9_quiltOf_9 mlX9_134 mvX9_isMan rfl (st0 hs) (by decide) rfl (by decide) (by decide) (Nat.le_of_ble_eq_true rfl) (c_X9_isMan_f l g _ (by exact hs) (by exact hp) (h2)) rfl ?_
        refine xn_if_ne (tgt := 17) dX9_quiltOf_12 rfl (by omega) (fun c2 => ?_) (fun c2 => ?_)
        · omega
        · refine xe_iconst dX9_quiltOf_15 kc_m1 ?_
          refine xe_ireturn dX9_quiltOf_16 rfl (by first | rfl | decide +kernel) ?_
          exact ⟨rfl, rfl⟩
    · refine q_CdV mvX9_quiltOf (Nat.le_of_ble_eq_true rfl) ?_
      refine xe_iload_n dX9_quiltOf_0 rfl ?_
      refine xe_callSI (d' := 0) (y' := mX9_isQuilt) dX9_quiltOf_1 mlX9_302 msX9_isQuilt rfl (by decide) (by decide) (Nat.le_of_ble_eq_true rfl) (c_X9_isQuilt_f l g _ h1) rfl ?_
      refine xn_if_eq (tgt := 15) dX9_quiltOf_4 rfl (by omega) (fun c1 => ?_) (fun c1 => ?_)
      · refine xe_iconst dX9_quiltOf_15 kc_m1 ?_
        refine xe_ireturn dX9_quiltOf_16 rfl (by first | rfl | decide +kernel) ?_
        exact ⟨rfl, rfl⟩
      · omega
