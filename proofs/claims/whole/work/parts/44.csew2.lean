/-! the class: sewing -/
theorem c_X4_gatherQ (l : Launch) (g : q_GP) (h : q_H) (hs : q_Stat h) {n K : Nat} (hn1 : 1 ≤ n) (hn : n ≤ 400) (hK : K ≤ 256) {gs cm : Nat → Nat} (ho : ∀ s, s < K → q_I h 111 s = nI (gs s) ∧ gs s ≤ 1000000 ∧ q_I h 112 s = nI (cm s) ∧ cm s < 2 ^ 30) : q_Ct l g 1 mX4_gatherOffers [.ref 98, .int (nI n), .int (nI K)] h (fun r h1 => ∃ v : Int32, r = some (.int v) ∧ ∃ M oc ob OC OG, v = nI M ∧ M ≤ n + 1 ∧ q_off gs (fun s => if cm s < n then cm s else n) n K M oc ob ∧ (∀ i, i < M → OC i = nI (oc i) ∧ OG i = nI (ob i)) ∧ h1 = q_wI (q_wI h 113 OC) 114 OG) :=
  q_Ct_post (fun r h1 q => by
    obtain ⟨M, oc, ob, OC, OG, q1, q2, q3, q4, q5⟩ := q
    exact ⟨nI M, q1, M, oc, ob, OC, OG, rfl, q2, q3, q4, q5⟩) (c_X4_gatherOffers l g h hs hn1 hn hK ho)
theorem c_X4_choose10 (l : Launch) (g : q_GP) (h : q_H) (hs : q_Stat h) {nm nd n : Nat} (hnm : nm ≤ 8) (hnd : nd ≤ 8) (hm3 : q_I h 10 3 = nI nm) (hd4 : q_I h 10 4 = nI nd) (hn1 : 1 ≤ n) (hn : n ≤ 400) {gu hv : Nat → Nat} {fi : Nat → Nat → Nat} (hfi : ∀ m, m < nm → ∀ d, d < nd → q_I h 99 (m * 8 + d) = nI (fi m d) ∧ fi m d ≤ 999) (hhv : ∀ m, m < nm → q_I h 100 m = nI (hv m) ∧ hv m < 2 ^ 30) (hgub : ∀ d, d < nd → gu d ≤ 99) (hz : q_I h 112 0 = nI 0) (hgs : ∀ s, s < 2 ^ nd → q_I h 111 s = nI ((fun s => q_sb gu s nd) s)) (hLm : ∀ m, m ≤ nm → ∀ k, k ≤ n → q_I h (102 + m) k = nI (q_lg nm (2 ^ nd) (fun s => q_sb gu s nd) (fun m => q_cm (fi m) (hv m) nd) (nm - m) k)) (hlt : q_lg nm (2 ^ nd) (fun s => q_sb gu s nd) (fun m => q_cm (fi m) (hv m) nd) nm n < 1000000) : q_Ct l g 2 mX4_choose [.ref 98, .ref 10, .int (nI n)] h (fun r h1 => r = none ∧ ∃ C A, h1 = q_wI (q_wI (q_wI h 98 (upd (q_I h 98) 9 (nI (q_qsum (fun m => (fun m => q_cm (fi m) (hv m) nd) m (q_chs nm (2 ^ nd) (fun s => q_sb gu s nd) (fun m => q_cm (fi m) (hv m) nd) n m)) nm)))) 112 C) 115 A ∧ C 0 = nI 0 ∧ ∀ m, m < nm → A m = nI (q_chs nm (2 ^ nd) (fun s => q_sb gu s nd) (fun m => q_cm (fi m) (hv m) nd) n m)) := by
  have hpw : 2 ^ nd ≤ 256 := q_pow_le hnd
  have hgsb : ∀ s, (fun s => q_sb gu s nd) s ≤ 99 * nd := fun s => q_sb_le nd hgub
  have hcmb : ∀ m, m < nm → ∀ s, (fun m => q_cm (fi m) (hv m) nd) m s < 2 ^ 30 := fun m hm s => Nat.lt_of_le_of_lt (q_cm_hv _ _ _ _) (hhv m hm).2
  refine q_CtV mvX4_choose (Nat.le_of_ble_eq_true rfl) ?_
  refine xe_iload_n dX4_choose_0 rfl ?_
  refine xe_istore_n (i := 3) dX4_choose_1 rfl (by decide) rfl ?_
  refine xe_aload_n dX4_choose_2 rfl ?_
  refine xe_iconst dX4_choose_3 kc_0 ?_
  refine xe_putI dX4_choose_4 flX4_71 (st98 hs) (by decide) rfl (Or.inl rfl) rfl rfl ?_
  refine xe_iconst dX4_choose_7 kc_0 ?_
  refine xe_istore dX4_choose_8 (by decide) rfl ?_
  refine xe_fin (L' := (fun (m_ : Nat) (s1 : Nat × (Nat → Int32) × (Nat → Int32) × Nat) => [(0, .ref 98), (1, .ref 10), (2, .int (nI n)), (3, .int (nI s1.1)), (4, .int (nI m_))]) 0 (n, q_I h 112, q_I h 115, 0)) (h' := (fun (m_ : Nat) (s1 : Nat × (Nat → Int32) × (Nat → Int32) × Nat) => (q_wI (q_wI (q_wI h 98 (upd (q_I h 98) 9 (nI s1.2.2.2))) 112 s1.2.1) 115 s1.2.2.1)) 0 (n, q_I h 112, q_I h 115, 0)) ?_ (And.intro rfl (And.intro rfl (And.intro rfl (And.intro rfl (And.intro rfl trivial))))) (q_heq [98, 112, 115] (H := h) (by repeat (first | exact q_out_r | refine q_out_w rfl ?_)) (by repeat (first | exact q_out_r | refine q_out_w rfl ?_)) (And.intro (q_feq [9] (f := q_I h 98) (by repeat (first | exact q_fout_r | refine q_fout_w rfl ?_)) (by repeat (first | exact q_fout_r | refine q_fout_w rfl ?_)) (And.intro rfl trivial)) (And.intro rfl (And.intro rfl trivial))))
  refine xe_loopI (σ := Nat × (Nat → Int32) × (Nat → Int32) × Nat) (nm) (fun i s => s.1 = q_lft nm (2 ^ nd) (fun s => q_sb gu s nd) (fun m => q_cm (fi m) (hv m) nd) n i ∧ s.2.1 0 = nI 0 ∧ (∀ m, m < i → s.2.2.1 m = nI (q_chs nm (2 ^ nd) (fun s => q_sb gu s nd) (fun m => q_cm (fi m) (hv m) nd) n m)) ∧ s.2.2.2 = q_qsum (fun m => (fun m => q_cm (fi m) (hv m) nd) m (q_chs nm (2 ^ nd) (fun s => q_sb gu s nd) (fun m => q_cm (fi m) (hv m) nd) n m)) i) (fun (m_ : Nat) (s1 : Nat × (Nat → Int32) × (Nat → Int32) × Nat) => [(0, .ref 98), (1, .ref 10), (2, .int (nI n)), (3, .int (nI s1.1)), (4, .int (nI m_))]) (fun (m_ : Nat) (s1 : Nat × (Nat → Int32) × (Nat → Int32) × Nat) => (q_wI (q_wI (q_wI h 98 (upd (q_I h 98) 9 (nI s1.2.2.2))) 112 s1.2.1) 115 s1.2.2.1)) (n, q_I h 112, q_I h 115, 0) (⟨rfl, hz, fun _ q => absurd q (Nat.not_lt_zero _), rfl⟩) (fun m_ hm_ s1 e1 K1 => ?_) (fun s1 e1 => ?_)
  · have hlf := q_lft_le nm (2 ^ nd) (fun s => q_sb gu s nd) (fun m => q_cm (fi m) (hv m) nd) n m_
    have hch := q_chs_lt (m := m_) hm_ hlt
    have hpw0 : 0 < 2 ^ nd := Nat.pow_pos (by decide)
    rw [← e1.1] at hlf
    refine xe_iload dX4_choose_10 rfl ?_
    refine xe_aload_n dX4_choose_12 rfl ?_
    refine xe_getIv dX4_choose_13 flX4_42 (st10 hs) (by decide) rfl (v := nI nm) (hm3) ?_
    refine xn_icmp_ge (tgt := 89) dX4_choose_16 rfl (by omega) (by omega) (fun c2 => ?_) (fun c2 => ?_)
    · omega
    · refine xe_aload_n dX4_choose_19 rfl ?_
      refine xe_iload dX4_choose_20 rfl ?_
      refine xe_aload_n dX4_choose_22 rfl ?_
      refine xe_getIv dX4_choose_23 flX4_49 (st10 hs) (by decide) rfl (v := nI nd) (hd4) ?_
      refine xe_callVVq (d' := 1) (y' := mX4_sumFines) dX4_choose_26 mlX4_52 mvX4_sumFines rfl (st98 hs) (by decide) rfl (by decide) (by decide) (Nat.le_of_ble_eq_true rfl) (c_X4_sumFines l g _ (by exact hs) (fi := fi m_) (m := m_) (nd := nd) (hv := hv m_) (by omega) hnd (by exact hfi _ (by omega)) (by exact (hhv _ (by omega)).1) (hhv _ (by omega)).2 (by exact e1.2.1)) rfl (fun h3 hq3 => ?_)
      obtain ⟨C3, rfl, hc0_3, hc_3⟩ := hq3
      refine xe_aload_n dX4_choose_29 rfl ?_
      refine xe_iload dX4_choose_30 rfl ?_
      refine xe_iload_n dX4_choose_32 rfl ?_
      refine xe_iconst dX4_choose_33 kc_1 ?_
      refine xe_aload_n dX4_choose_34 rfl ?_
      refine xe_getIv dX4_choose_35 flX4_49 (st10 hs) (by decide) rfl (v := nI nd) (hd4) ?_
      refine xe_ishl dX4_choose_38 ?_
      refine xe_top (v' := nI (2 ^ nd)) (q_pow_nm nd hnd) ?_
      refine xe_callVI (d' := 1) (y' := mX4_firstOfLeast) dX4_choose_39 mlX4_74 mvX4_firstOfLeast rfl (st98 hs) (by decide) rfl (by decide) (by decide) (Nat.le_of_ble_eq_true rfl) (c_X4_firstOfLeast l g _ (by exact hs) (m := m_) (k := s1.1) (K := 2 ^ nd) (lgm := q_lg nm (2 ^ nd) (fun s => q_sb gu s nd) (fun m => q_cm (fi m) (hv m) nd) (nm - m_) s1.1) (gs := (fun s => q_sb gu s nd)) (cm := (fun m => q_cm (fi m) (hv m) nd) m_) (lgf := q_lg nm (2 ^ nd) (fun s => q_sb gu s nd) (fun m => q_cm (fi m) (hv m) nd) (nm - (m_ + 1))) (by omega) (by omega) hpw (fun s hs9 => ⟨(congrFun (show q_I _ 111 = q_I h 111 from rfl) s).trans (hgs s hs9), Nat.le_trans (hgsb s) (by omega), hc_3 s hs9, hcmb _ (by omega) s⟩) (fun j hj => ⟨(congrFun (by repeat (first | exact rfl | refine (q_Ine (by omega)).trans ?_)) j).trans ((hLm (m_ + 1) (by omega) j (by omega)).trans (by rw [show nm - (m_ + 1) = nm - (m_ + 1) from rfl])), q_lg_le _ _ _ _ _ _⟩) ((congrFun (by repeat (first | exact rfl | refine (q_Ine (by omega)).trans ?_)) s1.1).trans (hLm m_ (by omega) s1.1 (by omega))) (q_lg_le _ _ _ _ _ _) (by rw [e1.1]; exact q_chs_lt (by omega) hlt)) rfl ?_
      refine xe_top (v' := nI (q_chs nm (2 ^ nd) (fun s => q_sb gu s nd) (fun m => q_cm (fi m) (hv m) nd) n m_)) (by rw [e1.1]; rfl) ?_
      refine xe_istore dX4_choose_42 (by decide) rfl ?_
      refine xe_aload_n dX4_choose_44 rfl ?_
      refine xe_getP dX4_choose_45 flX4_35 (st98 hs) (by decide) rfl (sp98_7 hs) ?_
      refine xe_iload dX4_choose_48 rfl ?_
      refine xe_iload dX4_choose_50 rfl ?_
      refine xn_iast dX4_choose_52 (st115 hs) (by omega) (by decide) ?_
      refine xe_aload_n dX4_choose_53 rfl ?_
      refine xe_dup dX4_choose_54 rfl ?_
      refine xe_getIv dX4_choose_55 flX4_71 (st98 hs) (by decide) rfl (v := nI s1.2.2.2) (rfl) ?_
      refine xe_aload_n dX4_choose_58 rfl ?_
      refine xe_getP dX4_choose_59 flX4_26 (st98 hs) (by decide) rfl (sp98_4 hs) ?_
      refine xe_iload dX4_choose_62 rfl ?_
      refine xn_ialdv dX4_choose_64 (st112 hs) (by omega) (by decide) (v := nI ((fun m => q_cm (fi m) (hv m) nd) m_ (q_chs nm (2 ^ nd) (fun s => q_sb gu s nd) (fun m => q_cm (fi m) (hv m) nd) n m_))) (hc_3 _ hch) ?_
      refine xn_iadd dX4_choose_65 ?_
      refine xe_putI dX4_choose_66 flX4_71 (st98 hs) (by decide) rfl (Or.inl rfl) rfl rfl ?_
      refine xe_iconst dX4_choose_69 kc_0 ?_
      refine xe_iload_n dX4_choose_70 rfl ?_
      refine xe_aload_n dX4_choose_71 rfl ?_
      refine xe_getP dX4_choose_72 flX4_26 (st98 hs) (by decide) rfl (sp98_4 hs) ?_
      refine xe_iload dX4_choose_75 rfl ?_
      refine xn_ialdv dX4_choose_77 (st112 hs) (by omega) (by decide) (v := nI ((fun m => q_cm (fi m) (hv m) nd) m_ (q_chs nm (2 ^ nd) (fun s => q_sb gu s nd) (fun m => q_cm (fi m) (hv m) nd) n m_))) (hc_3 _ hch) ?_
      have hcb := hcmb m_ hm_ (q_chs nm (2 ^ nd) (fun s => q_sb gu s nd) (fun m => q_cm (fi m) (hv m) nd) n m_)
      refine xe_isub dX4_choose_78 ?_
      refine xe_max dX4_choose_79 mlX4_77 q_mmax (by decide) (Nat.le_of_ble_eq_true rfl) ?_
      refine xe_top (v' := nI (s1.1 - (fun m => q_cm (fi m) (hv m) nd) m_ (q_chs nm (2 ^ nd) (fun s => q_sb gu s nd) (fun m => q_cm (fi m) (hv m) nd) n m_))) (q_max0 (by omega) (by omega)) ?_
      refine xe_istore_n (i := 3) dX4_choose_82 rfl (by decide) rfl ?_
      refine xn_iinc dX4_choose_83 rfl kc_1 ?_
      refine xe_goto (tgt := 10) dX4_choose_86 rfl ?_
      exact xe_fin (K1 (s1.1 - (fun m => q_cm (fi m) (hv m) nd) m_ (q_chs nm (2 ^ nd) (fun s => q_sb gu s nd) (fun m => q_cm (fi m) (hv m) nd) n m_), C3, upd s1.2.2.1 m_ (nI (q_chs nm (2 ^ nd) (fun s => q_sb gu s nd) (fun m => q_cm (fi m) (hv m) nd) n m_)), s1.2.2.2 + ((fun m => q_cm (fi m) (hv m) nd) m_ (q_chs nm (2 ^ nd) (fun s => q_sb gu s nd) (fun m => q_cm (fi m) (hv m) nd) n m_))) (⟨by rw [e1.1]; rfl, hc0_3, fun m q => q_updw (fun e => by subst e; rfl) (fun e => e1.2.2.1 m (by omega)), by rw [e1.2.2.2]; rfl⟩)) (And.intro rfl (And.intro rfl (And.intro rfl (And.intro rfl (And.intro rfl trivial))))) (q_heq [98, 112, 115] (H := h) (by repeat (first | exact q_out_r | refine q_out_w rfl ?_)) (by repeat (first | exact q_out_r | refine q_out_w rfl ?_)) (And.intro (q_feq [9] (f := q_I h 98) (by repeat (first | exact q_fout_r | refine q_fout_w rfl ?_)) (by repeat (first | exact q_fout_r | refine q_fout_w rfl ?_)) (And.intro rfl trivial)) (And.intro rfl (And.intro rfl trivial))))
  · refine xe_iload dX4_choose_10 rfl ?_
    refine xe_aload_n dX4_choose_12 rfl ?_
    refine xe_getIv dX4_choose_13 flX4_42 (st10 hs) (by decide) rfl (v := nI nm) (hm3) ?_
    refine xn_icmp_ge (tgt := 89) dX4_choose_16 rfl (by omega) (by omega) (fun c4 => ?_) (fun c4 => ?_)
    · refine xe_return dX4_choose_89 rfl ?_
      have ef := e1.2.2.2
      rw [ef]
      exact ⟨rfl, _, _, rfl, e1.2.1, e1.2.2.1⟩
    · omega
theorem c_X4_choose22 (l : Launch) (g : q_GP) (h : q_H) (hs : q_Stat h) {nm nd n : Nat} (hnm : nm ≤ 8) (hnd : nd ≤ 8) (hm3 : q_I h 22 3 = nI nm) (hd4 : q_I h 22 4 = nI nd) (hn1 : 1 ≤ n) (hn : n ≤ 400) {gu hv : Nat → Nat} {fi : Nat → Nat → Nat} (hfi : ∀ m, m < nm → ∀ d, d < nd → q_I h 99 (m * 8 + d) = nI (fi m d) ∧ fi m d ≤ 999) (hhv : ∀ m, m < nm → q_I h 100 m = nI (hv m) ∧ hv m < 2 ^ 30) (hgub : ∀ d, d < nd → gu d ≤ 99) (hz : q_I h 112 0 = nI 0) (hgs : ∀ s, s < 2 ^ nd → q_I h 111 s = nI ((fun s => q_sb gu s nd) s)) (hLm : ∀ m, m ≤ nm → ∀ k, k ≤ n → q_I h (102 + m) k = nI (q_lg nm (2 ^ nd) (fun s => q_sb gu s nd) (fun m => q_cm (fi m) (hv m) nd) (nm - m) k)) (hlt : q_lg nm (2 ^ nd) (fun s => q_sb gu s nd) (fun m => q_cm (fi m) (hv m) nd) nm n < 1000000) : q_Ct l g 2 mX4_choose [.ref 98, .ref 22, .int (nI n)] h (fun r h1 => r = none ∧ ∃ C A, h1 = q_wI (q_wI (q_wI h 98 (upd (q_I h 98) 9 (nI (q_qsum (fun m => (fun m => q_cm (fi m) (hv m) nd) m (q_chs nm (2 ^ nd) (fun s => q_sb gu s nd) (fun m => q_cm (fi m) (hv m) nd) n m)) nm)))) 112 C) 115 A ∧ C 0 = nI 0 ∧ ∀ m, m < nm → A m = nI (q_chs nm (2 ^ nd) (fun s => q_sb gu s nd) (fun m => q_cm (fi m) (hv m) nd) n m)) := by
  have hpw : 2 ^ nd ≤ 256 := q_pow_le hnd
  have hgsb : ∀ s, (fun s => q_sb gu s nd) s ≤ 99 * nd := fun s => q_sb_le nd hgub
  have hcmb : ∀ m, m < nm → ∀ s, (fun m => q_cm (fi m) (hv m) nd) m s < 2 ^ 30 := fun m hm s => Nat.lt_of_le_of_lt (q_cm_hv _ _ _ _) (hhv m hm).2
  refine q_CtV mvX4_choose (Nat.le_of_ble_eq_true rfl) ?_
  refine xe_iload_n dX4_choose_0 rfl ?_
  refine xe_istore_n (i := 3) dX4_choose_1 rfl (by decide) rfl ?_
  refine xe_aload_n dX4_choose_2 rfl ?_
  refine xe_iconst dX4_choose_3 kc_0 ?_
  refine xe_putI dX4_choose_4 flX4_71 (st98 hs) (by decide) rfl (Or.inl rfl) rfl rfl ?_
  refine xe_iconst dX4_choose_7 kc_0 ?_
  refine xe_istore dX4_choose_8 (by decide) rfl ?_
  refine xe_fin (L' := (fun (m_ : Nat) (s1 : Nat × (Nat → Int32) × (Nat → Int32) × Nat) => [(0, .ref 98), (1, .ref 22), (2, .int (nI n)), (3, .int (nI s1.1)), (4, .int (nI m_))]) 0 (n, q_I h 112, q_I h 115, 0)) (h' := (fun (m_ : Nat) (s1 : Nat × (Nat → Int32) × (Nat → Int32) × Nat) => (q_wI (q_wI (q_wI h 98 (upd (q_I h 98) 9 (nI s1.2.2.2))) 112 s1.2.1) 115 s1.2.2.1)) 0 (n, q_I h 112, q_I h 115, 0)) ?_ (And.intro rfl (And.intro rfl (And.intro rfl (And.intro rfl (And.intro rfl trivial))))) (q_heq [98, 112, 115] (H := h) (by repeat (first | exact q_out_r | refine q_out_w rfl ?_)) (by repeat (first | exact q_out_r | refine q_out_w rfl ?_)) (And.intro (q_feq [9] (f := q_I h 98) (by repeat (first | exact q_fout_r | refine q_fout_w rfl ?_)) (by repeat (first | exact q_fout_r | refine q_fout_w rfl ?_)) (And.intro rfl trivial)) (And.intro rfl (And.intro rfl trivial))))
  refine xe_loopI (σ := Nat × (Nat → Int32) × (Nat → Int32) × Nat) (nm) (fun i s => s.1 = q_lft nm (2 ^ nd) (fun s => q_sb gu s nd) (fun m => q_cm (fi m) (hv m) nd) n i ∧ s.2.1 0 = nI 0 ∧ (∀ m, m < i → s.2.2.1 m = nI (q_chs nm (2 ^ nd) (fun s => q_sb gu s nd) (fun m => q_cm (fi m) (hv m) nd) n m)) ∧ s.2.2.2 = q_qsum (fun m => (fun m => q_cm (fi m) (hv m) nd) m (q_chs nm (2 ^ nd) (fun s => q_sb gu s nd) (fun m => q_cm (fi m) (hv m) nd) n m)) i) (fun (m_ : Nat) (s1 : Nat × (Nat → Int32) × (Nat → Int32) × Nat) => [(0, .ref 98), (1, .ref 22), (2, .int (nI n)), (3, .int (nI s1.1)), (4, .int (nI m_))]) (fun (m_ : Nat) (s1 : Nat × (Nat → Int32) × (Nat → Int32) × Nat) => (q_wI (q_wI (q_wI h 98 (upd (q_I h 98) 9 (nI s1.2.2.2))) 112 s1.2.1) 115 s1.2.2.1)) (n, q_I h 112, q_I h 115, 0) (⟨rfl, hz, fun _ q => absurd q (Nat.not_lt_zero _), rfl⟩) (fun m_ hm_ s1 e1 K1 => ?_) (fun s1 e1 => ?_)
  · have hlf := q_lft_le nm (2 ^ nd) (fun s => q_sb gu s nd) (fun m => q_cm (fi m) (hv m) nd) n m_
    have hch := q_chs_lt (m := m_) hm_ hlt
    have hpw0 : 0 < 2 ^ nd := Nat.pow_pos (by decide)
    rw [← e1.1] at hlf
    refine xe_iload dX4_choose_10 rfl ?_
    refine xe_aload_n dX4_choose_12 rfl ?_
    refine xe_getIv dX4_choose_13 flX4_42 (st22 hs) (by decide) rfl (v := nI nm) (hm3) ?_
    refine xn_icmp_ge (tgt := 89) dX4_choose_16 rfl (by omega) (by omega) (fun c2 => ?_) (fun c2 => ?_)
    · omega
    · refine xe_aload_n dX4_choose_19 rfl ?_
      refine xe_iload dX4_choose_20 rfl ?_
      refine xe_aload_n dX4_choose_22 rfl ?_
      refine xe_getIv dX4_choose_23 flX4_49 (st22 hs) (by decide) rfl (v := nI nd) (hd4) ?_
      refine xe_callVVq (d' := 1) (y' := mX4_sumFines) dX4_choose_26 mlX4_52 mvX4_sumFines rfl (st98 hs) (by decide) rfl (by decide) (by decide) (Nat.le_of_ble_eq_true rfl) (c_X4_sumFines l g _ (by exact hs) (fi := fi m_) (m := m_) (nd := nd) (hv := hv m_) (by omega) hnd (by exact hfi _ (by omega)) (by exact (hhv _ (by omega)).1) (hhv _ (by omega)).2 (by exact e1.2.1)) rfl (fun h3 hq3 => ?_)
      obtain ⟨C3, rfl, hc0_3, hc_3⟩ := hq3
      refine xe_aload_n dX4_choose_29 rfl ?_
      refine xe_iload dX4_choose_30 rfl ?_
      refine xe_iload_n dX4_choose_32 rfl ?_
      refine xe_iconst dX4_choose_33 kc_1 ?_
      refine xe_aload_n dX4_choose_34 rfl ?_
      refine xe_getIv dX4_choose_35 flX4_49 (st22 hs) (by decide) rfl (v := nI nd) (hd4) ?_
      refine xe_ishl dX4_choose_38 ?_
      refine xe_top (v' := nI (2 ^ nd)) (q_pow_nm nd hnd) ?_
      refine xe_callVI (d' := 1) (y' := mX4_firstOfLeast) dX4_choose_39 mlX4_74 mvX4_firstOfLeast rfl (st98 hs) (by decide) rfl (by decide) (by decide) (Nat.le_of_ble_eq_true rfl) (c_X4_firstOfLeast l g _ (by exact hs) (m := m_) (k := s1.1) (K := 2 ^ nd) (lgm := q_lg nm (2 ^ nd) (fun s => q_sb gu s nd) (fun m => q_cm (fi m) (hv m) nd) (nm - m_) s1.1) (gs := (fun s => q_sb gu s nd)) (cm := (fun m => q_cm (fi m) (hv m) nd) m_) (lgf := q_lg nm (2 ^ nd) (fun s => q_sb gu s nd) (fun m => q_cm (fi m) (hv m) nd) (nm - (m_ + 1))) (by omega) (by omega) hpw (fun s hs9 => ⟨(congrFun (show q_I _ 111 = q_I h 111 from rfl) s).trans (hgs s hs9), Nat.le_trans (hgsb s) (by omega), hc_3 s hs9, hcmb _ (by omega) s⟩) (fun j hj => ⟨(congrFun (by repeat (first | exact rfl | refine (q_Ine (by omega)).trans ?_)) j).trans ((hLm (m_ + 1) (by omega) j (by omega)).trans (by rw [show nm - (m_ + 1) = nm - (m_ + 1) from rfl])), q_lg_le _ _ _ _ _ _⟩) ((congrFun (by repeat (first | exact rfl | refine (q_Ine (by omega)).trans ?_)) s1.1).trans (hLm m_ (by omega) s1.1 (by omega))) (q_lg_le _ _ _ _ _ _) (by rw [e1.1]; exact q_chs_lt (by omega) hlt)) rfl ?_
      refine xe_top (v' := nI (q_chs nm (2 ^ nd) (fun s => q_sb gu s nd) (fun m => q_cm (fi m) (hv m) nd) n m_)) (by rw [e1.1]; rfl) ?_
      refine xe_istore dX4_choose_42 (by decide) rfl ?_
      refine xe_aload_n dX4_choose_44 rfl ?_
      refine xe_getP dX4_choose_45 flX4_35 (st98 hs) (by decide) rfl (sp98_7 hs) ?_
      refine xe_iload dX4_choose_48 rfl ?_
      refine xe_iload dX4_choose_50 rfl ?_
      refine xn_iast dX4_choose_52 (st115 hs) (by omega) (by decide) ?_
      refine xe_aload_n dX4_choose_53 rfl ?_
      refine xe_dup dX4_choose_54 rfl ?_
      refine xe_getIv dX4_choose_55 flX4_71 (st98 hs) (by decide) rfl (v := nI s1.2.2.2) (rfl) ?_
      refine xe_aload_n dX4_choose_58 rfl ?_
      refine xe_getP dX4_choose_59 flX4_26 (st98 hs) (by decide) rfl (sp98_4 hs) ?_
      refine xe_iload dX4_choose_62 rfl ?_
      refine xn_ialdv dX4_choose_64 (st112 hs) (by omega) (by decide) (v := nI ((fun m => q_cm (fi m) (hv m) nd) m_ (q_chs nm (2 ^ nd) (fun s => q_sb gu s nd) (fun m => q_cm (fi m) (hv m) nd) n m_))) (hc_3 _ hch) ?_
      refine xn_iadd dX4_choose_65 ?_
      refine xe_putI dX4_choose_66 flX4_71 (st98 hs) (by decide) rfl (Or.inl rfl) rfl rfl ?_
      refine xe_iconst dX4_choose_69 kc_0 ?_
      refine xe_iload_n dX4_choose_70 rfl ?_
      refine xe_aload_n dX4_choose_71 rfl ?_
      refine xe_getP dX4_choose_72 flX4_26 (st98 hs) (by decide) rfl (sp98_4 hs) ?_
      refine xe_iload dX4_choose_75 rfl ?_
      refine xn_ialdv dX4_choose_77 (st112 hs) (by omega) (by decide) (v := nI ((fun m => q_cm (fi m) (hv m) nd) m_ (q_chs nm (2 ^ nd) (fun s => q_sb gu s nd) (fun m => q_cm (fi m) (hv m) nd) n m_))) (hc_3 _ hch) ?_
      have hcb := hcmb m_ hm_ (q_chs nm (2 ^ nd) (fun s => q_sb gu s nd) (fun m => q_cm (fi m) (hv m) nd) n m_)
      refine xe_isub dX4_choose_78 ?_
      refine xe_max dX4_choose_79 mlX4_77 q_mmax (by decide) (Nat.le_of_ble_eq_true rfl) ?_
      refine xe_top (v' := nI (s1.1 - (fun m => q_cm (fi m) (hv m) nd) m_ (q_chs nm (2 ^ nd) (fun s => q_sb gu s nd) (fun m => q_cm (fi m) (hv m) nd) n m_))) (q_max0 (by omega) (by omega)) ?_
      refine xe_istore_n (i := 3) dX4_choose_82 rfl (by decide) rfl ?_
      refine xn_iinc dX4_choose_83 rfl kc_1 ?_
      refine xe_goto (tgt := 10) dX4_choose_86 rfl ?_
      exact xe_fin (K1 (s1.1 - (fun m => q_cm (fi m) (hv m) nd) m_ (q_chs nm (2 ^ nd) (fun s => q_sb gu s nd) (fun m => q_cm (fi m) (hv m) nd) n m_), C3, upd s1.2.2.1 m_ (nI (q_chs nm (2 ^ nd) (fun s => q_sb gu s nd) (fun m => q_cm (fi m) (hv m) nd) n m_)), s1.2.2.2 + ((fun m => q_cm (fi m) (hv m) nd) m_ (q_chs nm (2 ^ nd) (fun s => q_sb gu s nd) (fun m => q_cm (fi m) (hv m) nd) n m_))) (⟨by rw [e1.1]; rfl, hc0_3, fun m q => q_updw (fun e => by subst e; rfl) (fun e => e1.2.2.1 m (by omega)), by rw [e1.2.2.2]; rfl⟩)) (And.intro rfl (And.intro rfl (And.intro rfl (And.intro rfl (And.intro rfl trivial))))) (q_heq [98, 112, 115] (H := h) (by repeat (first | exact q_out_r | refine q_out_w rfl ?_)) (by repeat (first | exact q_out_r | refine q_out_w rfl ?_)) (And.intro (q_feq [9] (f := q_I h 98) (by repeat (first | exact q_fout_r | refine q_fout_w rfl ?_)) (by repeat (first | exact q_fout_r | refine q_fout_w rfl ?_)) (And.intro rfl trivial)) (And.intro rfl (And.intro rfl trivial))))
  · refine xe_iload dX4_choose_10 rfl ?_
    refine xe_aload_n dX4_choose_12 rfl ?_
    refine xe_getIv dX4_choose_13 flX4_42 (st22 hs) (by decide) rfl (v := nI nm) (hm3) ?_
    refine xn_icmp_ge (tgt := 89) dX4_choose_16 rfl (by omega) (by omega) (fun c4 => ?_) (fun c4 => ?_)
    · refine xe_return dX4_choose_89 rfl ?_
      have ef := e1.2.2.2
      rw [ef]
      exact ⟨rfl, _, _, rfl, e1.2.1, e1.2.2.1⟩
    · omega
theorem c_X4_sew10 (l : Launch) (g : q_GP) (h : q_H) (hs : q_Stat h) {nm nd n : Nat} (hnm : nm ≤ 8) (hnd : nd ≤ 8) (hm3 : q_I h 10 3 = nI nm) (hd4 : q_I h 10 4 = nI nd) (hn1 : 1 ≤ n) (hn : n ≤ 400) {gu hv : Nat → Nat} {fi : Nat → Nat → Nat} (hfi : ∀ m, m < nm → ∀ d, d < nd → q_I h 99 (m * 8 + d) = nI (fi m d) ∧ fi m d ≤ 999) (hhv : ∀ m, m < nm → q_I h 100 m = nI (hv m) ∧ hv m < 2 ^ 30) (hgub : ∀ d, d < nd → gu d ≤ 99) (hz : q_I h 112 0 = nI 0) (hgu : ∀ d, d < nd → q_I h 14 d = nI (gu d)) (hz1 : q_I h 111 0 = nI 0) : q_Ct l g 3 mX4_sew [.ref 98, .ref 10, .int (nI n)] h (fun r h1 => q_kag2 h h1 ∧ ((q_lg nm (2 ^ nd) (fun s => q_sb gu s nd) (fun m => q_cm (fi m) (hv m) nd) nm n < 1000000 ∧ r = some (.int (nI 1)) ∧ q_I h1 98 8 = nI (q_lg nm (2 ^ nd) (fun s => q_sb gu s nd) (fun m => q_cm (fi m) (hv m) nd) nm n) ∧ q_I h1 98 9 = nI (q_qsum (fun m => (fun m => q_cm (fi m) (hv m) nd) m (q_chs nm (2 ^ nd) (fun s => q_sb gu s nd) (fun m => q_cm (fi m) (hv m) nd) n m)) nm) ∧ ∀ m, m < nm → q_I h1 115 m = nI (q_chs nm (2 ^ nd) (fun s => q_sb gu s nd) (fun m => q_cm (fi m) (hv m) nd) n m)) ∨ (¬ q_lg nm (2 ^ nd) (fun s => q_sb gu s nd) (fun m => q_cm (fi m) (hv m) nd) nm n < 1000000 ∧ r = some (.int (nI 0))))) := by
  have hpw : 2 ^ nd ≤ 256 := q_pow_le hnd
  have hgsb : ∀ s, (fun s => q_sb gu s nd) s ≤ 99 * nd := fun s => q_sb_le nd hgub
  have hcmb : ∀ m, m < nm → ∀ s, (fun m => q_cm (fi m) (hv m) nd) m s < 2 ^ 30 := fun m hm s => Nat.lt_of_le_of_lt (q_cm_hv _ _ _ _) (hhv m hm).2
  refine q_CtV mvX4_sew (Nat.le_of_ble_eq_true rfl) ?_
  refine xe_aload_n dX4_sew_0 rfl ?_
  refine xe_aload_n dX4_sew_1 rfl ?_
  refine xe_callVVq (d' := 0) (y' := mX4_sumGuilt) dX4_sew_2 mlX4_38 mvX4_sumGuilt rfl (st98 hs) (by decide) rfl (by decide) (by decide) (Nat.le_of_ble_eq_true rfl) (c_X4_sumGuilt10 l g _ (by exact hs) hnd (by exact hd4) (fun d hd => by exact hgu d hd) hz1) rfl (fun hX1 hqX1 => ?_)
  obtain ⟨CG, rfl, hcg0, hgs⟩ := hqX1
  refine xe_iconst dX4_sew_5 kc_0 ?_
  refine xe_istore_n (i := 3) dX4_sew_6 rfl (by decide) rfl ?_
  refine xe_fin (L' := (fun (i_ : Nat) (s1 : (Nat → Nat → Int32)) => [(0, .ref 98), (1, .ref 10), (2, .int (nI n)), (3, .int (nI i_))]) 0 (fun j => q_I h (102 + j))) (h' := (fun (i_ : Nat) (s1 : (Nat → Nat → Int32)) => (q_wL (q_wI h 111 CG) s1)) 0 (fun j => q_I h (102 + j))) ?_ (And.intro rfl (And.intro rfl (And.intro rfl (And.intro rfl trivial)))) (q_heq [102, 103, 104, 105, 106, 107, 108, 109, 110, 111] (H := h) (by repeat (first | exact q_out_r | refine q_out_w rfl ?_ | refine q_out_l rfl ?_)) (by repeat (first | exact q_out_r | refine q_out_w rfl ?_ | refine q_out_l rfl ?_)) (And.intro rfl (And.intro rfl (And.intro rfl (And.intro rfl (And.intro rfl (And.intro rfl (And.intro rfl (And.intro rfl (And.intro rfl (And.intro rfl trivial)))))))))))
  refine xe_loopI (σ := (Nat → Nat → Int32)) (n + 1) (fun i L => ∀ k, k < i → L nm k = nI (q_lg nm (2 ^ nd) (fun s => q_sb gu s nd) (fun m => q_cm (fi m) (hv m) nd) 0 k)) (fun (i_ : Nat) (s1 : (Nat → Nat → Int32)) => [(0, .ref 98), (1, .ref 10), (2, .int (nI n)), (3, .int (nI i_))]) (fun (i_ : Nat) (s1 : (Nat → Nat → Int32)) => (q_wL (q_wI h 111 CG) s1)) (fun j => q_I h (102 + j)) (fun _ q => absurd q (Nat.not_lt_zero _)) (fun i_ hi_ s1 e1 K1 => ?_) (fun s1 e1 => ?_)
  · refine xe_iload_n dX4_sew_7 rfl ?_
    refine xe_iload_n dX4_sew_8 rfl ?_
    refine xn_icmp_gt (tgt := 39) dX4_sew_9 rfl (by omega) (by omega) (fun c2 => ?_) (fun c2 => ?_)
    · omega
    · refine xe_aload_n dX4_sew_12 rfl ?_
      refine xe_getP dX4_sew_13 flX4_20 (st98 hs) (by decide) rfl (sp98_2 hs) ?_
      refine xe_aload_n dX4_sew_16 rfl ?_
      refine xe_getIv dX4_sew_17 flX4_42 (st10 hs) (by decide) rfl (v := nI nm) (hm3) ?_
      refine xe_aaldI dX4_sew_20 (st101 hs) (vp_in_nI (by omega) (by decide)) (spL hs (j := nm) (by omega)) ?_
      refine xe_iload_n dX4_sew_21 rfl ?_
      refine xe_iload_n dX4_sew_22 rfl ?_
      refine xn_if_ne (tgt := 30) dX4_sew_23 rfl (by omega) (fun c3 => ?_) (fun c3 => ?_)
      · refine xe_ldc dX4_sew_30 coX4_48 ?_
        refine xe_top (v' := nI 1000000) (by decide +kernel) ?_
        refine xn_iast dX4_sew_32 (stL hs (by omega)) (by omega) (by decide) ?_
        refine xe_heap (h2 := (q_wL (q_wI h 111 CG) (fun z => if z = nm then upd (s1 nm) i_ (nI 1000000) else s1 z))) (q_wL_st (by omega) _ _) ?_
        refine xn_iinc dX4_sew_33 rfl kc_1 ?_
        refine xe_goto (tgt := 7) dX4_sew_36 rfl ?_
        exact xe_fin (K1 (fun z => if z = nm then upd (s1 nm) i_ (nI 1000000) else s1 z) (fun k q => (congrFun (if_pos (rfl : nm = nm)) k).trans (q_updw (fun e => by have q2 : k = i_ := (by omega); subst q2; exact congrArg nI (if_neg c3).symm) (fun e => e1 k (by omega))))) (And.intro rfl (And.intro rfl (And.intro rfl (And.intro rfl trivial)))) (q_heq [102, 103, 104, 105, 106, 107, 108, 109, 110, 111] (H := h) (by repeat (first | exact q_out_r | refine q_out_w rfl ?_ | refine q_out_l rfl ?_)) (by repeat (first | exact q_out_r | refine q_out_w rfl ?_ | refine q_out_l rfl ?_)) (And.intro rfl (And.intro rfl (And.intro rfl (And.intro rfl (And.intro rfl (And.intro rfl (And.intro rfl (And.intro rfl (And.intro rfl (And.intro rfl trivial)))))))))))
      · refine xe_iconst dX4_sew_26 kc_0 ?_
        refine xe_goto (tgt := 32) dX4_sew_27 rfl ?_
        refine xn_iast dX4_sew_32 (stL hs (by omega)) (by omega) (by decide) ?_
        refine xe_heap (h2 := (q_wL (q_wI h 111 CG) (fun z => if z = nm then upd (s1 nm) i_ (nI 0) else s1 z))) (q_wL_st (by omega) _ _) ?_
        refine xn_iinc dX4_sew_33 rfl kc_1 ?_
        refine xe_goto (tgt := 7) dX4_sew_36 rfl ?_
        exact xe_fin (K1 (fun z => if z = nm then upd (s1 nm) i_ (nI 0) else s1 z) (fun k q => (congrFun (if_pos (rfl : nm = nm)) k).trans (q_updw (fun e => by have q2 : k = i_ := (by omega); subst q2; exact congrArg nI (if_pos c3).symm) (fun e => e1 k (by omega))))) (And.intro rfl (And.intro rfl (And.intro rfl (And.intro rfl trivial)))) (q_heq [102, 103, 104, 105, 106, 107, 108, 109, 110, 111] (H := h) (by repeat (first | exact q_out_r | refine q_out_w rfl ?_ | refine q_out_l rfl ?_)) (by repeat (first | exact q_out_r | refine q_out_w rfl ?_ | refine q_out_l rfl ?_)) (And.intro rfl (And.intro rfl (And.intro rfl (And.intro rfl (And.intro rfl (And.intro rfl (And.intro rfl (And.intro rfl (And.intro rfl (And.intro rfl trivial)))))))))))
  · refine xe_iload_n dX4_sew_7 rfl ?_
    refine xe_iload_n dX4_sew_8 rfl ?_
    refine xn_icmp_gt (tgt := 39) dX4_sew_9 rfl (by omega) (by omega) (fun c4 => ?_) (fun c4 => ?_)
    · refine xe_aload_n dX4_sew_39 rfl ?_
      refine xe_getIv dX4_sew_40 flX4_42 (st10 hs) (by decide) rfl (v := nI nm) (hm3) ?_
      refine xe_iconst dX4_sew_43 kc_1 ?_
      refine xe_isub dX4_sew_44 ?_
      refine xe_istore_n (i := 3) dX4_sew_45 rfl (by decide) rfl ?_
      refine xe_fin (L' := (fun (i_m : Nat) (s5 : (Nat → Int32) × (Nat → Int32) × (Nat → Int32) × (Nat → Nat → Int32)) => [(0, .ref 98), (1, .ref 10), (2, .int (nI n)), (3, .int (nI (nm - i_m) - nI 1))]) 0 (q_I h 112, q_I h 113, q_I h 114, s1)) (h' := (fun (i_m : Nat) (s5 : (Nat → Int32) × (Nat → Int32) × (Nat → Int32) × (Nat → Nat → Int32)) => (q_wL (q_wI (q_wI (q_wI (q_wI h 111 CG) 112 s5.1) 113 s5.2.1) 114 s5.2.2.1) s5.2.2.2)) 0 (q_I h 112, q_I h 113, q_I h 114, s1)) ?_ (And.intro rfl (And.intro rfl (And.intro rfl (And.intro rfl trivial)))) (q_heq [102, 103, 104, 105, 106, 107, 108, 109, 110, 111, 112, 113, 114] (H := h) (by repeat (first | exact q_out_r | refine q_out_w rfl ?_ | refine q_out_l rfl ?_)) (by repeat (first | exact q_out_r | refine q_out_w rfl ?_ | refine q_out_l rfl ?_)) (And.intro rfl (And.intro rfl (And.intro rfl (And.intro rfl (And.intro rfl (And.intro rfl (And.intro rfl (And.intro rfl (And.intro rfl (And.intro rfl (And.intro rfl (And.intro rfl (And.intro rfl trivial))))))))))))))
      refine xe_loopI (σ := (Nat → Int32) × (Nat → Int32) × (Nat → Int32) × (Nat → Nat → Int32)) (nm) (fun i s => s.1 0 = nI 0 ∧ ∀ j, j ≤ i → ∀ k, k ≤ n → s.2.2.2 (nm - j) k = nI (q_lg nm (2 ^ nd) (fun s => q_sb gu s nd) (fun m => q_cm (fi m) (hv m) nd) j k)) (fun (i_m : Nat) (s5 : (Nat → Int32) × (Nat → Int32) × (Nat → Int32) × (Nat → Nat → Int32)) => [(0, .ref 98), (1, .ref 10), (2, .int (nI n)), (3, .int (nI (nm - i_m) - nI 1))]) (fun (i_m : Nat) (s5 : (Nat → Int32) × (Nat → Int32) × (Nat → Int32) × (Nat → Nat → Int32)) => (q_wL (q_wI (q_wI (q_wI (q_wI h 111 CG) 112 s5.1) 113 s5.2.1) 114 s5.2.2.1) s5.2.2.2)) (q_I h 112, q_I h 113, q_I h 114, s1) (⟨hz, fun j hj k hk => by obtain rfl : j = 0 := Nat.le_zero.mp hj; exact e1 k (by omega)⟩) (fun i_m hi_m s5 e5 K5 => ?_) (fun s5 e5 => ?_)
      · refine xe_locals (L' := [(0, .ref 98), (1, .ref 10), (2, .int (nI n)), (3, .int (nI (nm - 1 - i_m)))]) (And.intro rfl (And.intro rfl (And.intro rfl (And.intro (congrArg (fun v => some (Value.int v)) ((pk_sub (by omega)).trans (congrArg nI (by omega)))) trivial)))) ?_
        refine xe_iload_n dX4_sew_46 rfl ?_
        refine xn_if_lt (tgt := 111) dX4_sew_47 rfl (by omega) ?_
        refine xe_aload_n dX4_sew_50 rfl ?_
        refine xe_iload_n dX4_sew_51 rfl ?_
        refine xe_aload_n dX4_sew_52 rfl ?_
        refine xe_getIv dX4_sew_53 flX4_49 (st10 hs) (by decide) rfl (v := nI nd) (hd4) ?_
        refine xe_callVVq (d' := 1) (y' := mX4_sumFines) dX4_sew_56 mlX4_52 mvX4_sumFines rfl (st98 hs) (by decide) rfl (by decide) (by decide) (Nat.le_of_ble_eq_true rfl) (c_X4_sumFines l g _ (by exact hs) (fi := fi (nm - 1 - i_m)) (m := nm - 1 - i_m) (nd := nd) (hv := hv (nm - 1 - i_m)) (by omega) hnd (by exact hfi _ (by omega)) (by exact (hhv _ (by omega)).1) (hhv _ (by omega)).2 (by exact e5.1)) rfl (fun h7 hq7 => ?_)
        obtain ⟨C7, rfl, hc0_7, hc_7⟩ := hq7
        refine xe_aload_n dX4_sew_59 rfl ?_
        refine xe_iload_n dX4_sew_60 rfl ?_
        refine xe_iconst dX4_sew_61 kc_1 ?_
        refine xe_aload_n dX4_sew_62 rfl ?_
        refine xe_getIv dX4_sew_63 flX4_49 (st10 hs) (by decide) rfl (v := nI nd) (hd4) ?_
        refine xe_ishl dX4_sew_66 ?_
        refine xe_top (v' := nI (2 ^ nd)) (q_pow_nm nd hnd) ?_
        refine xe_callVIn (d' := 1) (y' := mX4_gatherOffers) dX4_sew_67 mlX4_56 mvX4_gatherOffers rfl (st98 hs) (by decide) rfl (by decide) (by decide) (Nat.le_of_ble_eq_true rfl) (c_X4_gatherQ l g _ (by exact hs) (n := n) (K := 2 ^ nd) hn1 hn hpw (gs := (fun s => q_sb gu s nd)) (cm := (fun m => q_cm (fi m) (hv m) nd) (nm - 1 - i_m)) (fun s hs9 => ⟨(congrFun (show q_I _ 111 = CG from rfl) s).trans (hgs s hs9), Nat.le_trans (hgsb s) (by omega), hc_7 s hs9, hcmb _ (by omega) s⟩)) rfl (fun rv8 h8 hq8 => ?_)
        obtain ⟨M8, oc8, ob8, OC8, OG8, rfl, hM1_8, hoff_8, hO_8, rfl⟩ := hq8
        refine xe_istore dX4_sew_70 (by decide) rfl ?_
        refine xe_iconst dX4_sew_72 kc_0 ?_
        refine xe_istore dX4_sew_73 (by decide) rfl ?_
        refine xe_fin (L' := (fun (k_ : Nat) (s9 : (Nat → Nat → Int32)) => [(0, .ref 98), (1, .ref 10), (2, .int (nI n)), (3, .int (nI (nm - 1 - i_m))), (4, .int (nI M8)), (5, .int (nI k_))]) 0 s5.2.2.2) (h' := (fun (k_ : Nat) (s9 : (Nat → Nat → Int32)) => (q_wL (q_wI (q_wI (q_wI (q_wI h 111 CG) 112 C7) 113 OC8) 114 OG8) s9)) 0 s5.2.2.2) ?_ (And.intro rfl (And.intro rfl (And.intro rfl (And.intro rfl (And.intro rfl (And.intro rfl trivial)))))) (q_heq [102, 103, 104, 105, 106, 107, 108, 109, 110, 111, 112, 113, 114] (H := h) (by repeat (first | exact q_out_r | refine q_out_w rfl ?_ | refine q_out_l rfl ?_)) (by repeat (first | exact q_out_r | refine q_out_w rfl ?_ | refine q_out_l rfl ?_)) (And.intro rfl (And.intro rfl (And.intro rfl (And.intro rfl (And.intro rfl (And.intro rfl (And.intro rfl (And.intro rfl (And.intro rfl (And.intro rfl (And.intro rfl (And.intro rfl (And.intro rfl trivial))))))))))))))
        refine xe_loopI (σ := (Nat → Nat → Int32)) (n + 1) (fun i L => (∀ j, j ≤ i_m → ∀ k, k ≤ n → L (nm - j) k = nI (q_lg nm (2 ^ nd) (fun s => q_sb gu s nd) (fun m => q_cm (fi m) (hv m) nd) j k)) ∧ ∀ k, k < i → L (nm - 1 - i_m) k = nI (q_lg nm (2 ^ nd) (fun s => q_sb gu s nd) (fun m => q_cm (fi m) (hv m) nd) (i_m + 1) k)) (fun (k_ : Nat) (s9 : (Nat → Nat → Int32)) => [(0, .ref 98), (1, .ref 10), (2, .int (nI n)), (3, .int (nI (nm - 1 - i_m))), (4, .int (nI M8)), (5, .int (nI k_))]) (fun (k_ : Nat) (s9 : (Nat → Nat → Int32)) => (q_wL (q_wI (q_wI (q_wI (q_wI h 111 CG) 112 C7) 113 OC8) 114 OG8) s9)) s5.2.2.2 (⟨e5.2, fun _ q => absurd q (Nat.not_lt_zero _)⟩) (fun k_ hk_ s9 e9 K9 => ?_) (fun s9 e9 => ?_)
        · refine xe_iload dX4_sew_75 rfl ?_
          refine xe_iload_n dX4_sew_77 rfl ?_
          refine xn_icmp_gt (tgt := 105) dX4_sew_78 rfl (by omega) (by omega) (fun c10 => ?_) (fun c10 => ?_)
          · omega
          · refine xe_aload_n dX4_sew_81 rfl ?_
            refine xe_getP dX4_sew_82 flX4_20 (st98 hs) (by decide) rfl (sp98_2 hs) ?_
            refine xe_iload_n dX4_sew_85 rfl ?_
            refine xe_aaldI dX4_sew_86 (st101 hs) (vp_in_nI (by omega) (by decide)) (spL hs (j := nm - 1 - i_m) (by omega)) ?_
            refine xe_iload dX4_sew_87 rfl ?_
            refine xe_aload_n dX4_sew_89 rfl ?_
            refine xe_iload_n dX4_sew_90 rfl ?_
            refine xe_iload dX4_sew_91 rfl ?_
            refine xe_iload dX4_sew_93 rfl ?_
            refine xe_callVI (d' := 1) (y' := mX4_leastGuilt) dX4_sew_95 mlX4_60 mvX4_leastGuilt rfl (st98 hs) (by decide) rfl (by decide) (by decide) (Nat.le_of_ble_eq_true rfl) (c_X4_leastGuilt l g _ (by exact hs) (m := (nm - 1 - i_m)) (k := k_) (M := M8) (ob := ob8) (oc := oc8) (lgf := q_lg nm (2 ^ nd) (fun s => q_sb gu s nd) (fun m => q_cm (fi m) (hv m) nd) i_m) (by omega) (by omega) (by omega) (fun i hi => ⟨(hO_8 i hi).1, by have := (hoff_8.1 i hi).1; omega, (hO_8 i hi).2, (hoff_8.1 i hi).2.1⟩) (fun j hj => ⟨(congrFun (q_wL_at (by omega)) j).trans (by rw [show (nm - 1 - i_m) + 1 = nm - i_m by omega]; exact e9.1 i_m (Nat.le_refl _) j (by omega)), q_lg_le _ _ _ _ _ _⟩)) rfl ?_
            refine xe_top (v' := nI (q_lg nm (2 ^ nd) (fun s => q_sb gu s nd) (fun m => q_cm (fi m) (hv m) nd) (i_m + 1) k_)) (congrArg nI ((q_off_mn hoff_8 (by omega) (q_lg_up nm (2 ^ nd) (fun s => q_sb gu s nd) (fun m => q_cm (fi m) (hv m) nd) i_m)).trans (by show _ = q_mn (fun s => (fun s => q_sb gu s nd) s + q_lg nm (2 ^ nd) (fun s => q_sb gu s nd) (fun m => q_cm (fi m) (hv m) nd) i_m (k_ - (fun m => q_cm (fi m) (hv m) nd) (nm - 1 - i_m) s)) (2 ^ nd); rfl))) ?_
            refine xn_iast dX4_sew_98 (stL hs (by omega)) (by omega) (by decide) ?_
            refine xe_heap (h2 := (q_wL (q_wI (q_wI (q_wI (q_wI h 111 CG) 112 C7) 113 OC8) 114 OG8) (fun z => if z = nm - 1 - i_m then upd (s9 (nm - 1 - i_m)) k_ (nI (q_lg nm (2 ^ nd) (fun s => q_sb gu s nd) (fun m => q_cm (fi m) (hv m) nd) (i_m + 1) k_)) else s9 z))) (q_wL_st (by omega) _ _) ?_
            refine xn_iinc dX4_sew_99 rfl kc_1 ?_
            refine xe_goto (tgt := 75) dX4_sew_102 rfl ?_
            exact xe_fin (K9 (fun z => if z = nm - 1 - i_m then upd (s9 (nm - 1 - i_m)) k_ (nI (q_lg nm (2 ^ nd) (fun s => q_sb gu s nd) (fun m => q_cm (fi m) (hv m) nd) (i_m + 1) k_)) else s9 z) (⟨fun j hj k hk => (congrFun (if_neg (show ¬ nm - j = nm - 1 - i_m by omega)) k).trans (e9.1 j hj k hk), fun k q => (congrFun (if_pos (rfl : nm - 1 - i_m = nm - 1 - i_m)) k).trans (q_updw (fun e => by rw [e]) (fun e => e9.2 k (by omega)))⟩)) (And.intro rfl (And.intro rfl (And.intro rfl (And.intro rfl (And.intro rfl (And.intro rfl trivial)))))) (q_heq [102, 103, 104, 105, 106, 107, 108, 109, 110, 111, 112, 113, 114] (H := h) (by repeat (first | exact q_out_r | refine q_out_w rfl ?_ | refine q_out_l rfl ?_)) (by repeat (first | exact q_out_r | refine q_out_w rfl ?_ | refine q_out_l rfl ?_)) (And.intro rfl (And.intro rfl (And.intro rfl (And.intro rfl (And.intro rfl (And.intro rfl (And.intro rfl (And.intro rfl (And.intro rfl (And.intro rfl (And.intro rfl (And.intro rfl (And.intro rfl trivial))))))))))))))
        · refine xe_iload dX4_sew_75 rfl ?_
          refine xe_iload_n dX4_sew_77 rfl ?_
          refine xn_icmp_gt (tgt := 105) dX4_sew_78 rfl (by omega) (by omega) (fun c11 => ?_) (fun c11 => ?_)
          · refine xe_iinc dX4_sew_105 rfl (v := (nI (nm - (i_m + 1)) - nI 1)) (by rw [show nm - (i_m + 1) = nm - 1 - i_m by omega]; exact q_decm _) ?_
            refine xe_goto (tgt := 46) dX4_sew_108 rfl ?_
            exact xe_fin (K5 (C7, OC8, OG8, s9) (⟨hc0_7, fun j hj k hk => if e : j ≤ i_m then e9.1 j e k hk else by have q2 : j = i_m + 1 := (by omega); subst q2; rw [show nm - (i_m + 1) = nm - 1 - i_m by omega]; exact e9.2 k (by omega)⟩)) (And.intro rfl (And.intro rfl (And.intro rfl (And.intro rfl trivial)))) (q_heq [102, 103, 104, 105, 106, 107, 108, 109, 110, 111, 112, 113, 114] (H := h) (by repeat (first | exact q_out_r | refine q_out_w rfl ?_ | refine q_out_l rfl ?_)) (by repeat (first | exact q_out_r | refine q_out_w rfl ?_ | refine q_out_l rfl ?_)) (And.intro rfl (And.intro rfl (And.intro rfl (And.intro rfl (And.intro rfl (And.intro rfl (And.intro rfl (And.intro rfl (And.intro rfl (And.intro rfl (And.intro rfl (And.intro rfl (And.intro rfl trivial))))))))))))))
          · omega
      · refine xe_iload_n dX4_sew_46 rfl ?_
        refine xe_if_lt (tgt := 111) dX4_sew_47 rfl (fun c12 => ?_) (fun c12 => ?_)
        · refine xe_aload_n dX4_sew_111 rfl ?_
          refine xe_aload_n dX4_sew_112 rfl ?_
          refine xe_getP dX4_sew_113 flX4_20 (st98 hs) (by decide) rfl (sp98_2 hs) ?_
          refine xe_iconst dX4_sew_116 kc_0 ?_
          refine xe_aaldI dX4_sew_117 (st101 hs) (vp_in_nI (by omega) (by decide)) (spL hs (j := 0) (by omega)) ?_
          refine xe_iload_n dX4_sew_118 rfl ?_
          refine xn_ialdv dX4_sew_119 (stL hs (by decide)) (by omega) (by decide) (v := nI (q_lg nm (2 ^ nd) (fun s => q_sb gu s nd) (fun m => q_cm (fi m) (hv m) nd) nm n)) ((congrFun (q_wL_at (j := 0) (by decide)) n).trans (by have q := e5.2 nm (Nat.le_refl _) n (Nat.le_refl _); rw [Nat.sub_self] at q; exact q)) ?_
          refine xe_putI dX4_sew_120 flX4_64 (st98 hs) (by decide) rfl (Or.inl rfl) rfl rfl ?_
          refine xe_aload_n dX4_sew_123 rfl ?_
          refine xe_getIv dX4_sew_124 flX4_64 (st98 hs) (by decide) rfl (v := nI (q_lg nm (2 ^ nd) (fun s => q_sb gu s nd) (fun m => q_cm (fi m) (hv m) nd) nm n)) (rfl) ?_
          refine xe_ldc dX4_sew_127 coX4_48 ?_
          refine xe_top (v' := nI 1000000) (by decide +kernel) ?_
          have b4_ := q_lg_le nm (2 ^ nd) (fun s => q_sb gu s nd) (fun m => q_cm (fi m) (hv m) nd) nm n
          refine xn_icmp_lt (tgt := 134) dX4_sew_129 rfl (by omega) (by omega) (fun c_lt => ?_) (fun c_lt => ?_)
          · refine xe_aload_n dX4_sew_134 rfl ?_
            refine xe_aload_n dX4_sew_135 rfl ?_
            refine xe_iload_n dX4_sew_136 rfl ?_
            refine xe_callVVq (d' := 2) (y' := mX4_choose) dX4_sew_137 mlX4_67 mvX4_choose rfl (st98 hs) (by decide) rfl (by decide) (by decide) (Nat.le_of_ble_eq_true rfl) (c_X4_choose10 l g _ (by exact hs) hnm hnd (by exact hm3) (by exact hd4) hn1 hn (gu := gu) (hv := hv) (fi := fi) (fun m hm d hd => by exact hfi m hm d hd) (fun m hm => by exact hhv m hm) hgub (by exact e5.1) (fun s hs9 => by exact hgs s hs9) (fun m hm k hk => (congrFun ((q_Ine (by omega)).trans (q_wL_at (by omega))) k).trans (by have q := e5.2 (nm - m) (by omega) k hk; rwa [show nm - (nm - m) = m by omega] at q)) c_lt) rfl (fun hX2 hqX2 => ?_)
            obtain ⟨CC, AA, rfl, hC0, hA⟩ := hqX2
            refine xe_iconst dX4_sew_140 kc_1 ?_
            refine xe_ireturn dX4_sew_141 rfl (by first | rfl | decide +kernel) ?_
            exact ⟨⟨by repeat (first | exact q_out_r | refine q_out_w rfl ?_ | refine q_out_l rfl ?_), hcg0.trans hz1.symm, hC0.trans hz.symm, rfl, rfl⟩, Or.inl ⟨c_lt, rfl, rfl, rfl, hA⟩⟩
          · refine xe_iconst dX4_sew_132 kc_0 ?_
            refine xe_ireturn dX4_sew_133 rfl (by first | rfl | decide +kernel) ?_
            exact ⟨⟨by repeat (first | exact q_out_r | refine q_out_w rfl ?_ | refine q_out_l rfl ?_), hcg0.trans hz1.symm, e5.1.trans hz.symm, rfl, rfl⟩, Or.inr ⟨c_lt, rfl⟩⟩
        · exact absurd (by rw [Nat.sub_self]; decide) c12
    · omega
theorem c_X4_sew22 (l : Launch) (g : q_GP) (h : q_H) (hs : q_Stat h) {nm nd n : Nat} (hnm : nm ≤ 8) (hnd : nd ≤ 8) (hm3 : q_I h 22 3 = nI nm) (hd4 : q_I h 22 4 = nI nd) (hn1 : 1 ≤ n) (hn : n ≤ 400) {gu hv : Nat → Nat} {fi : Nat → Nat → Nat} (hfi : ∀ m, m < nm → ∀ d, d < nd → q_I h 99 (m * 8 + d) = nI (fi m d) ∧ fi m d ≤ 999) (hhv : ∀ m, m < nm → q_I h 100 m = nI (hv m) ∧ hv m < 2 ^ 30) (hgub : ∀ d, d < nd → gu d ≤ 99) (hz : q_I h 112 0 = nI 0) (hgu : ∀ d, d < nd → q_I h 26 d = nI (gu d)) (hz1 : q_I h 111 0 = nI 0) : q_Ct l g 3 mX4_sew [.ref 98, .ref 22, .int (nI n)] h (fun r h1 => q_kag2 h h1 ∧ ((q_lg nm (2 ^ nd) (fun s => q_sb gu s nd) (fun m => q_cm (fi m) (hv m) nd) nm n < 1000000 ∧ r = some (.int (nI 1)) ∧ q_I h1 98 8 = nI (q_lg nm (2 ^ nd) (fun s => q_sb gu s nd) (fun m => q_cm (fi m) (hv m) nd) nm n) ∧ q_I h1 98 9 = nI (q_qsum (fun m => (fun m => q_cm (fi m) (hv m) nd) m (q_chs nm (2 ^ nd) (fun s => q_sb gu s nd) (fun m => q_cm (fi m) (hv m) nd) n m)) nm) ∧ ∀ m, m < nm → q_I h1 115 m = nI (q_chs nm (2 ^ nd) (fun s => q_sb gu s nd) (fun m => q_cm (fi m) (hv m) nd) n m)) ∨ (¬ q_lg nm (2 ^ nd) (fun s => q_sb gu s nd) (fun m => q_cm (fi m) (hv m) nd) nm n < 1000000 ∧ r = some (.int (nI 0))))) := by
  have hpw : 2 ^ nd ≤ 256 := q_pow_le hnd
  have hgsb : ∀ s, (fun s => q_sb gu s nd) s ≤ 99 * nd := fun s => q_sb_le nd hgub
  have hcmb : ∀ m, m < nm → ∀ s, (fun m => q_cm (fi m) (hv m) nd) m s < 2 ^ 30 := fun m hm s => Nat.lt_of_le_of_lt (q_cm_hv _ _ _ _) (hhv m hm).2
  refine q_CtV mvX4_sew (Nat.le_of_ble_eq_true rfl) ?_
  refine xe_aload_n dX4_sew_0 rfl ?_
  refine xe_aload_n dX4_sew_1 rfl ?_
  refine xe_callVVq (d' := 0) (y' := mX4_sumGuilt) dX4_sew_2 mlX4_38 mvX4_sumGuilt rfl (st98 hs) (by decide) rfl (by decide) (by decide) (Nat.le_of_ble_eq_true rfl) (c_X4_sumGuilt22 l g _ (by exact hs) hnd (by exact hd4) (fun d hd => by exact hgu d hd) hz1) rfl (fun hX1 hqX1 => ?_)
  obtain ⟨CG, rfl, hcg0, hgs⟩ := hqX1
  refine xe_iconst dX4_sew_5 kc_0 ?_
  refine xe_istore_n (i := 3) dX4_sew_6 rfl (by decide) rfl ?_
  refine xe_fin (L' := (fun (i_ : Nat) (s1 : (Nat → Nat → Int32)) => [(0, .ref 98), (1, .ref 22), (2, .int (nI n)), (3, .int (nI i_))]) 0 (fun j => q_I h (102 + j))) (h' := (fun (i_ : Nat) (s1 : (Nat → Nat → Int32)) => (q_wL (q_wI h 111 CG) s1)) 0 (fun j => q_I h (102 + j))) ?_ (And.intro rfl (And.intro rfl (And.intro rfl (And.intro rfl trivial)))) (q_heq [102, 103, 104, 105, 106, 107, 108, 109, 110, 111] (H := h) (by repeat (first | exact q_out_r | refine q_out_w rfl ?_ | refine q_out_l rfl ?_)) (by repeat (first | exact q_out_r | refine q_out_w rfl ?_ | refine q_out_l rfl ?_)) (And.intro rfl (And.intro rfl (And.intro rfl (And.intro rfl (And.intro rfl (And.intro rfl (And.intro rfl (And.intro rfl (And.intro rfl (And.intro rfl trivial)))))))))))
  refine xe_loopI (σ := (Nat → Nat → Int32)) (n + 1) (fun i L => ∀ k, k < i → L nm k = nI (q_lg nm (2 ^ nd) (fun s => q_sb gu s nd) (fun m => q_cm (fi m) (hv m) nd) 0 k)) (fun (i_ : Nat) (s1 : (Nat → Nat → Int32)) => [(0, .ref 98), (1, .ref 22), (2, .int (nI n)), (3, .int (nI i_))]) (fun (i_ : Nat) (s1 : (Nat → Nat → Int32)) => (q_wL (q_wI h 111 CG) s1)) (fun j => q_I h (102 + j)) (fun _ q => absurd q (Nat.not_lt_zero _)) (fun i_ hi_ s1 e1 K1 => ?_) (fun s1 e1 => ?_)
  · refine xe_iload_n dX4_sew_7 rfl ?_
    refine xe_iload_n dX4_sew_8 rfl ?_
    refine xn_icmp_gt (tgt := 39) dX4_sew_9 rfl (by omega) (by omega) (fun c2 => ?_) (fun c2 => ?_)
    · omega
    · refine xe_aload_n dX4_sew_12 rfl ?_
      refine xe_getP dX4_sew_13 flX4_20 (st98 hs) (by decide) rfl (sp98_2 hs) ?_
      refine xe_aload_n dX4_sew_16 rfl ?_
      refine xe_getIv dX4_sew_17 flX4_42 (st22 hs) (by decide) rfl (v := nI nm) (hm3) ?_
      refine xe_aaldI dX4_sew_20 (st101 hs) (vp_in_nI (by omega) (by decide)) (spL hs (j := nm) (by omega)) ?_
      refine xe_iload_n dX4_sew_21 rfl ?_
      refine xe_iload_n dX4_sew_22 rfl ?_
      refine xn_if_ne (tgt := 30) dX4_sew_23 rfl (by omega) (fun c3 => ?_) (fun c3 => ?_)
      · refine xe_ldc dX4_sew_30 coX4_48 ?_
        refine xe_top (v' := nI 1000000) (by decide +kernel) ?_
        refine xn_iast dX4_sew_32 (stL hs (by omega)) (by omega) (by decide) ?_
        refine xe_heap (h2 := (q_wL (q_wI h 111 CG) (fun z => if z = nm then upd (s1 nm) i_ (nI 1000000) else s1 z))) (q_wL_st (by omega) _ _) ?_
        refine xn_iinc dX4_sew_33 rfl kc_1 ?_
        refine xe_goto (tgt := 7) dX4_sew_36 rfl ?_
        exact xe_fin (K1 (fun z => if z = nm then upd (s1 nm) i_ (nI 1000000) else s1 z) (fun k q => (congrFun (if_pos (rfl : nm = nm)) k).trans (q_updw (fun e => by have q2 : k = i_ := (by omega); subst q2; exact congrArg nI (if_neg c3).symm) (fun e => e1 k (by omega))))) (And.intro rfl (And.intro rfl (And.intro rfl (And.intro rfl trivial)))) (q_heq [102, 103, 104, 105, 106, 107, 108, 109, 110, 111] (H := h) (by repeat (first | exact q_out_r | refine q_out_w rfl ?_ | refine q_out_l rfl ?_)) (by repeat (first | exact q_out_r | refine q_out_w rfl ?_ | refine q_out_l rfl ?_)) (And.intro rfl (And.intro rfl (And.intro rfl (And.intro rfl (And.intro rfl (And.intro rfl (And.intro rfl (And.intro rfl (And.intro rfl (And.intro rfl trivial)))))))))))
      · refine xe_iconst dX4_sew_26 kc_0 ?_
        refine xe_goto (tgt := 32) dX4_sew_27 rfl ?_
        refine xn_iast dX4_sew_32 (stL hs (by omega)) (by omega) (by decide) ?_
        refine xe_heap (h2 := (q_wL (q_wI h 111 CG) (fun z => if z = nm then upd (s1 nm) i_ (nI 0) else s1 z))) (q_wL_st (by omega) _ _) ?_
        refine xn_iinc dX4_sew_33 rfl kc_1 ?_
        refine xe_goto (tgt := 7) dX4_sew_36 rfl ?_
        exact xe_fin (K1 (fun z => if z = nm then upd (s1 nm) i_ (nI 0) else s1 z) (fun k q => (congrFun (if_pos (rfl : nm = nm)) k).trans (q_updw (fun e => by have q2 : k = i_ := (by omega); subst q2; exact congrArg nI (if_pos c3).symm) (fun e => e1 k (by omega))))) (And.intro rfl (And.intro rfl (And.intro rfl (And.intro rfl trivial)))) (q_heq [102, 103, 104, 105, 106, 107, 108, 109, 110, 111] (H := h) (by repeat (first | exact q_out_r | refine q_out_w rfl ?_ | refine q_out_l rfl ?_)) (by repeat (first | exact q_out_r | refine q_out_w rfl ?_ | refine q_out_l rfl ?_)) (And.intro rfl (And.intro rfl (And.intro rfl (And.intro rfl (And.intro rfl (And.intro rfl (And.intro rfl (And.intro rfl (And.intro rfl (And.intro rfl trivial)))))))))))
  · refine xe_iload_n dX4_sew_7 rfl ?_
    refine xe_iload_n dX4_sew_8 rfl ?_
    refine xn_icmp_gt (tgt := 39) dX4_sew_9 rfl (by omega) (by omega) (fun c4 => ?_) (fun c4 => ?_)
    · refine xe_aload_n dX4_sew_39 rfl ?_
      refine xe_getIv dX4_sew_40 flX4_42 (st22 hs) (by decide) rfl (v := nI nm) (hm3) ?_
      refine xe_iconst dX4_sew_43 kc_1 ?_
      refine xe_isub dX4_sew_44 ?_
      refine xe_istore_n (i := 3) dX4_sew_45 rfl (by decide) rfl ?_
      refine xe_fin (L' := (fun (i_m : Nat) (s5 : (Nat → Int32) × (Nat → Int32) × (Nat → Int32) × (Nat → Nat → Int32)) => [(0, .ref 98), (1, .ref 22), (2, .int (nI n)), (3, .int (nI (nm - i_m) - nI 1))]) 0 (q_I h 112, q_I h 113, q_I h 114, s1)) (h' := (fun (i_m : Nat) (s5 : (Nat → Int32) × (Nat → Int32) × (Nat → Int32) × (Nat → Nat → Int32)) => (q_wL (q_wI (q_wI (q_wI (q_wI h 111 CG) 112 s5.1) 113 s5.2.1) 114 s5.2.2.1) s5.2.2.2)) 0 (q_I h 112, q_I h 113, q_I h 114, s1)) ?_ (And.intro rfl (And.intro rfl (And.intro rfl (And.intro rfl trivial)))) (q_heq [102, 103, 104, 105, 106, 107, 108, 109, 110, 111, 112, 113, 114] (H := h) (by repeat (first | exact q_out_r | refine q_out_w rfl ?_ | refine q_out_l rfl ?_)) (by repeat (first | exact q_out_r | refine q_out_w rfl ?_ | refine q_out_l rfl ?_)) (And.intro rfl (And.intro rfl (And.intro rfl (And.intro rfl (And.intro rfl (And.intro rfl (And.intro rfl (And.intro rfl (And.intro rfl (And.intro rfl (And.intro rfl (And.intro rfl (And.intro rfl trivial))))))))))))))
      refine xe_loopI (σ := (Nat → Int32) × (Nat → Int32) × (Nat → Int32) × (Nat → Nat → Int32)) (nm) (fun i s => s.1 0 = nI 0 ∧ ∀ j, j ≤ i → ∀ k, k ≤ n → s.2.2.2 (nm - j) k = nI (q_lg nm (2 ^ nd) (fun s => q_sb gu s nd) (fun m => q_cm (fi m) (hv m) nd) j k)) (fun (i_m : Nat) (s5 : (Nat → Int32) × (Nat → Int32) × (Nat → Int32) × (Nat → Nat → Int32)) => [(0, .ref 98), (1, .ref 22), (2, .int (nI n)), (3, .int (nI (nm - i_m) - nI 1))]) (fun (i_m : Nat) (s5 : (Nat → Int32) × (Nat → Int32) × (Nat → Int32) × (Nat → Nat → Int32)) => (q_wL (q_wI (q_wI (q_wI (q_wI h 111 CG) 112 s5.1) 113 s5.2.1) 114 s5.2.2.1) s5.2.2.2)) (q_I h 112, q_I h 113, q_I h 114, s1) (⟨hz, fun j hj k hk => by obtain rfl : j = 0 := Nat.le_zero.mp hj; exact e1 k (by omega)⟩) (fun i_m hi_m s5 e5 K5 => ?_) (fun s5 e5 => ?_)
      · refine xe_locals (L' := [(0, .ref 98), (1, .ref 22), (2, .int (nI n)), (3, .int (nI (nm - 1 - i_m)))]) (And.intro rfl (And.intro rfl (And.intro rfl (And.intro (congrArg (fun v => some (Value.int v)) ((pk_sub (by omega)).trans (congrArg nI (by omega)))) trivial)))) ?_
        refine xe_iload_n dX4_sew_46 rfl ?_
        refine xn_if_lt (tgt := 111) dX4_sew_47 rfl (by omega) ?_
        refine xe_aload_n dX4_sew_50 rfl ?_
        refine xe_iload_n dX4_sew_51 rfl ?_
        refine xe_aload_n dX4_sew_52 rfl ?_
        refine xe_getIv dX4_sew_53 flX4_49 (st22 hs) (by decide) rfl (v := nI nd) (hd4) ?_
        refine xe_callVVq (d' := 1) (y' := mX4_sumFines) dX4_sew_56 mlX4_52 mvX4_sumFines rfl (st98 hs) (by decide) rfl (by decide) (by decide) (Nat.le_of_ble_eq_true rfl) (c_X4_sumFines l g _ (by exact hs) (fi := fi (nm - 1 - i_m)) (m := nm - 1 - i_m) (nd := nd) (hv := hv (nm - 1 - i_m)) (by omega) hnd (by exact hfi _ (by omega)) (by exact (hhv _ (by omega)).1) (hhv _ (by omega)).2 (by exact e5.1)) rfl (fun h7 hq7 => ?_)
        obtain ⟨C7, rfl, hc0_7, hc_7⟩ := hq7
        refine xe_aload_n dX4_sew_59 rfl ?_
        refine xe_iload_n dX4_sew_60 rfl ?_
        refine xe_iconst dX4_sew_61 kc_1 ?_
        refine xe_aload_n dX4_sew_62 rfl ?_
        refine xe_getIv dX4_sew_63 flX4_49 (st22 hs) (by decide) rfl (v := nI nd) (hd4) ?_
        refine xe_ishl dX4_sew_66 ?_
        refine xe_top (v' := nI (2 ^ nd)) (q_pow_nm nd hnd) ?_
        refine xe_callVIn (d' := 1) (y' := mX4_gatherOffers) dX4_sew_67 mlX4_56 mvX4_gatherOffers rfl (st98 hs) (by decide) rfl (by decide) (by decide) (Nat.le_of_ble_eq_true rfl) (c_X4_gatherQ l g _ (by exact hs) (n := n) (K := 2 ^ nd) hn1 hn hpw (gs := (fun s => q_sb gu s nd)) (cm := (fun m => q_cm (fi m) (hv m) nd) (nm - 1 - i_m)) (fun s hs9 => ⟨(congrFun (show q_I _ 111 = CG from rfl) s).trans (hgs s hs9), Nat.le_trans (hgsb s) (by omega), hc_7 s hs9, hcmb _ (by omega) s⟩)) rfl (fun rv8 h8 hq8 => ?_)
        obtain ⟨M8, oc8, ob8, OC8, OG8, rfl, hM1_8, hoff_8, hO_8, rfl⟩ := hq8
        refine xe_istore dX4_sew_70 (by decide) rfl ?_
        refine xe_iconst dX4_sew_72 kc_0 ?_
        refine xe_istore dX4_sew_73 (by decide) rfl ?_
        refine xe_fin (L' := (fun (k_ : Nat) (s9 : (Nat → Nat → Int32)) => [(0, .ref 98), (1, .ref 22), (2, .int (nI n)), (3, .int (nI (nm - 1 - i_m))), (4, .int (nI M8)), (5, .int (nI k_))]) 0 s5.2.2.2) (h' := (fun (k_ : Nat) (s9 : (Nat → Nat → Int32)) => (q_wL (q_wI (q_wI (q_wI (q_wI h 111 CG) 112 C7) 113 OC8) 114 OG8) s9)) 0 s5.2.2.2) ?_ (And.intro rfl (And.intro rfl (And.intro rfl (And.intro rfl (And.intro rfl (And.intro rfl trivial)))))) (q_heq [102, 103, 104, 105, 106, 107, 108, 109, 110, 111, 112, 113, 114] (H := h) (by repeat (first | exact q_out_r | refine q_out_w rfl ?_ | refine q_out_l rfl ?_)) (by repeat (first | exact q_out_r | refine q_out_w rfl ?_ | refine q_out_l rfl ?_)) (And.intro rfl (And.intro rfl (And.intro rfl (And.intro rfl (And.intro rfl (And.intro rfl (And.intro rfl (And.intro rfl (And.intro rfl (And.intro rfl (And.intro rfl (And.intro rfl (And.intro rfl trivial))))))))))))))
        refine xe_loopI (σ := (Nat → Nat → Int32)) (n + 1) (fun i L => (∀ j, j ≤ i_m → ∀ k, k ≤ n → L (nm - j) k = nI (q_lg nm (2 ^ nd) (fun s => q_sb gu s nd) (fun m => q_cm (fi m) (hv m) nd) j k)) ∧ ∀ k, k < i → L (nm - 1 - i_m) k = nI (q_lg nm (2 ^ nd) (fun s => q_sb gu s nd) (fun m => q_cm (fi m) (hv m) nd) (i_m + 1) k)) (fun (k_ : Nat) (s9 : (Nat → Nat → Int32)) => [(0, .ref 98), (1, .ref 22), (2, .int (nI n)), (3, .int (nI (nm - 1 - i_m))), (4, .int (nI M8)), (5, .int (nI k_))]) (fun (k_ : Nat) (s9 : (Nat → Nat → Int32)) => (q_wL (q_wI (q_wI (q_wI (q_wI h 111 CG) 112 C7) 113 OC8) 114 OG8) s9)) s5.2.2.2 (⟨e5.2, fun _ q => absurd q (Nat.not_lt_zero _)⟩) (fun k_ hk_ s9 e9 K9 => ?_) (fun s9 e9 => ?_)
        · refine xe_iload dX4_sew_75 rfl ?_
          refine xe_iload_n dX4_sew_77 rfl ?_
          refine xn_icmp_gt (tgt := 105) dX4_sew_78 rfl (by omega) (by omega) (fun c10 => ?_) (fun c10 => ?_)
          · omega
          · refine xe_aload_n dX4_sew_81 rfl ?_
            refine xe_getP dX4_sew_82 flX4_20 (st98 hs) (by decide) rfl (sp98_2 hs) ?_
            refine xe_iload_n dX4_sew_85 rfl ?_
            refine xe_aaldI dX4_sew_86 (st101 hs) (vp_in_nI (by omega) (by decide)) (spL hs (j := nm - 1 - i_m) (by omega)) ?_
            refine xe_iload dX4_sew_87 rfl ?_
            refine xe_aload_n dX4_sew_89 rfl ?_
            refine xe_iload_n dX4_sew_90 rfl ?_
            refine xe_iload dX4_sew_91 rfl ?_
            refine xe_iload dX4_sew_93 rfl ?_
            refine xe_callVI (d' := 1) (y' := mX4_leastGuilt) dX4_sew_95 mlX4_60 mvX4_leastGuilt rfl (st98 hs) (by decide) rfl (by decide) (by decide) (Nat.le_of_ble_eq_true rfl) (c_X4_leastGuilt l g _ (by exact hs) (m := (nm - 1 - i_m)) (k := k_) (M := M8) (ob := ob8) (oc := oc8) (lgf := q_lg nm (2 ^ nd) (fun s => q_sb gu s nd) (fun m => q_cm (fi m) (hv m) nd) i_m) (by omega) (by omega) (by omega) (fun i hi => ⟨(hO_8 i hi).1, by have := (hoff_8.1 i hi).1; omega, (hO_8 i hi).2, (hoff_8.1 i hi).2.1⟩) (fun j hj => ⟨(congrFun (q_wL_at (by omega)) j).trans (by rw [show (nm - 1 - i_m) + 1 = nm - i_m by omega]; exact e9.1 i_m (Nat.le_refl _) j (by omega)), q_lg_le _ _ _ _ _ _⟩)) rfl ?_
            refine xe_top (v' := nI (q_lg nm (2 ^ nd) (fun s => q_sb gu s nd) (fun m => q_cm (fi m) (hv m) nd) (i_m + 1) k_)) (congrArg nI ((q_off_mn hoff_8 (by omega) (q_lg_up nm (2 ^ nd) (fun s => q_sb gu s nd) (fun m => q_cm (fi m) (hv m) nd) i_m)).trans (by show _ = q_mn (fun s => (fun s => q_sb gu s nd) s + q_lg nm (2 ^ nd) (fun s => q_sb gu s nd) (fun m => q_cm (fi m) (hv m) nd) i_m (k_ - (fun m => q_cm (fi m) (hv m) nd) (nm - 1 - i_m) s)) (2 ^ nd); rfl))) ?_
            refine xn_iast dX4_sew_98 (stL hs (by omega)) (by omega) (by decide) ?_
            refine xe_heap (h2 := (q_wL (q_wI (q_wI (q_wI (q_wI h 111 CG) 112 C7) 113 OC8) 114 OG8) (fun z => if z = nm - 1 - i_m then upd (s9 (nm - 1 - i_m)) k_ (nI (q_lg nm (2 ^ nd) (fun s => q_sb gu s nd) (fun m => q_cm (fi m) (hv m) nd) (i_m + 1) k_)) else s9 z))) (q_wL_st (by omega) _ _) ?_
            refine xn_iinc dX4_sew_99 rfl kc_1 ?_
            refine xe_goto (tgt := 75) dX4_sew_102 rfl ?_
            exact xe_fin (K9 (fun z => if z = nm - 1 - i_m then upd (s9 (nm - 1 - i_m)) k_ (nI (q_lg nm (2 ^ nd) (fun s => q_sb gu s nd) (fun m => q_cm (fi m) (hv m) nd) (i_m + 1) k_)) else s9 z) (⟨fun j hj k hk => (congrFun (if_neg (show ¬ nm - j = nm - 1 - i_m by omega)) k).trans (e9.1 j hj k hk), fun k q => (congrFun (if_pos (rfl : nm - 1 - i_m = nm - 1 - i_m)) k).trans (q_updw (fun e => by rw [e]) (fun e => e9.2 k (by omega)))⟩)) (And.intro rfl (And.intro rfl (And.intro rfl (And.intro rfl (And.intro rfl (And.intro rfl trivial)))))) (q_heq [102, 103, 104, 105, 106, 107, 108, 109, 110, 111, 112, 113, 114] (H := h) (by repeat (first | exact q_out_r | refine q_out_w rfl ?_ | refine q_out_l rfl ?_)) (by repeat (first | exact q_out_r | refine q_out_w rfl ?_ | refine q_out_l rfl ?_)) (And.intro rfl (And.intro rfl (And.intro rfl (And.intro rfl (And.intro rfl (And.intro rfl (And.intro rfl (And.intro rfl (And.intro rfl (And.intro rfl (And.intro rfl (And.intro rfl (And.intro rfl trivial))))))))))))))
        · refine xe_iload dX4_sew_75 rfl ?_
          refine xe_iload_n dX4_sew_77 rfl ?_
          refine xn_icmp_gt (tgt := 105) dX4_sew_78 rfl (by omega) (by omega) (fun c11 => ?_) (fun c11 => ?_)
          · refine xe_iinc dX4_sew_105 rfl (v := (nI (nm - (i_m + 1)) - nI 1)) (by rw [show nm - (i_m + 1) = nm - 1 - i_m by omega]; exact q_decm _) ?_
            refine xe_goto (tgt := 46) dX4_sew_108 rfl ?_
            exact xe_fin (K5 (C7, OC8, OG8, s9) (⟨hc0_7, fun j hj k hk => if e : j ≤ i_m then e9.1 j e k hk else by have q2 : j = i_m + 1 := (by omega); subst q2; rw [show nm - (i_m + 1) = nm - 1 - i_m by omega]; exact e9.2 k (by omega)⟩)) (And.intro rfl (And.intro rfl (And.intro rfl (And.intro rfl trivial)))) (q_heq [102, 103, 104, 105, 106, 107, 108, 109, 110, 111, 112, 113, 114] (H := h) (by repeat (first | exact q_out_r | refine q_out_w rfl ?_ | refine q_out_l rfl ?_)) (by repeat (first | exact q_out_r | refine q_out_w rfl ?_ | refine q_out_l rfl ?_)) (And.intro rfl (And.intro rfl (And.intro rfl (And.intro rfl (And.intro rfl (And.intro rfl (And.intro rfl (And.intro rfl (And.intro rfl (And.intro rfl (And.intro rfl (And.intro rfl (And.intro rfl trivial))))))))))))))
          · omega
      · refine xe_iload_n dX4_sew_46 rfl ?_
        refine xe_if_lt (tgt := 111) dX4_sew_47 rfl (fun c12 => ?_) (fun c12 => ?_)
        · refine xe_aload_n dX4_sew_111 rfl ?_
          refine xe_aload_n dX4_sew_112 rfl ?_
          refine xe_getP dX4_sew_113 flX4_20 (st98 hs) (by decide) rfl (sp98_2 hs) ?_
          refine xe_iconst dX4_sew_116 kc_0 ?_
          refine xe_aaldI dX4_sew_117 (st101 hs) (vp_in_nI (by omega) (by decide)) (spL hs (j := 0) (by omega)) ?_
          refine xe_iload_n dX4_sew_118 rfl ?_
          refine xn_ialdv dX4_sew_119 (stL hs (by decide)) (by omega) (by decide) (v := nI (q_lg nm (2 ^ nd) (fun s => q_sb gu s nd) (fun m => q_cm (fi m) (hv m) nd) nm n)) ((congrFun (q_wL_at (j := 0) (by decide)) n).trans (by have q := e5.2 nm (Nat.le_refl _) n (Nat.le_refl _); rw [Nat.sub_self] at q; exact q)) ?_
          refine xe_putI dX4_sew_120 flX4_64 (st98 hs) (by decide) rfl (Or.inl rfl) rfl rfl ?_
          refine xe_aload_n dX4_sew_123 rfl ?_
          refine xe_getIv dX4_sew_124 flX4_64 (st98 hs) (by decide) rfl (v := nI (q_lg nm (2 ^ nd) (fun s => q_sb gu s nd) (fun m => q_cm (fi m) (hv m) nd) nm n)) (rfl) ?_
          refine xe_ldc dX4_sew_127 coX4_48 ?_
          refine xe_top (v' := nI 1000000) (by decide +kernel) ?_
          have b4_ := q_lg_le nm (2 ^ nd) (fun s => q_sb gu s nd) (fun m => q_cm (fi m) (hv m) nd) nm n
          refine xn_icmp_lt (tgt := 134) dX4_sew_129 rfl (by omega) (by omega) (fun c_lt => ?_) (fun c_lt => ?_)
          · refine xe_aload_n dX4_sew_134 rfl ?_
            refine xe_aload_n dX4_sew_135 rfl ?_
            refine xe_iload_n dX4_sew_136 rfl ?_
            refine xe_callVVq (d' := 2) (y' := mX4_choose) dX4_sew_137 mlX4_67 mvX4_choose rfl (st98 hs) (by decide) rfl (by decide) (by decide) (Nat.le_of_ble_eq_true rfl) (c_X4_choose22 l g _ (by exact hs) hnm hnd (by exact hm3) (by exact hd4) hn1 hn (gu := gu) (hv := hv) (fi := fi) (fun m hm d hd => by exact hfi m hm d hd) (fun m hm => by exact hhv m hm) hgub (by exact e5.1) (fun s hs9 => by exact hgs s hs9) (fun m hm k hk => (congrFun ((q_Ine (by omega)).trans (q_wL_at (by omega))) k).trans (by have q := e5.2 (nm - m) (by omega) k hk; rwa [show nm - (nm - m) = m by omega] at q)) c_lt) rfl (fun hX2 hqX2 => ?_)
            obtain ⟨CC, AA, rfl, hC0, hA⟩ := hqX2
            refine xe_iconst dX4_sew_140 kc_1 ?_
            refine xe_ireturn dX4_sew_141 rfl (by first | rfl | decide +kernel) ?_
            exact ⟨⟨by repeat (first | exact q_out_r | refine q_out_w rfl ?_ | refine q_out_l rfl ?_), hcg0.trans hz1.symm, hC0.trans hz.symm, rfl, rfl⟩, Or.inl ⟨c_lt, rfl, rfl, rfl, hA⟩⟩
          · refine xe_iconst dX4_sew_132 kc_0 ?_
            refine xe_ireturn dX4_sew_133 rfl (by first | rfl | decide +kernel) ?_
            exact ⟨⟨by repeat (first | exact q_out_r | refine q_out_w rfl ?_ | refine q_out_l rfl ?_), hcg0.trans hz1.symm, e5.1.trans hz.symm, rfl, rfl⟩, Or.inr ⟨c_lt, rfl⟩⟩
        · exact absurd (by rw [Nat.sub_self]; decide) c12
    · omega
