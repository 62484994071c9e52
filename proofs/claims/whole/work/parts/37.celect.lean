/-! the class: who is elected -/
/-- what man o is worth to man v, had he so many -/
def q_kv (R C : Nat → Int32) (LW : q_LW) (nc w v o : Nat) (have_ : Int32) : Int32 := q_tel (q_see R C 0 nc w o have_ (q_s8 R (136 + 8 * o))) (LW (8 + v)) have_
theorem q_who_c {R C Hx L T : Nat → Int32} {LW : q_LW} {nm nc w : Nat} (hn0 : 0 < nm) (hn8 : nm ≤ 8) (hT : ∀ o, o < nm → T o = Hx o ∧ ∀ v, v < nm → L (v * 8 + o) = q_kv R C LW nc w v o (Hx o)) :
    q_el (q_vt (fun v => q_chc (fun o => L (v * 8 + o)) (nm - 1)) (fun _ => nI 0) nm) T (nm - 1) = q_who R C Hx LW 0 nm nc w ∧ ∀ k, k < 8 → q_vt (fun v => q_chc (fun o => L (v * 8 + o)) (nm - 1)) (fun _ => nI 0) nm k = q_vts R C Hx LW 0 nm nc w k := by
  have e1 : ∀ v, v < nm → q_chc (fun o => L (v * 8 + o)) (nm - 1) = (q_vb (q_vv R C Hx LW 0 nc w v) nm).1 := fun v hv => by
    obtain ⟨j, rfl⟩ : ∃ j, nm = j + 1 := ⟨nm - 1, by omega⟩
    rw [q_chc_vb]
    exact q_chc_co _ (fun k hk => (hT k (by omega)).2 v hv)
  have e2 := q_vt_co (f := fun v => q_chc (fun o => L (v * 8 + o)) (nm - 1)) (g := fun v => (q_vb (q_vv R C Hx LW 0 nc w v) nm).1) (V := fun _ => nI 0) (V' := fun _ => nI 0) (fun _ _ => rfl) (n := nm) e1 (fun k hk => Nat.lt_of_lt_of_le (q_vb_lt2 _ nm hn0) hn8)
  refine ⟨q_el_co (fun k hk => e2 k (by omega)) (fun k hk => (hT k (by omega)).1), e2⟩
theorem q_pln_v {R C : Nat → Int32} {lv nc w m v nm : Nat} {a b : Int32} (hv : v < nm) (hv2 : nm ≤ 8) : q_pln (8 + v) (q_see R C lv nc w m a b) = a := by
  unfold q_pln
  rw [if_neg (by omega), if_pos (by omega)]
  rfl
theorem c_X9_like (l : Launch) (g : q_GP) (h : q_H) (hs : q_Stat h) {p nm nd nc mo n : Nat} (hp : rk_P h p nm nd nc mo n) {LW : q_LW} (hL : rk_L h p n LW) {w : Nat} (hw : q_I h 34 6 = nI w) (hw2 : w < 2 ^ 20) {m : Nat} (hm : m < 8) (hv : Int32) : q_Ct l g 2 mX9_like [.ref 0, .int (nI m), .int hv] h (fun r h1 => r = none ∧ ∃ V S L, h1 = q_wI (q_wI (q_wI (q_wI h (p + 10) V) (p + 11) S) 117 L) 118 (upd (q_I h 118) m hv) ∧ (∀ v, v < nm → L (v * 8 + m) = q_kv (q_cr h) (q_I h (p + 5)) LW nc w v m hv) ∧ ∀ k, k % 8 ≠ m → L k = q_I h 117 k) := by
  obtain ⟨P0, P1, P2, P2b, P3, P3b, P4, P4b, P5, P5b, P6, P6b⟩ := id hp
  rcases P1 with rfl | rfl
  · refine q_CtV mvX9_like (Nat.le_of_ble_eq_true rfl) ?_
    refine xe_aload_n dX9_like_0 rfl ?_
    refine xe_getP dX9_like_1 flX9_26 (st0 hs) (by decide) rfl P0 ?_
    refine xe_iload_n dX9_like_4 rfl ?_
    refine xe_aload_n dX9_like_5 rfl ?_
    refine xe_getP dX9_like_6 flX9_36 (st0 hs) (by decide) rfl (sp0_4 hs) ?_
    refine xe_iload_n dX9_like_9 rfl ?_
    refine xe_callVI (d' := 0) (y' := mX6_timesOf) dX9_like_10 mlX9_144 mvX6_timesOf rfl (st34 hs) (by decide) rfl (by decide) (by decide) (Nat.le_of_ble_eq_true rfl) (c_X6_timesOf l g _ (by exact hs) _ (by omega)) rfl ?_
    refine xe_top (v' := q_s8 (q_cr h) (136 + 8 * m)) (q_cr_tm h (by omega)) ?_
    refine xe_aload_n dX9_like_13 rfl ?_
    refine xe_getP dX9_like_14 flX9_36 (st0 hs) (by decide) rfl (sp0_4 hs) ?_
    refine xe_getIv dX9_like_17 flX9_150 (st34 hs) (by decide) rfl (v := nI w) (hw) ?_
    refine xe_aload_n dX9_like_20 rfl ?_
    refine xe_getP dX9_like_21 flX9_36 (st0 hs) (by decide) rfl (sp0_4 hs) ?_
    refine xe_bipush dX9_like_24 kb_8 ?_
    refine xe_callVI (d' := 0) (y' := mX6_inRow) dX9_like_26 mlX9_140 mvX6_inRow rfl (st34 hs) (by decide) rfl (by decide) (by decide) (Nat.le_of_ble_eq_true rfl) (c_X6_inRow l g _ (by exact hs) _ (by omega)) rfl ?_
    refine xe_top (v' := q_s8 (q_cr h) (8 * 8)) (q_cr_in h (by omega)) ?_
    refine xe_iload_n dX9_like_29 rfl ?_
    refine xe_callVV (d' := 0) (y' := mX3_see) dX9_like_30 mlX9_184 mvX3_see rfl (st10 hs) (by decide) rfl (by decide) (by decide) (Nat.le_of_ble_eq_true rfl) (c_X3_see10 l g _ (by exact hs) (by exact P5) P5b (by omega) _ _ _ _) rfl ?_
    refine xe_aload_n dX9_like_33 rfl ?_
    refine xe_getP dX9_like_34 flX9_72 (st0 hs) (by decide) rfl (sp0_10 hs) ?_
    refine xe_getP dX9_like_37 flX9_328 (st116 hs) (by decide) rfl (sp116_1 hs) ?_
    refine xe_iload_n dX9_like_40 rfl ?_
    refine xe_iload_n dX9_like_41 rfl ?_
    refine xn_iast dX9_like_42 (st118 hs) (by omega) (by decide) ?_
    refine xe_iconst dX9_like_43 kc_0 ?_
    refine xe_istore_n (i := 3) dX9_like_44 rfl (by decide) rfl ?_
    refine xe_fin (L' := (fun (v_ : Nat) (s1 : (Nat → Int32) × (Nat → Int32)) => [(0, .ref 0), (1, .int (nI m)), (2, .int hv), (3, .int (nI v_))]) 0 (q_I h 117, q_I h 21)) (h' := (fun (v_ : Nat) (s1 : (Nat → Int32) × (Nat → Int32)) => (q_wI (q_wI (q_wI (q_wI h 20 (q_v6 (q_I h 20) hv (q_s8 (q_cr h) (136 + 8 * m)) (nI w) (q_wind (q_I h 15) (12 * 0) nc w) (q_s8 (q_cr h) (8 * 8)) (nI m))) 21 s1.2) 117 s1.1) 118 (upd (q_I h 118) m hv))) 0 (q_I h 117, q_I h 21)) ?_ (And.intro rfl (And.intro rfl (And.intro rfl (And.intro rfl trivial)))) (q_heq [20, 21, 117, 118] (H := h) (by repeat (first | exact q_out_r | refine q_out_w rfl ?_)) (by repeat (first | exact q_out_r | refine q_out_w rfl ?_)) (And.intro rfl (And.intro rfl (And.intro rfl (And.intro rfl trivial)))))
    refine xe_loopI (σ := (Nat → Int32) × (Nat → Int32)) (nm) (fun i s => (∀ v, v < i → s.1 (v * 8 + m) = q_kv (q_cr h) (q_I h (10 + 5)) LW nc w v m hv) ∧ ∀ k, k % 8 ≠ m → s.1 k = q_I h 117 k) (fun (v_ : Nat) (s1 : (Nat → Int32) × (Nat → Int32)) => [(0, .ref 0), (1, .int (nI m)), (2, .int hv), (3, .int (nI v_))]) (fun (v_ : Nat) (s1 : (Nat → Int32) × (Nat → Int32)) => (q_wI (q_wI (q_wI (q_wI h 20 (q_v6 (q_I h 20) hv (q_s8 (q_cr h) (136 + 8 * m)) (nI w) (q_wind (q_I h 15) (12 * 0) nc w) (q_s8 (q_cr h) (8 * 8)) (nI m))) 21 s1.2) 117 s1.1) 118 (upd (q_I h 118) m hv))) (q_I h 117, q_I h 21) (⟨fun _ q => absurd q (Nat.not_lt_zero _), fun _ _ => rfl⟩) (fun v_ hv_ s1 e1 K1 => ?_) (fun s1 e1 => ?_)
    · obtain ⟨ad, had, hcd⟩ := hL.2.1 v_ (by omega)
      refine xe_iload_n dX9_like_45 rfl ?_
      refine xe_aload_n dX9_like_46 rfl ?_
      refine xe_getP dX9_like_47 flX9_26 (st0 hs) (by decide) rfl P0 ?_
      refine xe_getIv dX9_like_50 flX9_117 (st10 hs) (by decide) rfl (v := nI nm) (P3) ?_
      refine xn_icmp_ge (tgt := 92) dX9_like_53 rfl (by omega) (by omega) (fun c2 => ?_) (fun c2 => ?_)
      · omega
      · refine xe_aload_n dX9_like_56 rfl ?_
        refine xe_getP dX9_like_57 flX9_72 (st0 hs) (by decide) rfl (sp0_10 hs) ?_
        refine xe_getP dX9_like_60 flX9_329 (st116 hs) (by decide) rfl (sp116_0 hs) ?_
        refine xe_iload_n dX9_like_63 rfl ?_
        refine xe_bipush dX9_like_64 kb_8 ?_
        refine xn_imul dX9_like_66 ?_
        refine xe_iload_n dX9_like_67 rfl ?_
        refine xn_iadd dX9_like_68 ?_
        refine xe_aload_n dX9_like_69 rfl ?_
        refine xe_getP dX9_like_70 flX9_26 (st0 hs) (by decide) rfl P0 ?_
        refine xe_aload_n dX9_like_73 rfl ?_
        refine xe_getP dX9_like_74 flX9_26 (st0 hs) (by decide) rfl P0 ?_
        refine xe_getP dX9_like_77 flX9_332 (st10 hs) (by decide) rfl (sp10_11 hs) ?_
        refine xe_iload_n dX9_like_80 rfl ?_
        refine xn_ialdv dX9_like_81 (st17 hs) (by omega) (by decide) (v := nI ad) (had) ?_
        refine xe_callVIq (d' := 1) (y' := mX3_worth) dX9_like_82 mlX9_191 mvX3_worth rfl (st10 hs) (by decide) rfl (by decide) (by decide) (Nat.le_of_ble_eq_true rfl) (c_X3_worth10 l g _ (by exact hs) (by exact P2) P2b _ _ _ (by exact hcd)) rfl (fun h3 hq3 => ?_)
        obtain ⟨S3, rfl⟩ := hq3
        refine xe_top (v' := q_kv (q_cr h) (q_I h (10 + 5)) LW nc w v_ m hv) (q_see_law (lv := 0) LW (8 + v_) (q_I h 20) (q_cr h) (q_I h 15) _ _ hcd rfl |>.trans (by rw [q_pln_v hv_ (by omega)]; rfl)) ?_
        refine xn_iast dX9_like_85 (st117 hs) (by omega) (by decide) ?_
        refine xn_iinc dX9_like_86 rfl kc_1 ?_
        refine xe_goto (tgt := 45) dX9_like_89 rfl ?_
        exact xe_fin (K1 (upd s1.1 ((v_ * 8) + m) (q_kv (q_cr h) (q_I h (10 + 5)) LW nc w v_ m hv), S3) (⟨fun v q => q_updw (fun e => by obtain rfl : v = v_ := (by omega); rfl) (fun e => e1.1 v (by omega)), fun k q => (pk_un (by omega)).trans (e1.2 k q)⟩)) (And.intro rfl (And.intro rfl (And.intro rfl (And.intro rfl trivial)))) (q_heq [20, 21, 117, 118] (H := h) (by repeat (first | exact q_out_r | refine q_out_w rfl ?_)) (by repeat (first | exact q_out_r | refine q_out_w rfl ?_)) (And.intro rfl (And.intro rfl (And.intro rfl (And.intro rfl trivial)))))
    · refine xe_iload_n dX9_like_45 rfl ?_
      refine xe_aload_n dX9_like_46 rfl ?_
      refine xe_getP dX9_like_47 flX9_26 (st0 hs) (by decide) rfl P0 ?_
      refine xe_getIv dX9_like_50 flX9_117 (st10 hs) (by decide) rfl (v := nI nm) (P3) ?_
      refine xn_icmp_ge (tgt := 92) dX9_like_53 rfl (by omega) (by omega) (fun c4 => ?_) (fun c4 => ?_)
      · refine xe_return dX9_like_92 rfl ?_
        exact ⟨rfl, _, _, _, rfl, e1⟩
      · omega
  · refine q_CtV mvX9_like (Nat.le_of_ble_eq_true rfl) ?_
    refine xe_aload_n dX9_like_0 rfl ?_
    refine xe_getP dX9_like_1 flX9_26 (st0 hs) (by decide) rfl P0 ?_
    refine xe_iload_n dX9_like_4 rfl ?_
    refine xe_aload_n dX9_like_5 rfl ?_
    refine xe_getP dX9_like_6 flX9_36 (st0 hs) (by decide) rfl (sp0_4 hs) ?_
    refine xe_iload_n dX9_like_9 rfl ?_
    refine xe_callVI (d' := 0) (y' := mX6_timesOf) dX9_like_10 mlX9_144 mvX6_timesOf rfl (st34 hs) (by decide) rfl (by decide) (by decide) (Nat.le_of_ble_eq_true rfl) (c_X6_timesOf l g _ (by exact hs) _ (by omega)) rfl ?_
    refine xe_top (v' := q_s8 (q_cr h) (136 + 8 * m)) (q_cr_tm h (by omega)) ?_
    refine xe_aload_n dX9_like_13 rfl ?_
    refine xe_getP dX9_like_14 flX9_36 (st0 hs) (by decide) rfl (sp0_4 hs) ?_
    refine xe_getIv dX9_like_17 flX9_150 (st34 hs) (by decide) rfl (v := nI w) (hw) ?_
    refine xe_aload_n dX9_like_20 rfl ?_
    refine xe_getP dX9_like_21 flX9_36 (st0 hs) (by decide) rfl (sp0_4 hs) ?_
    refine xe_bipush dX9_like_24 kb_8 ?_
    refine xe_callVI (d' := 0) (y' := mX6_inRow) dX9_like_26 mlX9_140 mvX6_inRow rfl (st34 hs) (by decide) rfl (by decide) (by decide) (Nat.le_of_ble_eq_true rfl) (c_X6_inRow l g _ (by exact hs) _ (by omega)) rfl ?_
    refine xe_top (v' := q_s8 (q_cr h) (8 * 8)) (q_cr_in h (by omega)) ?_
    refine xe_iload_n dX9_like_29 rfl ?_
    refine xe_callVV (d' := 0) (y' := mX3_see) dX9_like_30 mlX9_184 mvX3_see rfl (st22 hs) (by decide) rfl (by decide) (by decide) (Nat.le_of_ble_eq_true rfl) (c_X3_see22 l g _ (by exact hs) (by exact P5) P5b (by omega) _ _ _ _) rfl ?_
    refine xe_aload_n dX9_like_33 rfl ?_
    refine xe_getP dX9_like_34 flX9_72 (st0 hs) (by decide) rfl (sp0_10 hs) ?_
    refine xe_getP dX9_like_37 flX9_328 (st116 hs) (by decide) rfl (sp116_1 hs) ?_
    refine xe_iload_n dX9_like_40 rfl ?_
    refine xe_iload_n dX9_like_41 rfl ?_
    refine xn_iast dX9_like_42 (st118 hs) (by omega) (by decide) ?_
    refine xe_iconst dX9_like_43 kc_0 ?_
    refine xe_istore_n (i := 3) dX9_like_44 rfl (by decide) rfl ?_
    refine xe_fin (L' := (fun (v_ : Nat) (s1 : (Nat → Int32) × (Nat → Int32)) => [(0, .ref 0), (1, .int (nI m)), (2, .int hv), (3, .int (nI v_))]) 0 (q_I h 117, q_I h 33)) (h' := (fun (v_ : Nat) (s1 : (Nat → Int32) × (Nat → Int32)) => (q_wI (q_wI (q_wI (q_wI h 32 (q_v6 (q_I h 32) hv (q_s8 (q_cr h) (136 + 8 * m)) (nI w) (q_wind (q_I h 27) (12 * 0) nc w) (q_s8 (q_cr h) (8 * 8)) (nI m))) 33 s1.2) 117 s1.1) 118 (upd (q_I h 118) m hv))) 0 (q_I h 117, q_I h 33)) ?_ (And.intro rfl (And.intro rfl (And.intro rfl (And.intro rfl trivial)))) (q_heq [32, 33, 117, 118] (H := h) (by repeat (first | exact q_out_r | refine q_out_w rfl ?_)) (by repeat (first | exact q_out_r | refine q_out_w rfl ?_)) (And.intro rfl (And.intro rfl (And.intro rfl (And.intro rfl trivial)))))
    refine xe_loopI (σ := (Nat → Int32) × (Nat → Int32)) (nm) (fun i s => (∀ v, v < i → s.1 (v * 8 + m) = q_kv (q_cr h) (q_I h (22 + 5)) LW nc w v m hv) ∧ ∀ k, k % 8 ≠ m → s.1 k = q_I h 117 k) (fun (v_ : Nat) (s1 : (Nat → Int32) × (Nat → Int32)) => [(0, .ref 0), (1, .int (nI m)), (2, .int hv), (3, .int (nI v_))]) (fun (v_ : Nat) (s1 : (Nat → Int32) × (Nat → Int32)) => (q_wI (q_wI (q_wI (q_wI h 32 (q_v6 (q_I h 32) hv (q_s8 (q_cr h) (136 + 8 * m)) (nI w) (q_wind (q_I h 27) (12 * 0) nc w) (q_s8 (q_cr h) (8 * 8)) (nI m))) 33 s1.2) 117 s1.1) 118 (upd (q_I h 118) m hv))) (q_I h 117, q_I h 33) (⟨fun _ q => absurd q (Nat.not_lt_zero _), fun _ _ => rfl⟩) (fun v_ hv_ s1 e1 K1 => ?_) (fun s1 e1 => ?_)
    · obtain ⟨ad, had, hcd⟩ := hL.2.1 v_ (by omega)
      refine xe_iload_n dX9_like_45 rfl ?_
      refine xe_aload_n dX9_like_46 rfl ?_
      refine xe_getP dX9_like_47 flX9_26 (st0 hs) (by decide) rfl P0 ?_
      refine xe_getIv dX9_like_50 flX9_117 (st22 hs) (by decide) rfl (v := nI nm) (P3) ?_
      refine xn_icmp_ge (tgt := 92) dX9_like_53 rfl (by omega) (by omega) (fun c2 => ?_) (fun c2 => ?_)
      · omega
      · refine xe_aload_n dX9_like_56 rfl ?_
        refine xe_getP dX9_like_57 flX9_72 (st0 hs) (by decide) rfl (sp0_10 hs) ?_
        refine xe_getP dX9_like_60 flX9_329 (st116 hs) (by decide) rfl (sp116_0 hs) ?_
        refine xe_iload_n dX9_like_63 rfl ?_
        refine xe_bipush dX9_like_64 kb_8 ?_
        refine xn_imul dX9_like_66 ?_
        refine xe_iload_n dX9_like_67 rfl ?_
        refine xn_iadd dX9_like_68 ?_
        refine xe_aload_n dX9_like_69 rfl ?_
        refine xe_getP dX9_like_70 flX9_26 (st0 hs) (by decide) rfl P0 ?_
        refine xe_aload_n dX9_like_73 rfl ?_
        refine xe_getP dX9_like_74 flX9_26 (st0 hs) (by decide) rfl P0 ?_
        refine xe_getP dX9_like_77 flX9_332 (st22 hs) (by decide) rfl (sp22_11 hs) ?_
        refine xe_iload_n dX9_like_80 rfl ?_
        refine xn_ialdv dX9_like_81 (st29 hs) (by omega) (by decide) (v := nI ad) (had) ?_
        refine xe_callVIq (d' := 1) (y' := mX3_worth) dX9_like_82 mlX9_191 mvX3_worth rfl (st22 hs) (by decide) rfl (by decide) (by decide) (Nat.le_of_ble_eq_true rfl) (c_X3_worth22 l g _ (by exact hs) (by exact P2) P2b _ _ _ (by exact hcd)) rfl (fun h3 hq3 => ?_)
        obtain ⟨S3, rfl⟩ := hq3
        refine xe_top (v' := q_kv (q_cr h) (q_I h (22 + 5)) LW nc w v_ m hv) (q_see_law (lv := 0) LW (8 + v_) (q_I h 32) (q_cr h) (q_I h 27) _ _ hcd rfl |>.trans (by rw [q_pln_v hv_ (by omega)]; rfl)) ?_
        refine xn_iast dX9_like_85 (st117 hs) (by omega) (by decide) ?_
        refine xn_iinc dX9_like_86 rfl kc_1 ?_
        refine xe_goto (tgt := 45) dX9_like_89 rfl ?_
        exact xe_fin (K1 (upd s1.1 ((v_ * 8) + m) (q_kv (q_cr h) (q_I h (22 + 5)) LW nc w v_ m hv), S3) (⟨fun v q => q_updw (fun e => by obtain rfl : v = v_ := (by omega); rfl) (fun e => e1.1 v (by omega)), fun k q => (pk_un (by omega)).trans (e1.2 k q)⟩)) (And.intro rfl (And.intro rfl (And.intro rfl (And.intro rfl trivial)))) (q_heq [32, 33, 117, 118] (H := h) (by repeat (first | exact q_out_r | refine q_out_w rfl ?_)) (by repeat (first | exact q_out_r | refine q_out_w rfl ?_)) (And.intro rfl (And.intro rfl (And.intro rfl (And.intro rfl trivial)))))
    · refine xe_iload_n dX9_like_45 rfl ?_
      refine xe_aload_n dX9_like_46 rfl ?_
      refine xe_getP dX9_like_47 flX9_26 (st0 hs) (by decide) rfl P0 ?_
      refine xe_getIv dX9_like_50 flX9_117 (st22 hs) (by decide) rfl (v := nI nm) (P3) ?_
      refine xn_icmp_ge (tgt := 92) dX9_like_53 rfl (by omega) (by omega) (fun c4 => ?_) (fun c4 => ?_)
      · refine xe_return dX9_like_92 rfl ?_
        exact ⟨rfl, _, _, _, rfl, e1⟩
      · omega
theorem c_X9_likeAll (l : Launch) (g : q_GP) (h : q_H) (hs : q_Stat h) {p nm nd nc mo n : Nat} (hp : rk_P h p nm nd nc mo n) {LW : q_LW} (hL : rk_L h p n LW) {w : Nat} (hw : q_I h 34 6 = nI w) (hw2 : w < 2 ^ 20) : q_Ct l g 3 mX9_likeAll [.ref 0] h (fun r h1 => r = none ∧ ∃ V S L T, h1 = q_wI (q_wI (q_wI (q_wI (q_wI h (p + 10) V) (p + 11) S) 116 (upd (q_I h 116) 3 (nI nm))) 117 L) 118 T ∧ ∀ o, o < nm → T o = q_s8 (q_cr h) (8 * o) ∧ ∀ v, v < nm → L (v * 8 + o) = q_kv (q_cr h) (q_I h (p + 5)) LW nc w v o (q_s8 (q_cr h) (8 * o))) := by
  obtain ⟨P0, P1, P2, P2b, P3, P3b, P4, P4b, P5, P5b, P6, P6b⟩ := id hp
  rcases P1 with rfl | rfl
  · refine q_CtV mvX9_likeAll (Nat.le_of_ble_eq_true rfl) ?_
    refine xe_aload_n dX9_likeAll_0 rfl ?_
    refine xe_getP dX9_likeAll_1 flX9_72 (st0 hs) (by decide) rfl (sp0_10 hs) ?_
    refine xe_aload_n dX9_likeAll_4 rfl ?_
    refine xe_getP dX9_likeAll_5 flX9_26 (st0 hs) (by decide) rfl P0 ?_
    refine xe_getIv dX9_likeAll_8 flX9_117 (st10 hs) (by decide) rfl (v := nI nm) (P3) ?_
    refine xe_putI dX9_likeAll_11 flX9_323 (st116 hs) (by decide) rfl (Or.inl rfl) rfl rfl ?_
    refine xe_iconst dX9_likeAll_14 kc_0 ?_
    refine xe_istore_n (i := 1) dX9_likeAll_15 rfl (by decide) rfl ?_
    refine xe_fin (L' := (fun (m_ : Nat) (s1 : (Nat → Int32) × (Nat → Int32) × (Nat → Int32) × (Nat → Int32)) => [(0, .ref 0), (1, .int (nI m_))]) 0 (q_I h 117, q_I h 118, q_I h 20, q_I h 21)) (h' := (fun (m_ : Nat) (s1 : (Nat → Int32) × (Nat → Int32) × (Nat → Int32) × (Nat → Int32)) => (q_wI (q_wI (q_wI (q_wI (q_wI h 20 s1.2.2.1) 21 s1.2.2.2) 116 (upd (q_I h 116) 3 (nI nm))) 117 s1.1) 118 s1.2.1)) 0 (q_I h 117, q_I h 118, q_I h 20, q_I h 21)) ?_ (And.intro rfl (And.intro rfl trivial)) (q_heq [20, 21, 116, 117, 118] (H := h) (by repeat (first | exact q_out_r | refine q_out_w rfl ?_)) (by repeat (first | exact q_out_r | refine q_out_w rfl ?_)) (And.intro rfl (And.intro rfl (And.intro (q_feq [3] (f := q_I h 116) (by repeat (first | exact q_fout_r | refine q_fout_w rfl ?_)) (by repeat (first | exact q_fout_r | refine q_fout_w rfl ?_)) (And.intro rfl trivial)) (And.intro rfl (And.intro rfl trivial))))))
    refine xe_loopI (σ := (Nat → Int32) × (Nat → Int32) × (Nat → Int32) × (Nat → Int32)) (nm) (fun i s => ∀ o, o < i → s.2.1 o = q_s8 (q_cr h) (8 * o) ∧ ∀ v, v < nm → s.1 (v * 8 + o) = q_kv (q_cr h) (q_I h (10 + 5)) LW nc w v o (q_s8 (q_cr h) (8 * o))) (fun (m_ : Nat) (s1 : (Nat → Int32) × (Nat → Int32) × (Nat → Int32) × (Nat → Int32)) => [(0, .ref 0), (1, .int (nI m_))]) (fun (m_ : Nat) (s1 : (Nat → Int32) × (Nat → Int32) × (Nat → Int32) × (Nat → Int32)) => (q_wI (q_wI (q_wI (q_wI (q_wI h 20 s1.2.2.1) 21 s1.2.2.2) 116 (upd (q_I h 116) 3 (nI nm))) 117 s1.1) 118 s1.2.1)) (q_I h 117, q_I h 118, q_I h 20, q_I h 21) (fun _ q => absurd q (Nat.not_lt_zero _)) (fun m_ hm_ s1 e1 K1 => ?_) (fun s1 e1 => ?_)
    · refine xe_iload_n dX9_likeAll_16 rfl ?_
      refine xe_aload_n dX9_likeAll_17 rfl ?_
      refine xe_getP dX9_likeAll_18 flX9_26 (st0 hs) (by decide) rfl P0 ?_
      refine xe_getIv dX9_likeAll_21 flX9_117 (st10 hs) (by decide) rfl (v := nI nm) (P3) ?_
      refine xn_icmp_ge (tgt := 46) dX9_likeAll_24 rfl (by omega) (by omega) (fun c2 => ?_) (fun c2 => ?_)
      · omega
      · refine xe_aload_n dX9_likeAll_27 rfl ?_
        refine xe_iload_n dX9_likeAll_28 rfl ?_
        refine xe_aload_n dX9_likeAll_29 rfl ?_
        refine xe_getP dX9_likeAll_30 flX9_36 (st0 hs) (by decide) rfl (sp0_4 hs) ?_
        refine xe_iload_n dX9_likeAll_33 rfl ?_
        refine xe_callVI (d' := 0) (y' := mX6_inRow) dX9_likeAll_34 mlX9_140 mvX6_inRow rfl (st34 hs) (by decide) rfl (by decide) (by decide) (Nat.le_of_ble_eq_true rfl) (c_X6_inRow l g _ (by exact hs) _ (by omega)) rfl ?_
        refine xe_top (v' := q_s8 (q_cr h) (8 * m_)) (q_cr_in h (by omega)) ?_
        refine xe_callVVq (d' := 2) (y' := mX9_like) dX9_likeAll_37 mlX9_324 mvX9_like rfl (st0 hs) (by decide) rfl (by decide) (by decide) (Nat.le_of_ble_eq_true rfl) (c_X9_like l g _ (by exact hs) (by exact hp) (by exact hL) (by exact hw) hw2 (by omega) _) rfl (fun h3 hq3 => ?_)
        obtain ⟨V3, S3, L3, rfl, hl1_3, hl2_3⟩ := hq3
        refine xn_iinc dX9_likeAll_40 rfl kc_1 ?_
        refine xe_goto (tgt := 16) dX9_likeAll_43 rfl ?_
        exact xe_fin (K1 (L3, upd s1.2.1 m_ (q_s8 (q_cr h) (8 * m_)), V3, S3) (fun o q => ⟨q_updw (fun e => by rw [e]) (fun e => (e1 o (by omega)).1), fun v hv => if e : o = m_ then by subst e; exact hl1_3 v hv else (hl2_3 _ (by omega)).trans ((e1 o (by omega)).2 v hv)⟩)) (And.intro rfl (And.intro rfl trivial)) (q_heq [20, 21, 116, 117, 118] (H := h) (by repeat (first | exact q_out_r | refine q_out_w rfl ?_)) (by repeat (first | exact q_out_r | refine q_out_w rfl ?_)) (And.intro rfl (And.intro rfl (And.intro (q_feq [3] (f := q_I h 116) (by repeat (first | exact q_fout_r | refine q_fout_w rfl ?_)) (by repeat (first | exact q_fout_r | refine q_fout_w rfl ?_)) (And.intro rfl trivial)) (And.intro rfl (And.intro rfl trivial))))))
    · refine xe_iload_n dX9_likeAll_16 rfl ?_
      refine xe_aload_n dX9_likeAll_17 rfl ?_
      refine xe_getP dX9_likeAll_18 flX9_26 (st0 hs) (by decide) rfl P0 ?_
      refine xe_getIv dX9_likeAll_21 flX9_117 (st10 hs) (by decide) rfl (v := nI nm) (P3) ?_
      refine xn_icmp_ge (tgt := 46) dX9_likeAll_24 rfl (by omega) (by omega) (fun c4 => ?_) (fun c4 => ?_)
      · refine xe_return dX9_likeAll_46 rfl ?_
        exact ⟨rfl, _, _, _, _, rfl, e1⟩
      · omega
  · refine q_CtV mvX9_likeAll (Nat.le_of_ble_eq_true rfl) ?_
    refine xe_aload_n dX9_likeAll_0 rfl ?_
    refine xe_getP dX9_likeAll_1 flX9_72 (st0 hs) (by decide) rfl (sp0_10 hs) ?_
    refine xe_aload_n dX9_likeAll_4 rfl ?_
    refine xe_getP dX9_likeAll_5 flX9_26 (st0 hs) (by decide) rfl P0 ?_
    refine xe_getIv dX9_likeAll_8 flX9_117 (st22 hs) (by decide) rfl (v := nI nm) (P3) ?_
    refine xe_putI dX9_likeAll_11 flX9_323 (st116 hs) (by decide) rfl (Or.inl rfl) rfl rfl ?_
    refine xe_iconst dX9_likeAll_14 kc_0 ?_
    refine xe_istore_n (i := 1) dX9_likeAll_15 rfl (by decide) rfl ?_
    refine xe_fin (L' := (fun (m_ : Nat) (s1 : (Nat → Int32) × (Nat → Int32) × (Nat → Int32) × (Nat → Int32)) => [(0, .ref 0), (1, .int (nI m_))]) 0 (q_I h 117, q_I h 118, q_I h 32, q_I h 33)) (h' := (fun (m_ : Nat) (s1 : (Nat → Int32) × (Nat → Int32) × (Nat → Int32) × (Nat → Int32)) => (q_wI (q_wI (q_wI (q_wI (q_wI h 32 s1.2.2.1) 33 s1.2.2.2) 116 (upd (q_I h 116) 3 (nI nm))) 117 s1.1) 118 s1.2.1)) 0 (q_I h 117, q_I h 118, q_I h 32, q_I h 33)) ?_ (And.intro rfl (And.intro rfl trivial)) (q_heq [32, 33, 116, 117, 118] (H := h) (by repeat (first | exact q_out_r | refine q_out_w rfl ?_)) (by repeat (first | exact q_out_r | refine q_out_w rfl ?_)) (And.intro rfl (And.intro rfl (And.intro (q_feq [3] (f := q_I h 116) (by repeat (first | exact q_fout_r | refine q_fout_w rfl ?_)) (by repeat (first | exact q_fout_r | refine q_fout_w rfl ?_)) (And.intro rfl trivial)) (And.intro rfl (And.intro rfl trivial))))))
    refine xe_loopI (σ := (Nat → Int32) × (Nat → Int32) × (Nat → Int32) × (Nat → Int32)) (nm) (fun i s => ∀ o, o < i → s.2.1 o = q_s8 (q_cr h) (8 * o) ∧ ∀ v, v < nm → s.1 (v * 8 + o) = q_kv (q_cr h) (q_I h (22 + 5)) LW nc w v o (q_s8 (q_cr h) (8 * o))) (fun (m_ : Nat) (s1 : (Nat → Int32) × (Nat → Int32) × (Nat → Int32) × (Nat → Int32)) => [(0, .ref 0), (1, .int (nI m_))]) (fun (m_ : Nat) (s1 : (Nat → Int32) × (Nat → Int32) × (Nat → Int32) × (Nat → Int32)) => (q_wI (q_wI (q_wI (q_wI (q_wI h 32 s1.2.2.1) 33 s1.2.2.2) 116 (upd (q_I h 116) 3 (nI nm))) 117 s1.1) 118 s1.2.1)) (q_I h 117, q_I h 118, q_I h 32, q_I h 33) (fun _ q => absurd q (Nat.not_lt_zero _)) (fun m_ hm_ s1 e1 K1 => ?_) (fun s1 e1 => ?_)
    · refine xe_iload_n dX9_likeAll_16 rfl ?_
      refine xe_aload_n dX9_likeAll_17 rfl ?_
      refine xe_getP dX9_likeAll_18 flX9_26 (st0 hs) (by decide) rfl P0 ?_
      refine xe_getIv dX9_likeAll_21 flX9_117 (st22 hs) (by decide) rfl (v := nI nm) (P3) ?_
      refine xn_icmp_ge (tgt := 46) dX9_likeAll_24 rfl (by omega) (by omega) (fun c2 => ?_) (fun c2 => ?_)
      · omega
      · refine xe_aload_n dX9_likeAll_27 rfl ?_
        refine xe_iload_n dX9_likeAll_28 rfl ?_
        refine xe_aload_n dX9_likeAll_29 rfl ?_
        refine xe_getP dX9_likeAll_30 flX9_36 (st0 hs) (by decide) rfl (sp0_4 hs) ?_
        refine xe_iload_n dX9_likeAll_33 rfl ?_
        refine xe_callVI (d' := 0) (y' := mX6_inRow) dX9_likeAll_34 mlX9_140 mvX6_inRow rfl (st34 hs) (by decide) rfl (by decide) (by decide) (Nat.le_of_ble_eq_true rfl) (c_X6_inRow l g _ (by exact hs) _ (by omega)) rfl ?_
        refine xe_top (v' := q_s8 (q_cr h) (8 * m_)) (q_cr_in h (by omega)) ?_
        refine xe_callVVq (d' := 2) (y' := mX9_like) dX9_likeAll_37 mlX9_324 mvX9_like rfl (st0 hs) (by decide) rfl (by decide) (by decide) (Nat.le_of_ble_eq_true rfl) (c_X9_like l g _ (by exact hs) (by exact hp) (by exact hL) (by exact hw) hw2 (by omega) _) rfl (fun h3 hq3 => ?_)
        obtain ⟨V3, S3, L3, rfl, hl1_3, hl2_3⟩ := hq3
        refine xn_iinc dX9_likeAll_40 rfl kc_1 ?_
        refine xe_goto (tgt := 16) dX9_likeAll_43 rfl ?_
        exact xe_fin (K1 (L3, upd s1.2.1 m_ (q_s8 (q_cr h) (8 * m_)), V3, S3) (fun o q => ⟨q_updw (fun e => by rw [e]) (fun e => (e1 o (by omega)).1), fun v hv => if e : o = m_ then by subst e; exact hl1_3 v hv else (hl2_3 _ (by omega)).trans ((e1 o (by omega)).2 v hv)⟩)) (And.intro rfl (And.intro rfl trivial)) (q_heq [32, 33, 116, 117, 118] (H := h) (by repeat (first | exact q_out_r | refine q_out_w rfl ?_)) (by repeat (first | exact q_out_r | refine q_out_w rfl ?_)) (And.intro rfl (And.intro rfl (And.intro (q_feq [3] (f := q_I h 116) (by repeat (first | exact q_fout_r | refine q_fout_w rfl ?_)) (by repeat (first | exact q_fout_r | refine q_fout_w rfl ?_)) (And.intro rfl trivial)) (And.intro rfl (And.intro rfl trivial))))))
    · refine xe_iload_n dX9_likeAll_16 rfl ?_
      refine xe_aload_n dX9_likeAll_17 rfl ?_
      refine xe_getP dX9_likeAll_18 flX9_26 (st0 hs) (by decide) rfl P0 ?_
      refine xe_getIv dX9_likeAll_21 flX9_117 (st22 hs) (by decide) rfl (v := nI nm) (P3) ?_
      refine xn_icmp_ge (tgt := 46) dX9_likeAll_24 rfl (by omega) (by omega) (fun c4 => ?_) (fun c4 => ?_)
      · refine xe_return dX9_likeAll_46 rfl ?_
        exact ⟨rfl, _, _, _, _, rfl, e1⟩
      · omega
/-- rows of the class that hold nothing from call to call -/
def q_ksl : List Nat := [20, 21, 32, 33, 97, 98, 99, 100, 102, 103, 104, 105, 106, 107, 108, 109, 110, 113, 114, 115, 116, 117, 118, 119, 120, 121]
def q_kag (h h1 : q_H) : Prop := q_out q_ksl h h1
theorem q_kag_o {h h1 : q_H} (a : q_out q_ksl h h1) : q_kag h h1 := a
theorem q_kag_r (h : q_H) : q_kag h h := q_out_r
theorem c_X9_elected_0 (l : Launch) (g : q_GP) (h : q_H) (hs : q_Stat h) {p nm nd nc mo n : Nat} (hp : rk_P h p nm nd nc mo n) {LW : q_LW} (hL : rk_L h p n LW) {w : Nat} (hw : q_I h 34 6 = nI w) (hw2 : w < 2 ^ 20) (hn0 : 0 < nm) : q_Ct l g 4 mX9_elected [.ref 0, .int (nI 0)] h (fun r h1 => r = some (.int (nI (q_who (q_cr h) (q_I h (p + 5)) (fun k => q_s8 (q_cr h) (8 * k)) LW 0 nm nc w))) ∧ q_kag h h1) := by
  obtain ⟨P0, P1, P2, P2b, P3, P3b, P4, P4b, P5, P5b, P6, P6b⟩ := id hp
  rcases P1 with rfl | rfl
  · refine q_CtV mvX9_elected (Nat.le_of_ble_eq_true rfl) ?_
    refine xe_iload_n dX9_elected_0 rfl ?_
    refine xn_if_lt (tgt := 9) dX9_elected_1 rfl (by omega) ?_
    refine xe_iload_n dX9_elected_4 rfl ?_
    refine xe_iconst dX9_elected_5 kc_1 ?_
    refine xn_icmp_le (tgt := 11) dX9_elected_6 rfl (by omega) (by omega) (fun c2 => ?_) (fun c2 => ?_)
    · refine xe_aload_n dX9_elected_11 rfl ?_
      refine xe_getP dX9_elected_12 flX9_26 (st0 hs) (by decide) rfl P0 ?_
      refine xe_getIv dX9_elected_15 flX9_117 (st10 hs) (by decide) rfl (v := nI nm) (P3) ?_
      refine xn_if_ne (tgt := 24) dX9_elected_18 rfl (by omega) (fun c3 => ?_) (fun c3 => ?_)
      · refine xe_aload_n dX9_elected_24 rfl ?_
        refine xe_callVVq (d' := 3) (y' := mX9_likeAll) dX9_elected_25 mlX9_163 mvX9_likeAll rfl (st0 hs) (by decide) rfl (by decide) (by decide) (Nat.le_of_ble_eq_true rfl) (c_X9_likeAll l g _ (by exact hs) (by exact hp) (by exact hL) (by exact hw) hw2) rfl (fun h4 hq4 => ?_)
        obtain ⟨V4, S4, L4, T4, rfl, hg4⟩ := hq4
        refine xe_aload_n dX9_elected_28 rfl ?_
        refine xe_getP dX9_elected_29 flX9_72 (st0 hs) (by decide) rfl (sp0_10 hs) ?_
        refine xe_callVIq (d' := 1) (y' := mX2_elect) dX9_elected_32 mlX9_335 mvX2_elect rfl (st116 hs) (by decide) rfl (by decide) (by decide) (Nat.le_of_ble_eq_true rfl) (c_X2_elect l g _ (by exact hs) (nm := nm) (by exact rfl) hn0 P3b) rfl (fun h5 hq5 => ?_)
        obtain ⟨W5, rfl, hw5⟩ := hq5
        have hwho := q_who_c (L := L4) (T := T4) (Hx := (fun k => q_s8 (q_cr h) (8 * k))) (R := q_cr h) (C := q_I h (10 + 5)) (LW := LW) (nc := nc) (w := w) hn0 P3b (hg4)
        refine xe_top (v' := nI (q_who (q_cr h) (q_I h (10 + 5)) (fun k => q_s8 (q_cr h) (8 * k)) LW 0 nm nc w)) (congrArg nI hwho.1) ?_
        have hwl := q_who_lt (q_cr h) (q_I h (10 + 5)) (fun k => q_s8 (q_cr h) (8 * k)) LW 0 nm nc w hn0
        refine xe_istore_n (i := 2) dX9_elected_35 rfl (by decide) rfl ?_
        refine xe_iload_n dX9_elected_36 rfl ?_
        refine xn_if_ne (tgt := 44) dX9_elected_37 rfl (by omega) (fun c6 => ?_) (fun c6 => ?_)
        · omega
        · refine xe_iload_n dX9_elected_40 rfl ?_
          refine xe_goto (tgt := 53) dX9_elected_41 rfl ?_
          refine xe_ireturn dX9_elected_53 rfl (by first | rfl | decide +kernel) ?_
          exact ⟨rfl, (q_kag_o (by repeat (first | exact q_out_r | refine q_out_w rfl ?_)))⟩
      · omega
    · omega
  · refine q_CtV mvX9_elected (Nat.le_of_ble_eq_true rfl) ?_
    refine xe_iload_n dX9_elected_0 rfl ?_
    refine xn_if_lt (tgt := 9) dX9_elected_1 rfl (by omega) ?_
    refine xe_iload_n dX9_elected_4 rfl ?_
    refine xe_iconst dX9_elected_5 kc_1 ?_
    refine xn_icmp_le (tgt := 11) dX9_elected_6 rfl (by omega) (by omega) (fun c2 => ?_) (fun c2 => ?_)
    · refine xe_aload_n dX9_elected_11 rfl ?_
      refine xe_getP dX9_elected_12 flX9_26 (st0 hs) (by decide) rfl P0 ?_
      refine xe_getIv dX9_elected_15 flX9_117 (st22 hs) (by decide) rfl (v := nI nm) (P3) ?_
      refine xn_if_ne (tgt := 24) dX9_elected_18 rfl (by omega) (fun c3 => ?_) (fun c3 => ?_)
      · refine xe_aload_n dX9_elected_24 rfl ?_
        refine xe_callVVq (d' := 3) (y' := mX9_likeAll) dX9_elected_25 mlX9_163 mvX9_likeAll rfl (st0 hs) (by decide) rfl (by decide) (by decide) (Nat.le_of_ble_eq_true rfl) (c_X9_likeAll l g _ (by exact hs) (by exact hp) (by exact hL) (by exact hw) hw2) rfl (fun h4 hq4 => ?_)
        obtain ⟨V4, S4, L4, T4, rfl, hg4⟩ := hq4
        refine xe_aload_n dX9_elected_28 rfl ?_
        refine xe_getP dX9_elected_29 flX9_72 (st0 hs) (by decide) rfl (sp0_10 hs) ?_
        refine xe_callVIq (d' := 1) (y' := mX2_elect) dX9_elected_32 mlX9_335 mvX2_elect rfl (st116 hs) (by decide) rfl (by decide) (by decide) (Nat.le_of_ble_eq_true rfl) (c_X2_elect l g _ (by exact hs) (nm := nm) (by exact rfl) hn0 P3b) rfl (fun h5 hq5 => ?_)
        obtain ⟨W5, rfl, hw5⟩ := hq5
        have hwho := q_who_c (L := L4) (T := T4) (Hx := (fun k => q_s8 (q_cr h) (8 * k))) (R := q_cr h) (C := q_I h (22 + 5)) (LW := LW) (nc := nc) (w := w) hn0 P3b (hg4)
        refine xe_top (v' := nI (q_who (q_cr h) (q_I h (22 + 5)) (fun k => q_s8 (q_cr h) (8 * k)) LW 0 nm nc w)) (congrArg nI hwho.1) ?_
        have hwl := q_who_lt (q_cr h) (q_I h (22 + 5)) (fun k => q_s8 (q_cr h) (8 * k)) LW 0 nm nc w hn0
        refine xe_istore_n (i := 2) dX9_elected_35 rfl (by decide) rfl ?_
        refine xe_iload_n dX9_elected_36 rfl ?_
        refine xn_if_ne (tgt := 44) dX9_elected_37 rfl (by omega) (fun c6 => ?_) (fun c6 => ?_)
        · omega
        · refine xe_iload_n dX9_elected_40 rfl ?_
          refine xe_goto (tgt := 53) dX9_elected_41 rfl ?_
          refine xe_ireturn dX9_elected_53 rfl (by first | rfl | decide +kernel) ?_
          exact ⟨rfl, (q_kag_o (by repeat (first | exact q_out_r | refine q_out_w rfl ?_)))⟩
      · omega
    · omega
theorem c_X9_elected_1 (l : Launch) (g : q_GP) (h : q_H) (hs : q_Stat h) {p nm nd nc mo n : Nat} (hp : rk_P h p nm nd nc mo n) {LW : q_LW} (hL : rk_L h p n LW) {w : Nat} (hw : q_I h 34 6 = nI w) (hw2 : w < 2 ^ 20) (hn0 : 0 < nm) : q_Ct l g 4 mX9_elected [.ref 0, .int (nI 1)] h (fun r h1 => r = some (.int (q_vts (q_cr h) (q_I h (p + 5)) (fun k => q_s8 (q_cr h) (8 * k)) LW 0 nm nc w (q_who (q_cr h) (q_I h (p + 5)) (fun k => q_s8 (q_cr h) (8 * k)) LW 0 nm nc w))) ∧ q_kag h h1) := by
  obtain ⟨P0, P1, P2, P2b, P3, P3b, P4, P4b, P5, P5b, P6, P6b⟩ := id hp
  rcases P1 with rfl | rfl
  · refine q_CtV mvX9_elected (Nat.le_of_ble_eq_true rfl) ?_
    refine xe_iload_n dX9_elected_0 rfl ?_
    refine xn_if_lt (tgt := 9) dX9_elected_1 rfl (by omega) ?_
    refine xe_iload_n dX9_elected_4 rfl ?_
    refine xe_iconst dX9_elected_5 kc_1 ?_
    refine xn_icmp_le (tgt := 11) dX9_elected_6 rfl (by omega) (by omega) (fun c2 => ?_) (fun c2 => ?_)
    · refine xe_aload_n dX9_elected_11 rfl ?_
      refine xe_getP dX9_elected_12 flX9_26 (st0 hs) (by decide) rfl P0 ?_
      refine xe_getIv dX9_elected_15 flX9_117 (st10 hs) (by decide) rfl (v := nI nm) (P3) ?_
      refine xn_if_ne (tgt := 24) dX9_elected_18 rfl (by omega) (fun c3 => ?_) (fun c3 => ?_)
      · refine xe_aload_n dX9_elected_24 rfl ?_
        refine xe_callVVq (d' := 3) (y' := mX9_likeAll) dX9_elected_25 mlX9_163 mvX9_likeAll rfl (st0 hs) (by decide) rfl (by decide) (by decide) (Nat.le_of_ble_eq_true rfl) (c_X9_likeAll l g _ (by exact hs) (by exact hp) (by exact hL) (by exact hw) hw2) rfl (fun h4 hq4 => ?_)
        obtain ⟨V4, S4, L4, T4, rfl, hg4⟩ := hq4
        refine xe_aload_n dX9_elected_28 rfl ?_
        refine xe_getP dX9_elected_29 flX9_72 (st0 hs) (by decide) rfl (sp0_10 hs) ?_
        refine xe_callVIq (d' := 1) (y' := mX2_elect) dX9_elected_32 mlX9_335 mvX2_elect rfl (st116 hs) (by decide) rfl (by decide) (by decide) (Nat.le_of_ble_eq_true rfl) (c_X2_elect l g _ (by exact hs) (nm := nm) (by exact rfl) hn0 P3b) rfl (fun h5 hq5 => ?_)
        obtain ⟨W5, rfl, hw5⟩ := hq5
        have hwho := q_who_c (L := L4) (T := T4) (Hx := (fun k => q_s8 (q_cr h) (8 * k))) (R := q_cr h) (C := q_I h (10 + 5)) (LW := LW) (nc := nc) (w := w) hn0 P3b (hg4)
        refine xe_top (v' := nI (q_who (q_cr h) (q_I h (10 + 5)) (fun k => q_s8 (q_cr h) (8 * k)) LW 0 nm nc w)) (congrArg nI hwho.1) ?_
        have hwl := q_who_lt (q_cr h) (q_I h (10 + 5)) (fun k => q_s8 (q_cr h) (8 * k)) LW 0 nm nc w hn0
        refine xe_istore_n (i := 2) dX9_elected_35 rfl (by decide) rfl ?_
        refine xe_iload_n dX9_elected_36 rfl ?_
        refine xn_if_ne (tgt := 44) dX9_elected_37 rfl (by omega) (fun c6 => ?_) (fun c6 => ?_)
        · refine xe_aload_n dX9_elected_44 rfl ?_
          refine xe_getP dX9_elected_45 flX9_72 (st0 hs) (by decide) rfl (sp0_10 hs) ?_
          refine xe_getP dX9_elected_48 flX9_338 (st116 hs) (by decide) rfl (sp116_2 hs) ?_
          refine xe_iload_n dX9_elected_51 rfl ?_
          refine xn_ialdv dX9_elected_52 (st119 hs) (by omega) (by decide) (v := (q_vts (q_cr h) (q_I h (10 + 5)) (fun k => q_s8 (q_cr h) (8 * k)) LW 0 nm nc w (q_who (q_cr h) (q_I h (10 + 5)) (fun k => q_s8 (q_cr h) (8 * k)) LW 0 nm nc w))) ((hw5 _ (by omega)).trans (hwho.2 _ (by omega))) ?_
          refine xe_ireturn dX9_elected_53 rfl (by first | rfl | decide +kernel) ?_
          exact ⟨rfl, (q_kag_o (by repeat (first | exact q_out_r | refine q_out_w rfl ?_)))⟩
        · omega
      · omega
    · omega
  · refine q_CtV mvX9_elected (Nat.le_of_ble_eq_true rfl) ?_
    refine xe_iload_n dX9_elected_0 rfl ?_
    refine xn_if_lt (tgt := 9) dX9_elected_1 rfl (by omega) ?_
    refine xe_iload_n dX9_elected_4 rfl ?_
    refine xe_iconst dX9_elected_5 kc_1 ?_
    refine xn_icmp_le (tgt := 11) dX9_elected_6 rfl (by omega) (by omega) (fun c2 => ?_) (fun c2 => ?_)
    · refine xe_aload_n dX9_elected_11 rfl ?_
      refine xe_getP dX9_elected_12 flX9_26 (st0 hs) (by decide) rfl P0 ?_
      refine xe_getIv dX9_elected_15 flX9_117 (st22 hs) (by decide) rfl (v := nI nm) (P3) ?_
      refine xn_if_ne (tgt := 24) dX9_elected_18 rfl (by omega) (fun c3 => ?_) (fun c3 => ?_)
      · refine xe_aload_n dX9_elected_24 rfl ?_
        refine xe_callVVq (d' := 3) (y' := mX9_likeAll) dX9_elected_25 mlX9_163 mvX9_likeAll rfl (st0 hs) (by decide) rfl (by decide) (by decide) (Nat.le_of_ble_eq_true rfl) (c_X9_likeAll l g _ (by exact hs) (by exact hp) (by exact hL) (by exact hw) hw2) rfl (fun h4 hq4 => ?_)
        obtain ⟨V4, S4, L4, T4, rfl, hg4⟩ := hq4
        refine xe_aload_n dX9_elected_28 rfl ?_
        refine xe_getP dX9_elected_29 flX9_72 (st0 hs) (by decide) rfl (sp0_10 hs) ?_
        refine xe_callVIq (d' := 1) (y' := mX2_elect) dX9_elected_32 mlX9_335 mvX2_elect rfl (st116 hs) (by decide) rfl (by decide) (by decide) (Nat.le_of_ble_eq_true rfl) (c_X2_elect l g _ (by exact hs) (nm := nm) (by exact rfl) hn0 P3b) rfl (fun h5 hq5 => ?_)
        obtain ⟨W5, rfl, hw5⟩ := hq5
        have hwho := q_who_c (L := L4) (T := T4) (Hx := (fun k => q_s8 (q_cr h) (8 * k))) (R := q_cr h) (C := q_I h (22 + 5)) (LW := LW) (nc := nc) (w := w) hn0 P3b (hg4)
        refine xe_top (v' := nI (q_who (q_cr h) (q_I h (22 + 5)) (fun k => q_s8 (q_cr h) (8 * k)) LW 0 nm nc w)) (congrArg nI hwho.1) ?_
        have hwl := q_who_lt (q_cr h) (q_I h (22 + 5)) (fun k => q_s8 (q_cr h) (8 * k)) LW 0 nm nc w hn0
        refine xe_istore_n (i := 2) dX9_elected_35 rfl (by decide) rfl ?_
        refine xe_iload_n dX9_elected_36 rfl ?_
        refine xn_if_ne (tgt := 44) dX9_elected_37 rfl (by omega) (fun c6 => ?_) (fun c6 => ?_)
        · refine xe_aload_n dX9_elected_44 rfl ?_
          refine xe_getP dX9_elected_45 flX9_72 (st0 hs) (by decide) rfl (sp0_10 hs) ?_
          refine xe_getP dX9_elected_48 flX9_338 (st116 hs) (by decide) rfl (sp116_2 hs) ?_
          refine xe_iload_n dX9_elected_51 rfl ?_
          refine xn_ialdv dX9_elected_52 (st119 hs) (by omega) (by decide) (v := (q_vts (q_cr h) (q_I h (22 + 5)) (fun k => q_s8 (q_cr h) (8 * k)) LW 0 nm nc w (q_who (q_cr h) (q_I h (22 + 5)) (fun k => q_s8 (q_cr h) (8 * k)) LW 0 nm nc w))) ((hw5 _ (by omega)).trans (hwho.2 _ (by omega))) ?_
          refine xe_ireturn dX9_elected_53 rfl (by first | rfl | decide +kernel) ?_
          exact ⟨rfl, (q_kag_o (by repeat (first | exact q_out_r | refine q_out_w rfl ?_)))⟩
        · omega
      · omega
    · omega
theorem c_X9_elected_n (l : Launch) (g : q_GP) (h : q_H) (hs : q_Stat h) {p nm nd nc mo n : Nat} (hp : rk_P h p nm nd nc mo n) (hn : nm = 0) (x : Nat) (hx : x < 2) : q_Cd l g 4 mX9_elected [.ref 0, .int (nI x)] h (some (.int (-2))) h := by
  obtain ⟨P0, P1, P2, P2b, P3, P3b, P4, P4b, P5, P5b, P6, P6b⟩ := id hp
  rcases P1 with rfl | rfl
  · refine q_CdV mvX9_elected (Nat.le_of_ble_eq_true rfl) ?_
    refine xe_iload_n dX9_elected_0 rfl ?_
    refine xn_if_lt (tgt := 9) dX9_elected_1 rfl (by omega) ?_
    refine xe_iload_n dX9_elected_4 rfl ?_
    refine xe_iconst dX9_elected_5 kc_1 ?_
    refine xn_icmp_le (tgt := 11) dX9_elected_6 rfl (by omega) (by omega) (fun c2 => ?_) (fun c2 => ?_)
    · refine xe_aload_n dX9_elected_11 rfl ?_
      refine xe_getP dX9_elected_12 flX9_26 (st0 hs) (by decide) rfl P0 ?_
      refine xe_getIv dX9_elected_15 flX9_117 (st10 hs) (by decide) rfl (v := nI nm) (P3) ?_
      refine xn_if_ne (tgt := 24) dX9_elected_18 rfl (by omega) (fun c3 => ?_) (fun c3 => ?_)
      · omega
      · refine xe_bipush dX9_elected_21 kb_m2 ?_
        refine xe_ireturn dX9_elected_23 rfl (by first | rfl | decide +kernel) ?_
        exact ⟨rfl, rfl⟩
    · omega
  · refine q_CdV mvX9_elected (Nat.le_of_ble_eq_true rfl) ?_
    refine xe_iload_n dX9_elected_0 rfl ?_
    refine xn_if_lt (tgt := 9) dX9_elected_1 rfl (by omega) ?_
    refine xe_iload_n dX9_elected_4 rfl ?_
    refine xe_iconst dX9_elected_5 kc_1 ?_
    refine xn_icmp_le (tgt := 11) dX9_elected_6 rfl (by omega) (by omega) (fun c2 => ?_) (fun c2 => ?_)
    · refine xe_aload_n dX9_elected_11 rfl ?_
      refine xe_getP dX9_elected_12 flX9_26 (st0 hs) (by decide) rfl P0 ?_
      refine xe_getIv dX9_elected_15 flX9_117 (st22 hs) (by decide) rfl (v := nI nm) (P3) ?_
      refine xn_if_ne (tgt := 24) dX9_elected_18 rfl (by omega) (fun c3 => ?_) (fun c3 => ?_)
      · omega
      · refine xe_bipush dX9_elected_21 kb_m2 ?_
        refine xe_ireturn dX9_elected_23 rfl (by first | rfl | decide +kernel) ?_
        exact ⟨rfl, rfl⟩
    · omega
theorem c_X9_elected_f (l : Launch) (g : q_GP) (h : q_H) (hs : q_Stat h) {x : Int32} (hx : ¬ ∃ k, 0 ≤ k ∧ k ≤ 1 ∧ x = nI k) : q_Cd l g 4 mX9_elected [.ref 0, .int x] h (some (.int (-1))) h := by
  refine q_CdV mvX9_elected (Nat.le_of_ble_eq_true rfl) ?_
  refine xe_iload_n dX9_elected_0 rfl ?_
  refine xe_if_lt (tgt := 9) dX9_elected_1 rfl (fun c1 => ?_) (fun c1 => ?_)
  · refine xe_iconst dX9_elected_9 kc_m1 ?_
    refine xe_ireturn dX9_elected_10 rfl (by first | rfl | decide +kernel) ?_
    exact ⟨rfl, rfl⟩
  · refine xe_iload_n dX9_elected_4 rfl ?_
    refine xe_iconst dX9_elected_5 kc_1 ?_
    refine xe_icmp_le (tgt := 11) dX9_elected_6 rfl (fun c2 => ?_) (fun c2 => ?_)
    · exact absurd (q_rng (Int32.not_lt.mp c1) c2) hx
    · refine xe_iconst dX9_elected_9 kc_m1 ?_
      refine xe_ireturn dX9_elected_10 rfl (by first | rfl | decide +kernel) ?_
      exact ⟨rfl, rfl⟩
theorem c_X9_choiceOf (l : Launch) (g : q_GP) (h : q_H) (hs : q_Stat h) {p nm nd nc mo n : Nat} (hp : rk_P h p nm nd nc mo n) {LW : q_LW} (hL : rk_L h p n LW) {w : Nat} (hw : q_I h 34 6 = nI w) (hw2 : w < 2 ^ 20) {m : Nat} (hm : m < nm) : q_Ct l g 4 mX9_choiceOf [.ref 0, .int (nI m)] h (fun r h1 => r = some (.int (nI ((q_vb (q_vv (q_cr h) (q_I h (p + 5)) (fun k => q_s8 (q_cr h) (8 * k)) LW 0 nc w m) nm).1))) ∧ q_kag h h1) := by
  obtain ⟨P0, P1, P2, P2b, P3, P3b, P4, P4b, P5, P5b, P6, P6b⟩ := id hp
  rcases P1 with rfl | rfl
  · refine q_CtV mvX9_choiceOf (Nat.le_of_ble_eq_true rfl) ?_
    refine xe_aload_n dX9_choiceOf_0 rfl ?_
    refine xe_callVVq (d' := 3) (y' := mX9_likeAll) dX9_choiceOf_1 mlX9_163 mvX9_likeAll rfl (st0 hs) (by decide) rfl (by decide) (by decide) (Nat.le_of_ble_eq_true rfl) (c_X9_likeAll l g _ (by exact hs) (by exact hp) (by exact hL) (by exact hw) hw2) rfl (fun h1 hq1 => ?_)
    obtain ⟨V1, S1, L1, T1, rfl, hg1⟩ := hq1
    refine xe_aload_n dX9_choiceOf_4 rfl ?_
    refine xe_getP dX9_choiceOf_5 flX9_72 (st0 hs) (by decide) rfl (sp0_10 hs) ?_
    refine xe_iload_n dX9_choiceOf_8 rfl ?_
    refine xe_callVI (d' := 0) (y' := mX2_choiceOf) dX9_choiceOf_9 mlX9_166 mvX2_choiceOf rfl (st116 hs) (by decide) rfl (by decide) (by decide) (Nat.le_of_ble_eq_true rfl) (c_X2_choiceOf l g _ (by exact hs) (nm := nm) (by exact rfl) (by omega) P3b (by omega)) rfl ?_
    refine xe_top (v' := nI ((q_vb (q_vv (q_cr h) (q_I h (10 + 5)) (fun k => q_s8 (q_cr h) (8 * k)) LW 0 nc w m) nm).1)) (congrArg nI ?_) ?_
    · obtain ⟨j, rfl⟩ : ∃ j, nm = j + 1 := ⟨nm - 1, by omega⟩
      rw [q_chc_vb]
      exact q_chc_co _ (fun k hk => (hg1 k (by omega)).2 m hm)
    refine xe_ireturn dX9_choiceOf_12 rfl (by first | rfl | decide +kernel) ?_
    exact ⟨rfl, (q_kag_o (by repeat (first | exact q_out_r | refine q_out_w rfl ?_)))⟩
  · refine q_CtV mvX9_choiceOf (Nat.le_of_ble_eq_true rfl) ?_
    refine xe_aload_n dX9_choiceOf_0 rfl ?_
    refine xe_callVVq (d' := 3) (y' := mX9_likeAll) dX9_choiceOf_1 mlX9_163 mvX9_likeAll rfl (st0 hs) (by decide) rfl (by decide) (by decide) (Nat.le_of_ble_eq_true rfl) (c_X9_likeAll l g _ (by exact hs) (by exact hp) (by exact hL) (by exact hw) hw2) rfl (fun h1 hq1 => ?_)
    obtain ⟨V1, S1, L1, T1, rfl, hg1⟩ := hq1
    refine xe_aload_n dX9_choiceOf_4 rfl ?_
    refine xe_getP dX9_choiceOf_5 flX9_72 (st0 hs) (by decide) rfl (sp0_10 hs) ?_
    refine xe_iload_n dX9_choiceOf_8 rfl ?_
    refine xe_callVI (d' := 0) (y' := mX2_choiceOf) dX9_choiceOf_9 mlX9_166 mvX2_choiceOf rfl (st116 hs) (by decide) rfl (by decide) (by decide) (Nat.le_of_ble_eq_true rfl) (c_X2_choiceOf l g _ (by exact hs) (nm := nm) (by exact rfl) (by omega) P3b (by omega)) rfl ?_
    refine xe_top (v' := nI ((q_vb (q_vv (q_cr h) (q_I h (22 + 5)) (fun k => q_s8 (q_cr h) (8 * k)) LW 0 nc w m) nm).1)) (congrArg nI ?_) ?_
    · obtain ⟨j, rfl⟩ : ∃ j, nm = j + 1 := ⟨nm - 1, by omega⟩
      rw [q_chc_vb]
      exact q_chc_co _ (fun k hk => (hg1 k (by omega)).2 m hm)
    refine xe_ireturn dX9_choiceOf_12 rfl (by first | rfl | decide +kernel) ?_
    exact ⟨rfl, (q_kag_o (by repeat (first | exact q_out_r | refine q_out_w rfl ?_)))⟩
theorem c_X9_bald_t (l : Launch) (g : q_GP) (h : q_H) (hs : q_Stat h) {p nm nd nc mo n : Nat} (hp : rk_P h p nm nd nc mo n) {LW : q_LW} (hL : rk_L h p n LW) {w : Nat} (hw : q_I h 34 6 = nI w) (hw2 : w < 2 ^ 20) {m hv : Nat} (hm : m < nm) (hv1 : q_s8 (q_cr h) (8 * m) = nI hv) (hv2 : hv < 2 ^ 30) : q_Ct l g 4 mX9_bald [.ref 0, .int (nI m)] h (fun r h1 => r = some (.int (if q_fst (q_balP (q_cr h) (q_I h (p + 5)) LW 0 nm nc w m hv) (hv + 1) < hv + 1 then nI (q_fst (q_balP (q_cr h) (q_I h (p + 5)) LW 0 nm nc w m hv) (hv + 1)) else (-2))) ∧ q_kag h h1) := by
  have hn0 : 0 < nm := by omega
  obtain ⟨P0, P1, P2, P2b, P3, P3b, P4, P4b, P5, P5b, P6, P6b⟩ := id hp
  rcases P1 with rfl | rfl
  · refine q_CtV mvX9_bald (Nat.le_of_ble_eq_true rfl) ?_
    refine xe_aload_n dX9_bald_0 rfl ?_
    refine xe_iload_n dX9_bald_1 rfl ?_
    refine xe_callVI (d' := 0) (y' := mX9_isMan) dX9_bald_2 mlX9_134 mvX9_isMan rfl (st0 hs) (by decide) rfl (by decide) (by decide) (Nat.le_of_ble_eq_true rfl) (c_X9_isMan_t l g _ (by exact hs) (by exact hp) (by omega)) rfl ?_
    refine xn_if_ne (tgt := 10) dX9_bald_5 rfl (by omega) (fun c1 => ?_) (fun c1 => ?_)
    · refine xe_aload_n dX9_bald_10 rfl ?_
      refine xe_callVVq (d' := 3) (y' := mX9_likeAll) dX9_bald_11 mlX9_163 mvX9_likeAll rfl (st0 hs) (by decide) rfl (by decide) (by decide) (Nat.le_of_ble_eq_true rfl) (c_X9_likeAll l g _ (by exact hs) (by exact hp) (by exact hL) (by exact hw) hw2) rfl (fun h2 hq2 => ?_)
      obtain ⟨V2, S2, L2, T2, rfl, hg2⟩ := hq2
      refine xe_aload_n dX9_bald_14 rfl ?_
      refine xe_getP dX9_bald_15 flX9_36 (st0 hs) (by decide) rfl (sp0_4 hs) ?_
      refine xe_iload_n dX9_bald_18 rfl ?_
      refine xe_callVI (d' := 0) (y' := mX6_inRow) dX9_bald_19 mlX9_140 mvX6_inRow rfl (st34 hs) (by decide) rfl (by decide) (by decide) (Nat.le_of_ble_eq_true rfl) (c_X6_inRow l g _ (by exact hs) _ (by omega)) rfl ?_
      refine xe_top (v' := q_s8 (q_cr h) (8 * m)) (q_cr_in h (by omega)) ?_
      refine xe_top (v' := nI hv) (hv1) ?_
      refine xe_istore_n (i := 2) dX9_bald_22 rfl (by decide) rfl ?_
      refine xe_iconst dX9_bald_23 kc_0 ?_
      refine xe_istore_n (i := 3) dX9_bald_24 rfl (by decide) rfl ?_
      refine xe_fin (L' := (fun (i_ : Nat) (s3 : (Nat → Int32) × (Nat → Int32) × (Nat → Int32) × (Nat → Int32) × (Nat → Int32)) => [(0, .ref 0), (1, .int (nI m)), (2, .int (nI hv)), (3, .int (nI i_))]) 0 (L2, T2, q_I h 119, V2, S2)) (h' := (fun (i_ : Nat) (s3 : (Nat → Int32) × (Nat → Int32) × (Nat → Int32) × (Nat → Int32) × (Nat → Int32)) => (q_wI (q_wI (q_wI (q_wI (q_wI (q_wI h 20 s3.2.2.2.1) 21 s3.2.2.2.2) 116 (upd (q_I h 116) 3 (nI nm))) 117 s3.1) 118 s3.2.1) 119 s3.2.2.1)) 0 (L2, T2, q_I h 119, V2, S2)) ?_ (And.intro rfl (And.intro rfl (And.intro rfl (And.intro rfl trivial)))) (q_heq [20, 21, 116, 117, 118, 119] (H := h) (by repeat (first | exact q_out_r | refine q_out_w rfl ?_)) (by repeat (first | exact q_out_r | refine q_out_w rfl ?_)) (And.intro rfl (And.intro rfl (And.intro (q_feq [3] (f := q_I h 116) (by repeat (first | exact q_fout_r | refine q_fout_w rfl ?_)) (by repeat (first | exact q_fout_r | refine q_fout_w rfl ?_)) (And.intro rfl trivial)) (And.intro rfl (And.intro rfl (And.intro rfl trivial)))))))
      refine xe_loopI (σ := (Nat → Int32) × (Nat → Int32) × (Nat → Int32) × (Nat → Int32) × (Nat → Int32)) (hv + 1) (fun i s => (∀ o, o < nm → o ≠ m → s.2.1 o = q_s8 (q_cr h) (8 * o) ∧ ∀ v, v < nm → s.1 (v * 8 + o) = q_kv (q_cr h) (q_I h (10 + 5)) LW nc w v o (q_s8 (q_cr h) (8 * o))) ∧ ∀ j, j < i → q_balP (q_cr h) (q_I h (10 + 5)) LW 0 nm nc w m hv j = false) (fun (i_ : Nat) (s3 : (Nat → Int32) × (Nat → Int32) × (Nat → Int32) × (Nat → Int32) × (Nat → Int32)) => [(0, .ref 0), (1, .int (nI m)), (2, .int (nI hv)), (3, .int (nI i_))]) (fun (i_ : Nat) (s3 : (Nat → Int32) × (Nat → Int32) × (Nat → Int32) × (Nat → Int32) × (Nat → Int32)) => (q_wI (q_wI (q_wI (q_wI (q_wI (q_wI h 20 s3.2.2.2.1) 21 s3.2.2.2.2) 116 (upd (q_I h 116) 3 (nI nm))) 117 s3.1) 118 s3.2.1) 119 s3.2.2.1)) (L2, T2, q_I h 119, V2, S2) (⟨fun o ho _ => hg2 o ho, fun _ q => absurd q (Nat.not_lt_zero _)⟩) (fun i_ hi_ s3 e3 K3 => ?_) (fun s3 e3 => ?_)
      · refine xe_iload_n dX9_bald_25 rfl ?_
        refine xe_iload_n dX9_bald_26 rfl ?_
        refine xn_icmp_gt (tgt := 57) dX9_bald_27 rfl (by omega) (by omega) (fun c4 => ?_) (fun c4 => ?_)
        · omega
        · refine xe_aload_n dX9_bald_30 rfl ?_
          refine xe_iload_n dX9_bald_31 rfl ?_
          refine xe_iload_n dX9_bald_32 rfl ?_
          refine xe_iload_n dX9_bald_33 rfl ?_
          refine xn_isub dX9_bald_34 (by omega) ?_
          refine xe_callVVq (d' := 2) (y' := mX9_like) dX9_bald_35 mlX9_324 mvX9_like rfl (st0 hs) (by decide) rfl (by decide) (by decide) (Nat.le_of_ble_eq_true rfl) (c_X9_like l g _ (by exact hs) (by exact hp) (by exact hL) (by exact hw) hw2 (by omega) _) rfl (fun h5 hq5 => ?_)
          obtain ⟨V5, S5, L5, rfl, hl1_5, hl2_5⟩ := hq5
          refine xe_aload_n dX9_bald_38 rfl ?_
          refine xe_getP dX9_bald_39 flX9_72 (st0 hs) (by decide) rfl (sp0_10 hs) ?_
          refine xe_callVIq (d' := 1) (y' := mX2_elect) dX9_bald_42 mlX9_335 mvX2_elect rfl (st116 hs) (by decide) rfl (by decide) (by decide) (Nat.le_of_ble_eq_true rfl) (c_X2_elect l g _ (by exact hs) (nm := nm) (by exact rfl) hn0 P3b) rfl (fun h6 hq6 => ?_)
          obtain ⟨W6, rfl, hw6⟩ := hq6
          have hwho := q_who_c (L := L5) (T := upd s3.2.1 m (nI (hv - i_))) (Hx := (q_balH (q_cr h) m hv i_)) (R := q_cr h) (C := q_I h (10 + 5)) (LW := LW) (nc := nc) (w := w) hn0 P3b (fun o ho => if q : o = m then (by rw [q]; exact ⟨pk_us.trans (if_pos rfl).symm, fun v hv9 => (hl1_5 v hv9).trans (by rw [show (q_balH (q_cr h) m hv i_) m = nI (hv - i_) from if_pos rfl] <;> rfl)⟩) else ⟨(pk_un q).trans (((e3.1 o ho q).1).trans (if_neg q).symm), fun v hv9 => (hl2_5 _ (by omega)).trans ((((e3.1 o ho q).2 v hv9)).trans (by rw [show (q_balH (q_cr h) m hv i_) o = q_s8 (q_cr h) (8 * o) from if_neg q] <;> rfl))⟩)
          refine xe_top (v' := nI (q_who (q_cr h) (q_I h (10 + 5)) (q_balH (q_cr h) m hv i_) LW 0 nm nc w)) (congrArg nI hwho.1) ?_
          refine xe_iload_n dX9_bald_45 rfl ?_
          have hwl := q_who_lt (q_cr h) (q_I h (10 + 5)) (q_balH (q_cr h) m hv i_) LW 0 nm nc w hn0
          refine xn_icmp_ne (tgt := 51) dX9_bald_46 rfl (by omega) (by omega) (fun c7 => ?_) (fun c7 => ?_)
          · refine xn_iinc dX9_bald_51 rfl kc_1 ?_
            refine xe_goto (tgt := 25) dX9_bald_54 rfl ?_
            exact xe_fin (K3 (L5, upd s3.2.1 m (nI (hv - i_)), W6, V5, S5) (⟨fun o ho q => ⟨(pk_un q).trans (e3.1 o ho q).1, fun v hv => (hl2_5 _ (by omega)).trans ((e3.1 o ho q).2 v hv)⟩, fun j q => if e : j = i_ then by subst e; exact decide_eq_false c7 else e3.2 j (by omega)⟩)) (And.intro rfl (And.intro rfl (And.intro rfl (And.intro rfl trivial)))) (q_heq [20, 21, 116, 117, 118, 119] (H := h) (by repeat (first | exact q_out_r | refine q_out_w rfl ?_)) (by repeat (first | exact q_out_r | refine q_out_w rfl ?_)) (And.intro rfl (And.intro rfl (And.intro (q_feq [3] (f := q_I h 116) (by repeat (first | exact q_fout_r | refine q_fout_w rfl ?_)) (by repeat (first | exact q_fout_r | refine q_fout_w rfl ?_)) (And.intro rfl trivial)) (And.intro rfl (And.intro rfl (And.intro rfl trivial)))))))
          · refine xe_iload_n dX9_bald_49 rfl ?_
            refine xe_ireturn dX9_bald_50 rfl (by first | rfl | decide +kernel) ?_
            have e := q_fst_at hi_ (decide_eq_true c7 : q_balP (q_cr h) (q_I h (10 + 5)) LW 0 nm nc w m hv i_ = true) e3.2
            exact ⟨congrArg (fun v => some (Value.int v)) (by rw [e, if_pos hi_]), (q_kag_o (by repeat (first | exact q_out_r | refine q_out_w rfl ?_)))⟩
      · refine xe_iload_n dX9_bald_25 rfl ?_
        refine xe_iload_n dX9_bald_26 rfl ?_
        refine xn_icmp_gt (tgt := 57) dX9_bald_27 rfl (by omega) (by omega) (fun c8 => ?_) (fun c8 => ?_)
        · refine xe_bipush dX9_bald_57 kb_m2 ?_
          refine xe_ireturn dX9_bald_59 rfl (by first | rfl | decide +kernel) ?_
          exact ⟨congrArg (fun v => some (Value.int v)) (if_neg (q_fst_none e3.2)).symm, (q_kag_o (by repeat (first | exact q_out_r | refine q_out_w rfl ?_)))⟩
        · omega
    · omega
  · refine q_CtV mvX9_bald (Nat.le_of_ble_eq_true rfl) ?_
    refine xe_aload_n dX9_bald_0 rfl ?_
    refine xe_iload_n dX9_bald_1 rfl ?_
    refine xe_callVI (d' := 0) (y' := mX9_isMan) dX9_bald_2 mlX9_134 mvX9_isMan rfl (st0 hs) (by decide) rfl (by decide) (by decide) (Nat.le_of_ble_eq_true rfl) (c_X9_isMan_t l g _ (by exact hs) (by exact hp) (by omega)) rfl ?_
    refine xn_if_ne (tgt := 10) dX9_bald_5 rfl (by omega) (fun c1 => ?_) (fun c1 => ?_)
    · refine xe_aload_n dX9_bald_10 rfl ?_
      refine xe_callVVq (d' := 3) (y' := mX9_likeAll) dX9_bald_11 mlX9_163 mvX9_likeAll rfl (st0 hs) (by decide) rfl (by decide) (by decide) (Nat.le_of_ble_eq_true rfl) (c_X9_likeAll l g _ (by exact hs) (by exact hp) (by exact hL) (by exact hw) hw2) rfl (fun h2 hq2 => ?_)
      obtain ⟨V2, S2, L2, T2, rfl, hg2⟩ := hq2
      refine xe_aload_n dX9_bald_14 rfl ?_
      refine xe_getP dX9_bald_15 flX9_36 (st0 hs) (by decide) rfl (sp0_4 hs) ?_
      refine xe_iload_n dX9_bald_18 rfl ?_
      refine xe_callVI (d' := 0) (y' := mX6_inRow) dX9_bald_19 mlX9_140 mvX6_inRow rfl (st34 hs) (by decide) rfl (by decide) (by decide) (Nat.le_of_ble_eq_true rfl) (c_X6_inRow l g _ (by exact hs) _ (by omega)) rfl ?_
      refine xe_top (v' := q_s8 (q_cr h) (8 * m)) (q_cr_in h (by omega)) ?_
      refine xe_top (v' := nI hv) (hv1) ?_
      refine xe_istore_n (i := 2) dX9_bald_22 rfl (by decide) rfl ?_
      refine xe_iconst dX9_bald_23 kc_0 ?_
      refine xe_istore_n (i := 3) dX9_bald_24 rfl (by decide) rfl ?_
      refine xe_fin (L' := (fun (i_ : Nat) (s3 : (Nat → Int32) × (Nat → Int32) × (Nat → Int32) × (Nat → Int32) × (Nat → Int32)) => [(0, .ref 0), (1, .int (nI m)), (2, .int (nI hv)), (3, .int (nI i_))]) 0 (L2, T2, q_I h 119, V2, S2)) (h' := (fun (i_ : Nat) (s3 : (Nat → Int32) × (Nat → Int32) × (Nat → Int32) × (Nat → Int32) × (Nat → Int32)) => (q_wI (q_wI (q_wI (q_wI (q_wI (q_wI h 32 s3.2.2.2.1) 33 s3.2.2.2.2) 116 (upd (q_I h 116) 3 (nI nm))) 117 s3.1) 118 s3.2.1) 119 s3.2.2.1)) 0 (L2, T2, q_I h 119, V2, S2)) ?_ (And.intro rfl (And.intro rfl (And.intro rfl (And.intro rfl trivial)))) (q_heq [32, 33, 116, 117, 118, 119] (H := h) (by repeat (first | exact q_out_r | refine q_out_w rfl ?_)) (by repeat (first | exact q_out_r | refine q_out_w rfl ?_)) (And.intro rfl (And.intro rfl (And.intro (q_feq [3] (f := q_I h 116) (by repeat (first | exact q_fout_r | refine q_fout_w rfl ?_)) (by repeat (first | exact q_fout_r | refine q_fout_w rfl ?_)) (And.intro rfl trivial)) (And.intro rfl (And.intro rfl (And.intro rfl trivial)))))))
      refine xe_loopI (σ := (Nat → Int32) × (Nat → Int32) × (Nat → Int32) × (Nat → Int32) × (Nat → Int32)) (hv + 1) (fun i s => (∀ o, o < nm → o ≠ m → s.2.1 o = q_s8 (q_cr h) (8 * o) ∧ ∀ v, v < nm → s.1 (v * 8 + o) = q_kv (q_cr h) (q_I h (22 + 5)) LW nc w v o (q_s8 (q_cr h) (8 * o))) ∧ ∀ j, j < i → q_balP (q_cr h) (q_I h (22 + 5)) LW 0 nm nc w m hv j = false) (fun (i_ : Nat) (s3 : (Nat → Int32) × (Nat → Int32) × (Nat → Int32) × (Nat → Int32) × (Nat → Int32)) => [(0, .ref 0), (1, .int (nI m)), (2, .int (nI hv)), (3, .int (nI i_))]) (fun (i_ : Nat) (s3 : (Nat → Int32) × (Nat → Int32) × (Nat → Int32) × (Nat → Int32) × (Nat → Int32)) => (q_wI (q_wI (q_wI (q_wI (q_wI (q_wI h 32 s3.2.2.2.1) 33 s3.2.2.2.2) 116 (upd (q_I h 116) 3 (nI nm))) 117 s3.1) 118 s3.2.1) 119 s3.2.2.1)) (L2, T2, q_I h 119, V2, S2) (⟨fun o ho _ => hg2 o ho, fun _ q => absurd q (Nat.not_lt_zero _)⟩) (fun i_ hi_ s3 e3 K3 => ?_) (fun s3 e3 => ?_)
      · refine xe_iload_n dX9_bald_25 rfl ?_
        refine xe_iload_n dX9_bald_26 rfl ?_
        refine xn_icmp_gt (tgt := 57) dX9_bald_27 rfl (by omega) (by omega) (fun c4 => ?_) (fun c4 => ?_)
        · omega
        · refine xe_aload_n dX9_bald_30 rfl ?_
          refine xe_iload_n dX9_bald_31 rfl ?_
          refine xe_iload_n dX9_bald_32 rfl ?_
          refine xe_iload_n dX9_bald_33 rfl ?_
          refine xn_isub dX9_bald_34 (by omega) ?_
          refine xe_callVVq (d' := 2) (y' := mX9_like) dX9_bald_35 mlX9_324 mvX9_like rfl (st0 hs) (by decide) rfl (by decide) (by decide) (Nat.le_of_ble_eq_true rfl) (c_X9_like l g _ (by exact hs) (by exact hp) (by exact hL) (by exact hw) hw2 (by omega) _) rfl (fun h5 hq5 => ?_)
          obtain ⟨V5, S5, L5, rfl, hl1_5, hl2_5⟩ := hq5
          refine xe_aload_n dX9_bald_38 rfl ?_
          refine xe_getP dX9_bald_39 flX9_72 (st0 hs) (by decide) rfl (sp0_10 hs) ?_
          refine xe_callVIq (d' := 1) (y' := mX2_elect) dX9_bald_42 mlX9_335 mvX2_elect rfl (st116 hs) (by decide) rfl (by decide) (by decide) (Nat.le_of_ble_eq_true rfl) (c_X2_elect l g _ (by exact hs) (nm := nm) (by exact rfl) hn0 P3b) rfl (fun h6 hq6 => ?_)
          obtain ⟨W6, rfl, hw6⟩ := hq6
          have hwho := q_who_c (L := L5) (T := upd s3.2.1 m (nI (hv - i_))) (Hx := (q_balH (q_cr h) m hv i_)) (R := q_cr h) (C := q_I h (22 + 5)) (LW := LW) (nc := nc) (w := w) hn0 P3b (fun o ho => if q : o = m then (by rw [q]; exact ⟨pk_us.trans (if_pos rfl).symm, fun v hv9 => (hl1_5 v hv9).trans (by rw [show (q_balH (q_cr h) m hv i_) m = nI (hv - i_) from if_pos rfl] <;> rfl)⟩) else ⟨(pk_un q).trans (((e3.1 o ho q).1).trans (if_neg q).symm), fun v hv9 => (hl2_5 _ (by omega)).trans ((((e3.1 o ho q).2 v hv9)).trans (by rw [show (q_balH (q_cr h) m hv i_) o = q_s8 (q_cr h) (8 * o) from if_neg q] <;> rfl))⟩)
          refine xe_top (v' := nI (q_who (q_cr h) (q_I h (22 + 5)) (q_balH (q_cr h) m hv i_) LW 0 nm nc w)) (congrArg nI hwho.1) ?_
          refine xe_iload_n dX9_bald_45 rfl ?_
          have hwl := q_who_lt (q_cr h) (q_I h (22 + 5)) (q_balH (q_cr h) m hv i_) LW 0 nm nc w hn0
          refine xn_icmp_ne (tgt := 51) dX9_bald_46 rfl (by omega) (by omega) (fun c7 => ?_) (fun c7 => ?_)
          · refine xn_iinc dX9_bald_51 rfl kc_1 ?_
            refine xe_goto (tgt := 25) dX9_bald_54 rfl ?_
            exact xe_fin (K3 (L5, upd s3.2.1 m (nI (hv - i_)), W6, V5, S5) (⟨fun o ho q => ⟨(pk_un q).trans (e3.1 o ho q).1, fun v hv => (hl2_5 _ (by omega)).trans ((e3.1 o ho q).2 v hv)⟩, fun j q => if e : j = i_ then by subst e; exact decide_eq_false c7 else e3.2 j (by omega)⟩)) (And.intro rfl (And.intro rfl (And.intro rfl (And.intro rfl trivial)))) (q_heq [32, 33, 116, 117, 118, 119] (H := h) (by repeat (first | exact q_out_r | refine q_out_w rfl ?_)) (by repeat (first | exact q_out_r | refine q_out_w rfl ?_)) (And.intro rfl (And.intro rfl (And.intro (q_feq [3] (f := q_I h 116) (by repeat (first | exact q_fout_r | refine q_fout_w rfl ?_)) (by repeat (first | exact q_fout_r | refine q_fout_w rfl ?_)) (And.intro rfl trivial)) (And.intro rfl (And.intro rfl (And.intro rfl trivial)))))))
          · refine xe_iload_n dX9_bald_49 rfl ?_
            refine xe_ireturn dX9_bald_50 rfl (by first | rfl | decide +kernel) ?_
            have e := q_fst_at hi_ (decide_eq_true c7 : q_balP (q_cr h) (q_I h (22 + 5)) LW 0 nm nc w m hv i_ = true) e3.2
            exact ⟨congrArg (fun v => some (Value.int v)) (by rw [e, if_pos hi_]), (q_kag_o (by repeat (first | exact q_out_r | refine q_out_w rfl ?_)))⟩
      · refine xe_iload_n dX9_bald_25 rfl ?_
        refine xe_iload_n dX9_bald_26 rfl ?_
        refine xn_icmp_gt (tgt := 57) dX9_bald_27 rfl (by omega) (by omega) (fun c8 => ?_) (fun c8 => ?_)
        · refine xe_bipush dX9_bald_57 kb_m2 ?_
          refine xe_ireturn dX9_bald_59 rfl (by first | rfl | decide +kernel) ?_
          exact ⟨congrArg (fun v => some (Value.int v)) (if_neg (q_fst_none e3.2)).symm, (q_kag_o (by repeat (first | exact q_out_r | refine q_out_w rfl ?_)))⟩
        · omega
    · omega
theorem c_X9_bald_f (l : Launch) (g : q_GP) (h : q_H) (hs : q_Stat h) {p nm nd nc mo n : Nat} (hp : rk_P h p nm nd nc mo n) {x : Int32} (hx : ¬ q_isN x nm) : q_Cd l g 4 mX9_bald [.ref 0, .int x] h (some (.int (-1))) h := by
  obtain ⟨P0, P1, P2, P2b, P3, P3b, P4, P4b, P5, P5b, P6, P6b⟩ := id hp
  rcases P1 with rfl | rfl
  · refine q_CdV mvX9_bald (Nat.le_of_ble_eq_true rfl) ?_
    refine xe_aload_n dX9_bald_0 rfl ?_
    refine xe_iload_n dX9_bald_1 rfl ?_
    refine xe_callVI (d' := 0) (y' := mX9_isMan) dX9_bald_2 mlX9_134 mvX9_isMan rfl (st0 hs) (by decide) rfl (by decide) (by decide) (Nat.le_of_ble_eq_true rfl) (c_X9_isMan_f l g _ (by exact hs) (by exact hp) (hx)) rfl ?_
    refine xn_if_ne (tgt := 10) dX9_bald_5 rfl (by omega) (fun c1 => ?_) (fun c1 => ?_)
    · omega
    · refine xe_iconst dX9_bald_8 kc_m1 ?_
      refine xe_ireturn dX9_bald_9 rfl (by first | rfl | decide +kernel) ?_
      exact ⟨rfl, rfl⟩
  · refine q_CdV mvX9_bald (Nat.le_of_ble_eq_true rfl) ?_
    refine xe_aload_n dX9_bald_0 rfl ?_
    refine xe_iload_n dX9_bald_1 rfl ?_
    refine xe_callVI (d' := 0) (y' := mX9_isMan) dX9_bald_2 mlX9_134 mvX9_isMan rfl (st0 hs) (by decide) rfl (by decide) (by decide) (Nat.le_of_ble_eq_true rfl) (c_X9_isMan_f l g _ (by exact hs) (by exact hp) (hx)) rfl ?_
    refine xn_if_ne (tgt := 10) dX9_bald_5 rfl (by omega) (fun c1 => ?_) (fun c1 => ?_)
    · omega
    · refine xe_iconst dX9_bald_8 kc_m1 ?_
      refine xe_ireturn dX9_bald_9 rfl (by first | rfl | decide +kernel) ?_
      exact ⟨rfl, rfl⟩
