/-! the law's loop, its body -/
theorem lw_round (l : Launch) (g : q_GP) (n : String) {LL : Nat} {xs : Nat → Int32} (hL : LL ≤ 3072) (hX : q_GX g LL xs) {i : Nat} (hi : 6 * i + 6 ≤ LL) {h : q_H} (hR : RR i h) {Q : Option Value → q_H → Prop} (K : ∀ h2, RR (i + 1) h2 → q_Ex l g 60 (mL n) 1065 [(0, .ref 1000000004), (1, .ref 0), (2, .ref 124), (3, .int (nI (6 * i)))] [] h2 Q) : q_Ex l g 60 (mL n) 27 [(0, .ref 1000000004), (1, .ref 0), (2, .ref 124), (3, .int (nI (6 * i)))] [] h Q := by
  refine xe_aload_n dL_law_27 rfl ?_
  refine xe_iload_n dL_law_28 rfl ?_
  refine xe_sld dL_law_29 hX (by omega) (by omega) ?_
  refine xe_bipush dL_law_30 kb_31 ?_
  refine xe_iand dL_law_32 ?_
  obtain ⟨k, hk, e⟩ := and31 (xs (6 * i))
  rw [e]
  rcases (by omega : k = 0 ∨ k = 1 ∨ k = 2 ∨ k = 3 ∨ k = 4 ∨ k = 5 ∨ k = 6 ∨ k = 7 ∨ k = 8 ∨ k = 9 ∨ k = 10 ∨ k = 11 ∨ k = 12 ∨ k = 13 ∨ k = 14 ∨ k = 15 ∨ k = 16 ∨ k = 17 ∨ k = 18 ∨ k = 19 ∨ k = 20 ∨ k = 21 ∨ k = 22 ∨ k = 23 ∨ k = 24 ∨ k = 25 ∨ k = 26 ∨ k = 27 ∨ k = 28 ∨ k = 29 ∨ k = 30 ∨ k = 31) with rfl | rfl | rfl | rfl | rfl | rfl | rfl | rfl | rfl | rfl | rfl | rfl | rfl | rfl | rfl | rfl | rfl | rfl | rfl | rfl | rfl | rfl | rfl | rfl | rfl | rfl | rfl | rfl | rfl | rfl | rfl | rfl
  · exact xe_tsw_in (off := 139) (tgt := 172) dL_law_33 (by decide) (by decide) (by decide) rfl (lw_c0 l g n hL hX hi hR K)
  · exact xe_tsw_in (off := 202) (tgt := 235) dL_law_33 (by decide) (by decide) (by decide) rfl (lw_c1 l g n hL hX hi hR K)
  · exact xe_tsw_in (off := 225) (tgt := 258) dL_law_33 (by decide) (by decide) (by decide) rfl (lw_c2 l g n hL hX hi hR K)
  · exact xe_tsw_in (off := 238) (tgt := 271) dL_law_33 (by decide) (by decide) (by decide) rfl (lw_c3 l g n hL hX hi hR K)
  · exact xe_tsw_in (off := 251) (tgt := 284) dL_law_33 (by decide) (by decide) (by decide) rfl (lw_c4 l g n hL hX hi hR K)
  · exact xe_tsw_in (off := 284) (tgt := 317) dL_law_33 (by decide) (by decide) (by decide) rfl (lw_c5 l g n hL hX hi hR K)
  · exact xe_tsw_in (off := 317) (tgt := 350) dL_law_33 (by decide) (by decide) (by decide) rfl (lw_c6 l g n hL hX hi hR K)
  · exact xe_tsw_in (off := 350) (tgt := 383) dL_law_33 (by decide) (by decide) (by decide) rfl (lw_c7 l g n hL hX hi hR K)
  · exact xe_tsw_in (off := 383) (tgt := 416) dL_law_33 (by decide) (by decide) (by decide) rfl (lw_c8 l g n hL hX hi hR K)
  · exact xe_tsw_in (off := 416) (tgt := 449) dL_law_33 (by decide) (by decide) (by decide) rfl (lw_c9 l g n hL hX hi hR K)
  · exact xe_tsw_in (off := 449) (tgt := 482) dL_law_33 (by decide) (by decide) (by decide) rfl (lw_c10 l g n hL hX hi hR K)
  · exact xe_tsw_in (off := 472) (tgt := 505) dL_law_33 (by decide) (by decide) (by decide) rfl (lw_c11 l g n hL hX hi hR K)
  · exact xe_tsw_in (off := 515) (tgt := 548) dL_law_33 (by decide) (by decide) (by decide) rfl (lw_c12 l g n hL hX hi hR K)
  · exact xe_tsw_in (off := 558) (tgt := 591) dL_law_33 (by decide) (by decide) (by decide) rfl (lw_c13 l g n hL hX hi hR K)
  · exact xe_tsw_in (off := 601) (tgt := 634) dL_law_33 (by decide) (by decide) (by decide) rfl (lw_c14 l g n hL hX hi hR K)
  · exact xe_tsw_in (off := 624) (tgt := 657) dL_law_33 (by decide) (by decide) (by decide) rfl (lw_c15 l g n hL hX hi hR K)
  · exact xe_tsw_in (off := 637) (tgt := 670) dL_law_33 (by decide) (by decide) (by decide) rfl (lw_c16 l g n hL hX hi hR K)
  · exact xe_tsw_in (off := 650) (tgt := 683) dL_law_33 (by decide) (by decide) (by decide) rfl (lw_c17 l g n hL hX hi hR K)
  · exact xe_tsw_in (off := 673) (tgt := 706) dL_law_33 (by decide) (by decide) (by decide) rfl (lw_c18 l g n hL hX hi hR K)
  · exact xe_tsw_in (off := 696) (tgt := 729) dL_law_33 (by decide) (by decide) (by decide) rfl (lw_c19 l g n hL hX hi hR K)
  · exact xe_tsw_in (off := 729) (tgt := 762) dL_law_33 (by decide) (by decide) (by decide) rfl (lw_c20 l g n hL hX hi hR K)
  · exact xe_tsw_in (off := 762) (tgt := 795) dL_law_33 (by decide) (by decide) (by decide) rfl (lw_c21 l g n hL hX hi hR K)
  · exact xe_tsw_in (off := 785) (tgt := 818) dL_law_33 (by decide) (by decide) (by decide) rfl (lw_c22 l g n hL hX hi hR K)
  · exact xe_tsw_in (off := 808) (tgt := 841) dL_law_33 (by decide) (by decide) (by decide) rfl (lw_c23 l g n hL hX hi hR K)
  · exact xe_tsw_in (off := 841) (tgt := 874) dL_law_33 (by decide) (by decide) (by decide) rfl (lw_c24 l g n hL hX hi hR K)
  · exact xe_tsw_in (off := 874) (tgt := 907) dL_law_33 (by decide) (by decide) (by decide) rfl (lw_c25 l g n hL hX hi hR K)
  · exact xe_tsw_in (off := 907) (tgt := 940) dL_law_33 (by decide) (by decide) (by decide) rfl (lw_c26 l g n hL hX hi hR K)
  · exact xe_tsw_in (off := 920) (tgt := 953) dL_law_33 (by decide) (by decide) (by decide) rfl (lw_c27 l g n hL hX hi hR K)
  · exact xe_tsw_in (off := 963) (tgt := 996) dL_law_33 (by decide) (by decide) (by decide) rfl (lw_c28 l g n hL hX hi hR K)
  · exact xe_tsw_in (off := 986) (tgt := 1019) dL_law_33 (by decide) (by decide) (by decide) rfl (lw_c29 l g n hL hX hi hR K)
  · exact xe_tsw_in (off := 1009) (tgt := 1042) dL_law_33 (by decide) (by decide) (by decide) rfl (lw_c30 l g n hL hX hi hR K)
  · refine xe_tsw_out (tgt := 1065) dL_law_33 (by decide) rfl (K h ?_)
    exact RR_sme (h := h) ⟨rfl, fun _ _ _ => rfl, fun _ _ => rfl, fun _ _ _ => rfl, rfl, rfl, rfl, rfl⟩ hR
theorem lw_test {LL i : Nat} (hL : LL ≤ 3072) (hi : i ≤ 512) : (nI LL - nI 6 < nI (6 * i)) ↔ LL < 6 * i + 6 := by
  have hn : (nI LL - nI 6).toInt = (LL : Int) - 6 := by
    rw [Int32.toInt_sub, nI_toInt (by omega), nI_toInt (by decide)]
    exact Int.bmod_eq_of_le (by omega) (by omega)
  rw [Int32.lt_iff_toInt_lt, hn, nI_toInt (by omega)]
  omega
theorem lw_loop (l : Launch) (g : q_GP) (n : String) {LL : Nat} {xs : Nat → Int32} (hL : LL ≤ 3072) (hX : q_GX g LL xs) : ∀ (m i : Nat) (h : q_H), LL < 6 * (i + m) + 6 → i ≤ 512 → RR i h → q_Ex l g 60 (mL n) 18 [(0, .ref 1000000004), (1, .ref 0), (2, .ref 124), (3, .int (nI (6 * i)))] [] h lw_QQ := by
  have fin : ∀ (i : Nat) (h : q_H), i ≤ 512 → RR i h → q_Ex l g 60 (mL n) 1071 [(0, .ref 1000000004), (1, .ref 0), (2, .ref 124), (3, .int (nI (6 * i)))] [] h lw_QQ := fun i h hi hR => by
    refine xe_iconst dL_law_1071 kc_1 ?_
    refine xe_ireturn dL_law_1072 (show (mL n).2.2.2 = some .boolean from rfl) rfl ⟨rfl, ?_, ?_⟩
    · have := hR.1.2.1
      omega
    · have := hR.1.2.2
      omega
  intro m
  induction m with
  | zero =>
    intro i h hm hi hR
    refine xe_iload_n dL_law_18 rfl ?_
    refine xe_aload_n dL_law_19 rfl ?_
    refine xe_slen dL_law_20 hX ?_
    refine xe_bipush dL_law_21 kb_6 ?_
    refine xe_isub dL_law_23 ?_
    refine xe_icmp_gt (tgt := 1071) dL_law_24 rfl (fun _ => fin i h hi hR) (fun c => absurd ((lw_test hL hi).mpr (by omega)) c)
  | succ m ih =>
    intro i h hm hi hR
    refine xe_iload_n dL_law_18 rfl ?_
    refine xe_aload_n dL_law_19 rfl ?_
    refine xe_slen dL_law_20 hX ?_
    refine xe_bipush dL_law_21 kb_6 ?_
    refine xe_isub dL_law_23 ?_
    refine xe_icmp_gt (tgt := 1071) dL_law_24 rfl (fun _ => fin i h hi hR) (fun c => ?_)
    have hi6 : 6 * i + 6 ≤ LL := Nat.not_lt.mp (fun q => c ((lw_test hL hi).mpr q))
    refine lw_round l g n hL hX hi6 hR (fun h2 R2 => ?_)
    refine xn_iinc (k := 6) dL_law_1065 rfl (by decide) ?_
    refine xe_goto (tgt := 18) dL_law_1068 rfl ?_
    refine xe_locals (L' := [(0, .ref 1000000004), (1, .ref 0), (2, .ref 124), (3, .int (nI (6 * (i + 1))))]) (And.intro rfl (And.intro rfl (And.intro rfl (And.intro rfl trivial)))) ?_
    exact ih (i + 1) h2 (by omega) (by omega) R2
theorem lw_body (l : Launch) (g : q_GP) (n : String) {LL : Nat} {xs : Nat → Int32} (hL : LL ≤ 3072) (hX : q_GX g LL xs) : q_Ex l g 60 (mL n) 0 [(0, .ref 1000000004)] [] (q_hc z_I z_J 0 0) lw_QQ := by
  refine xe_new (C := RX9) dL_law_0 q_ck9 clL_7 q_inst9 q_init9 (show 0 < 1000000000 by decide) (by decide) ?_
  refine xe_heap (hc_new (t := 9) (n := 15) rfl rfl rfl (by decide +kernel)) ?_
  refine xe_dup dL_law_3 rfl ?_
  refine xe_callI (d' := 6) (y' := mX9_init) (as := []) (b := 0) (rest := [.ref 0]) dL_law_4 (Or.inl mlL_9) (q_MK_of mnX9_init rfl) rfl (by decide) (by decide) (Nat.le_of_ble_eq_true rfl) (cn_X9_0 l g hX) rfl (fun r1 h1 q => ?_)
  obtain ⟨rfl, rfl⟩ := q
  refine xe_astore_n (i := 1) dL_law_7 rfl (show 1 < 4 by decide) rfl ?_
  refine xe_new (C := RX10) dL_law_8 q_ck10 clL_10 q_inst10 q_init10 (show 124 < 1000000000 by decide) (by decide) ?_
  refine xe_heap (hc_new (t := 10) (n := 67) rfl rfl rfl (by decide +kernel)) ?_
  refine xe_dup dL_law_11 rfl ?_
  refine xe_callI (d' := 3) (y' := mX10_init) (as := []) (b := 124) (rest := [.ref 124]) dL_law_12 (Or.inl mlL_12) (q_MK_of mnX10_init rfl) rfl (by decide) (by decide) (Nat.le_of_ble_eq_true rfl) (cn_X10_124 l g hX) rfl (fun r2 h2 q => ?_)
  obtain ⟨rfl, rfl⟩ := q
  refine xe_astore_n (i := 2) dL_law_15 rfl (show 2 < 4 by decide) rfl ?_
  refine xe_iconst dL_law_16 kc_0 ?_
  refine xe_istore_n (i := 3) dL_law_17 rfl (show 3 < 4 by decide) rfl ?_
  refine xe_locals (L' := [(0, .ref 1000000004), (1, .ref 0), (2, .ref 124), (3, .int (nI (6 * 0)))]) (And.intro rfl (And.intro rfl (And.intro rfl (And.intro rfl trivial)))) ?_
  exact lw_loop l g n hL hX 513 0 _ (by omega) (by decide) RR_0
