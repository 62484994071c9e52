/-! the class: figures, a token, the scan -/
theorem tz_32 (v : Int32) : (v.toInt64).toInt32 = v := Int32.toInt32_toInt64 v
theorem tzd_62 (l : Launch) (g : q_GP) (h : q_H) (hs : q_Stat h) {n : Nat} {B : Nat → Nat} (hB : tb_B h n B) {p i : Nat} (hp : p < n) (hi : i ≤ 400) (hl : ¬ tz_le (B p) = true) (hd : tz_di (B p) = true) {e : Nat} (he : tz_to tz_di n B p = e) {v : Int32} (hv : e - p ≤ 4 → v = nI (tz_v B p (e - p))) : q_Ex l g 1 mX7_scanDigits 62 [(0, .ref 1), (1, .int (nI i)), (2, .int (nI p)), (3, .int v)] [] (q_wI h 1 (upd (q_I h 1) 6 (nI e))) (fun r h1 => r = some (.int (q_kap (tz_k n B p))) ∧ tz_fr i h h1 ∧ q_I h1 1 6 = nI (tz_e n B p) ∧ (tz_k n B p = 1 → q_J h1 5 i = q_e5 (tz_w B p (tz_to tz_le n B p))) ∧ (tz_k n B p = 2 → (q_J h1 5 i).toInt32 = nI (tz_v B p (tz_to tz_di n B p - p)))) := by
  have hn := hB.2.1
  have hgt := tz_gt hp hd
  have hle := tz_to_le (P := tz_di) (B := B) (Nat.le_of_lt hp)
  rw [he] at hgt hle
  have hk := tz_k_d hp hl hd
  have hee := tz_e_d hp hl hd
  rw [he] at hk hee
  refine xe_aload_n dX7_scanDigits_62 rfl ?_
  refine xe_getP dX7_scanDigits_63 flX7_22 (st1 hs) (by decide) rfl (sp1_4 hs) ?_
  refine xe_iload_n dX7_scanDigits_66 rfl ?_
  refine xe_iload_n dX7_scanDigits_67 rfl ?_
  refine xe_i2l dX7_scanDigits_68 rfl ?_
  refine xn_last dX7_scanDigits_69 (st5 hs) (by omega) (by decide) ?_
  refine xe_aload_n dX7_scanDigits_70 rfl ?_
  refine xe_getIv dX7_scanDigits_71 flX7_48 (st1 hs) (by decide) rfl (v := nI e) (rfl) ?_
  refine xe_iload_n dX7_scanDigits_74 rfl ?_
  refine xn_isub dX7_scanDigits_75 (by omega) ?_
  refine xe_iconst dX7_scanDigits_76 kc_4 ?_
  refine xn_icmp_le (tgt := 84) dX7_scanDigits_77 rfl (by omega) (by omega) (fun c1 => ?_) (fun c1 => ?_)
  · refine xe_iconst dX7_scanDigits_84 kc_2 ?_
    refine xe_ireturn dX7_scanDigits_85 rfl (by first | rfl | decide +kernel) ?_
    rw [if_neg (by omega)] at hk
    rw [hk, hee, he]
    exact ⟨rfl, tz_fr_j, rfl, fun q => absurd q (by decide), fun _ => (congrArg Int64.toInt32 (if_pos rfl : vp_updL (q_J h 5) i v.toInt64 i = v.toInt64)).trans ((tz_32 v).trans (hv (by omega)))⟩
  · refine xe_iconst dX7_scanDigits_80 kc_m1 ?_
    refine xe_goto (tgt := 85) dX7_scanDigits_81 rfl ?_
    refine xe_ireturn dX7_scanDigits_85 rfl (by first | rfl | decide +kernel) ?_
    rw [if_pos (by omega)] at hk
    rw [hk, hee]
    exact ⟨rfl, tz_fr_j, rfl, fun q => absurd q (by decide), fun q => absurd q (by decide)⟩
theorem c_X7_scanDigits (l : Launch) (g : q_GP) (h : q_H) (hs : q_Stat h) {n : Nat} {B : Nat → Nat} (hB : tb_B h n B) {p i : Nat} (hp : p < n) (hi : i ≤ 400) (hl : ¬ tz_le (B p) = true) (hd : tz_di (B p) = true) (hat : q_I h 1 6 = nI p) : q_Ct l g 1 mX7_scanDigits [.ref 1, .int (nI i)] h (fun r h1 => r = some (.int (q_kap (tz_k n B p))) ∧ tz_fr i h h1 ∧ q_I h1 1 6 = nI (tz_e n B p) ∧ (tz_k n B p = 1 → q_J h1 5 i = q_e5 (tz_w B p (tz_to tz_le n B p))) ∧ (tz_k n B p = 2 → (q_J h1 5 i).toInt32 = nI (tz_v B p (tz_to tz_di n B p - p)))) := by
  have hn := hB.2.1
  refine q_CtV mvX7_scanDigits (Nat.le_of_ble_eq_true rfl) ?_
  refine xe_aload_n dX7_scanDigits_0 rfl ?_
  refine xe_getIv dX7_scanDigits_1 flX7_48 (st1 hs) (by decide) rfl (v := nI p) (hat) ?_
  refine xe_istore_n (i := 2) dX7_scanDigits_4 rfl (by decide) rfl ?_
  refine xe_iconst dX7_scanDigits_5 kc_0 ?_
  refine xe_istore_n (i := 3) dX7_scanDigits_6 rfl (by decide) rfl ?_
  refine xe_fin (L' := (fun (k : Nat) (s1 : Int32 × Nat) => [(0, .ref 1), (1, .int (nI i)), (2, .int (nI p)), (3, .int s1.1)]) 0 (nI 0, p)) (h' := (fun (k : Nat) (s1 : Int32 × Nat) => (q_wI h 1 (upd (q_I h 1) 6 (nI s1.2)))) 0 (nI 0, p)) ?_ (And.intro rfl (And.intro rfl (And.intro rfl (And.intro rfl trivial)))) (q_heq [1] (H := h) (by repeat (first | exact q_out_r | refine q_out_w rfl ?_)) (by repeat (first | exact q_out_r | refine q_out_w rfl ?_)) (And.intro (tz_uid hat).symm trivial))
  refine xe_loopW (σ := Int32 × Nat) (n - p) (fun k s => s.2 = p + k ∧ tz_to tz_di n B p = tz_to tz_di n B s.2 ∧ s.2 ≤ n ∧ (s.2 - p ≤ 4 → s.1 = nI (tz_v B p (s.2 - p)))) (fun (k : Nat) (s1 : Int32 × Nat) => [(0, .ref 1), (1, .int (nI i)), (2, .int (nI p)), (3, .int s1.1)]) (fun (k : Nat) (s1 : Int32 × Nat) => (q_wI h 1 (upd (q_I h 1) 6 (nI s1.2)))) (nI 0, p) (⟨rfl, rfl, by show p ≤ n; omega, fun _ => by show nI 0 = nI (tz_v B p (p - p)); rw [Nat.sub_self]; rfl⟩) (fun k hk s1 e1 K1 => ?_)
  · obtain ⟨s_1, s_2, s_3, s_4⟩ := e1
    refine xe_aload_n dX7_scanDigits_7 rfl ?_
    refine xe_getIv dX7_scanDigits_8 flX7_48 (st1 hs) (by decide) rfl (v := nI s1.2) (rfl) ?_
    refine xe_aload_n dX7_scanDigits_11 rfl ?_
    refine xe_getIv dX7_scanDigits_12 flX7_45 (st1 hs) (by decide) rfl (v := nI n) (hB.1) ?_
    refine xn_icmp_ge (tgt := 62) dX7_scanDigits_15 rfl (by omega) (by omega) (fun c_a => ?_) (fun c_a => ?_)
    · exact xe_fin (tzd_62 l g h hs hB hp hi hl hd (e := s1.2) (s_2.trans (tz_to_n (by omega))) (v := s1.1) (fun q => s_4 q)) ⟨rfl, rfl, rfl, rfl, trivial⟩ (q_heq [1] (H := h) (by repeat (first | exact q_out_r | refine q_out_w rfl ?_)) (by repeat (first | exact q_out_r | refine q_out_w rfl ?_)) (And.intro (q_feq [6] (f := q_I h 1) (by repeat (first | exact q_fout_r | refine q_fout_w rfl ?_)) (by repeat (first | exact q_fout_r | refine q_fout_w rfl ?_)) (And.intro rfl trivial)) trivial))
    · refine xe_aload_n dX7_scanDigits_18 rfl ?_
      refine xe_aload_n dX7_scanDigits_19 rfl ?_
      refine xe_getIv dX7_scanDigits_20 flX7_48 (st1 hs) (by decide) rfl (v := nI s1.2) (rfl) ?_
      refine xe_callVI (d' := 0) (y' := mX7_byteAt) dX7_scanDigits_23 mlX7_51 mvX7_byteAt rfl (st1 hs) (by decide) rfl (by decide) (by decide) (Nat.le_of_ble_eq_true rfl) (c_X7_byteAt_t l g _ (by exact hs) (n := n) (B := B) (by exact hB) (by omega)) rfl ?_
      refine xe_callSI (d' := 0) (y' := mX7_isDigit) dX7_scanDigits_26 mlX7_68 msX7_isDigit rfl (by decide) (by decide) (Nat.le_of_ble_eq_true rfl) (c_X7_isDigit l g _ (hB.2.2.2 _)) rfl ?_
      refine xe_if_eq (tgt := 62) dX7_scanDigits_29 rfl (fun c_l => ?_) (fun c_l => ?_)
      · exact xe_fin (tzd_62 l g h hs hB hp hi hl hd (e := s1.2) (s_2.trans (tz_to_f (tz_if0.mp c_l))) (v := s1.1) (fun q => s_4 q)) ⟨rfl, rfl, rfl, rfl, trivial⟩ (q_heq [1] (H := h) (by repeat (first | exact q_out_r | refine q_out_w rfl ?_)) (by repeat (first | exact q_out_r | refine q_out_w rfl ?_)) (And.intro (q_feq [6] (f := q_I h 1) (by repeat (first | exact q_fout_r | refine q_fout_w rfl ?_)) (by repeat (first | exact q_fout_r | refine q_fout_w rfl ?_)) (And.intro rfl trivial)) trivial))
      · have c_l2 := Classical.not_not.mp (fun q => c_l (tz_if0.mpr q))
        have c_l3 := tz_di_i.mp c_l2
        refine xe_iload_n dX7_scanDigits_32 rfl ?_
        refine xe_bipush dX7_scanDigits_33 kb_10 ?_
        refine xe_imul dX7_scanDigits_35 ?_
        refine xe_aload_n dX7_scanDigits_36 rfl ?_
        refine xe_aload_n dX7_scanDigits_37 rfl ?_
        refine xe_getIv dX7_scanDigits_38 flX7_48 (st1 hs) (by decide) rfl (v := nI s1.2) (rfl) ?_
        refine xe_callVI (d' := 0) (y' := mX7_byteAt) dX7_scanDigits_41 mlX7_51 mvX7_byteAt rfl (st1 hs) (by decide) rfl (by decide) (by decide) (Nat.le_of_ble_eq_true rfl) (c_X7_byteAt_t l g _ (by exact hs) (n := n) (B := B) (by exact hB) (by omega)) rfl ?_
        refine xe_iadd dX7_scanDigits_44 ?_
        refine xe_bipush dX7_scanDigits_45 kb_48 ?_
        refine xe_isub dX7_scanDigits_47 ?_
        refine xe_istore_n (i := 3) dX7_scanDigits_48 rfl (by decide) rfl ?_
        refine xe_aload_n dX7_scanDigits_49 rfl ?_
        refine xe_dup dX7_scanDigits_50 rfl ?_
        refine xe_getIv dX7_scanDigits_51 flX7_48 (st1 hs) (by decide) rfl (v := nI s1.2) (rfl) ?_
        refine xe_iconst dX7_scanDigits_54 kc_1 ?_
        refine xn_iadd dX7_scanDigits_55 ?_
        refine xe_putI dX7_scanDigits_56 flX7_48 (st1 hs) (by decide) rfl (Or.inl rfl) rfl rfl ?_
        refine xe_goto (tgt := 7) dX7_scanDigits_59 rfl ?_
        exact xe_fin (K1 (by omega) ((((s1.1 * (nI 10)) + (nI (B s1.2))) - (nI 48)), s1.2 + 1) (⟨by show s1.2 + 1 = p + (k + 1); omega, by show tz_to tz_di n B p = tz_to tz_di n B (s1.2 + 1); exact s_2.trans (tz_to_t (by omega) c_l2), by show s1.2 + 1 ≤ n; omega, fun q => by
          have q : s1.2 + 1 - p ≤ 4 := q
          show s1.1 * nI 10 + nI (B s1.2) - nI 48 = nI (tz_v B p (s1.2 + 1 - p))
          rw [s_4 (by omega), tz_num c_l3.1, show s1.2 + 1 - p = (s1.2 - p) + 1 by omega, tz_v, show p + (s1.2 - p) = s1.2 by omega]⟩)) (And.intro rfl (And.intro rfl (And.intro rfl (And.intro rfl trivial)))) (q_heq [1] (H := h) (by repeat (first | exact q_out_r | refine q_out_w rfl ?_)) (by repeat (first | exact q_out_r | refine q_out_w rfl ?_)) (And.intro (q_feq [6] (f := q_I h 1) (by repeat (first | exact q_fout_r | refine q_fout_w rfl ?_)) (by repeat (first | exact q_fout_r | refine q_fout_w rfl ?_)) (And.intro rfl trivial)) trivial))
theorem tz_c2 {c : Nat} (hc : c < 256) : ((nI c).toUInt32 % 65536).toInt32 = nI c := by
  have H : ∀ c, c < 256 → ((nI c).toUInt32 % 65536).toInt32 = nI c := by decide +kernel
  exact H c hc
theorem c_X7_scanToken_t (l : Launch) (g : q_GP) (h : q_H) (hs : q_Stat h) {n : Nat} {B : Nat → Nat} (hB : tb_B h n B) {p i : Nat} (hi : i ≤ 400) (hW : ck_W h) {LL : Nat} {xs : Nat → Int32} (hX : q_GX g LL xs) (hat : q_I h 1 6 = nI p) (hp : p < n) : q_Ct l g 4 mX7_scanToken [.ref 1, .int (nI i)] h (fun r h1 => r = some (.int (q_kap (tz_k n B p))) ∧ tz_fr i h h1 ∧ q_I h1 1 6 = nI (tz_e n B p) ∧ (tz_k n B p = 1 → q_J h1 5 i = q_e5 (tz_w B p (tz_to tz_le n B p))) ∧ (tz_k n B p = 2 → (q_J h1 5 i).toInt32 = nI (tz_v B p (tz_to tz_di n B p - p)))) := by
  have hn := hB.2.1
  have hb := hB.2.2.2 p
  refine q_CtV mvX7_scanToken (Nat.le_of_ble_eq_true rfl) ?_
  refine xe_aload_n dX7_scanToken_0 rfl ?_
  refine xe_aload_n dX7_scanToken_1 rfl ?_
  refine xe_getIv dX7_scanToken_2 flX7_48 (st1 hs) (by decide) rfl (v := nI p) (hat) ?_
  refine xe_callVI (d' := 0) (y' := mX7_byteAt) dX7_scanToken_5 mlX7_51 mvX7_byteAt rfl (st1 hs) (by decide) rfl (by decide) (by decide) (Nat.le_of_ble_eq_true rfl) (c_X7_byteAt_t l g _ (by exact hs) (n := n) (B := B) (by exact hB) (by omega)) rfl ?_
  refine xe_istore_n (i := 2) dX7_scanToken_8 rfl (by decide) rfl ?_
  refine xe_iload_n dX7_scanToken_9 rfl ?_
  refine xe_iconst dX7_scanToken_10 kc_m1 ?_
  refine xe_icmp_ne (tgt := 16) dX7_scanToken_11 rfl (fun c1 => ?_) (fun c1 => ?_)
  · refine xe_iload_n dX7_scanToken_16 rfl ?_
    refine xe_callSI (d' := 0) (y' := mX7_isLetter) dX7_scanToken_17 mlX7_62 msX7_isLetter rfl (by decide) (by decide) (Nat.le_of_ble_eq_true rfl) (c_X7_isLetter l g _ (hB.2.2.2 _)) rfl ?_
    refine xe_if_eq (tgt := 29) dX7_scanToken_20 rfl (fun c_l => ?_) (fun c_l => ?_)
    · refine xe_iload_n dX7_scanToken_29 rfl ?_
      refine xe_callSI (d' := 0) (y' := mX7_isDigit) dX7_scanToken_30 mlX7_68 msX7_isDigit rfl (by decide) (by decide) (Nat.le_of_ble_eq_true rfl) (c_X7_isDigit l g _ (hB.2.2.2 _)) rfl ?_
      refine xe_if_eq (tgt := 42) dX7_scanToken_33 rfl (fun c_d => ?_) (fun c_d => ?_)
      · refine xe_aload_n dX7_scanToken_42 rfl ?_
        refine xe_dup dX7_scanToken_43 rfl ?_
        refine xe_getIv dX7_scanToken_44 flX7_48 (st1 hs) (by decide) rfl (v := nI p) (hat) ?_
        refine xe_iconst dX7_scanToken_47 kc_1 ?_
        refine xn_iadd dX7_scanToken_48 ?_
        refine xe_putI dX7_scanToken_49 flX7_48 (st1 hs) (by decide) rfl (Or.inl rfl) rfl rfl ?_
        refine xe_ldcO dX7_scanToken_52 (i := 2 * 1) (fun U hU => (hX U hU).2.2.1) ?_
        refine xe_iload_n dX7_scanToken_54 rfl ?_
        refine xe_i2c dX7_scanToken_55 (v := nI (B p)) (tz_c2 hb) ?_
        refine xe_callVO (i := 1) (d' := 3) (y' := mJ0_indexOf_0f7a4) (as := [.int (nI (B p))]) (rest := []) dX7_scanToken_56 mlX7_76 mvJ0_indexOf_0f7a4 rfl rfl hX (by decide) (by decide) (by decide) (Nat.le_of_ble_eq_true rfl) (cJ_indexOf hX (i := 1) (by decide) hb (by decide)) rfl (fun r h2 q => ?_)
        obtain ⟨⟨v, rfl, q⟩, rfl⟩ := q
        refine xe_if_lt (tgt := 66) dX7_scanToken_59 rfl (fun c_v => ?_) (fun c_v => ?_)
        · refine xe_iconst dX7_scanToken_66 kc_m1 ?_
          refine xe_ireturn dX7_scanToken_67 rfl (by first | rfl | decide +kernel) ?_
          have hsg := tz_sg_c (B p) hb
          have hk := tz_k_s hp (tz_if0.mp c_l) (tz_if0.mp c_d)
          have hee := tz_e_s hp (tz_if0.mp c_l) (tz_if0.mp c_d)
          have hv := tz_sg_v (B p)
          have hq1 : (0 ≤ v ↔ ∃ j, j < 9 ∧ os_b 1 j = nI (B p)) := q.1
          rw [if_neg (fun z => absurd (hq1.mpr z) (Int32.not_le.mpr c_v))] at hsg
          rw [hk, hee]
          exact ⟨congrArg (fun v => some (Value.int v)) hsg.symm, tz_fr_a, rfl, fun z => absurd z (by omega), fun z => absurd z (by omega)⟩
        · refine xe_iload_n dX7_scanToken_62 rfl ?_
          refine xe_goto (tgt := 67) dX7_scanToken_63 rfl ?_
          refine xe_ireturn dX7_scanToken_67 rfl (by first | rfl | decide +kernel) ?_
          have hsg := tz_sg_c (B p) hb
          have hk := tz_k_s hp (tz_if0.mp c_l) (tz_if0.mp c_d)
          have hee := tz_e_s hp (tz_if0.mp c_l) (tz_if0.mp c_d)
          have hv := tz_sg_v (B p)
          have hq1 : (0 ≤ v ↔ ∃ j, j < 9 ∧ os_b 1 j = nI (B p)) := q.1
          rw [if_pos (hq1.mp (Int32.not_lt.mp c_v))] at hsg
          rw [hk, hee]
          exact ⟨congrArg (fun v => some (Value.int v)) hsg.symm, tz_fr_a, rfl, fun z => absurd z (by omega), fun z => absurd z (by omega)⟩
      · have c_d2 := Classical.not_not.mp (fun q => c_d (tz_if0.mpr q))
        refine xe_aload_n dX7_scanToken_36 rfl ?_
        refine xe_iload_n dX7_scanToken_37 rfl ?_
        refine xe_callV (d' := 1) (y' := mX7_scanDigits) (as := [.int (nI i)]) (rest := []) dX7_scanToken_38 mlX7_71 mvX7_scanDigits rfl (st1 hs) (by decide) rfl (by decide) (by decide) (Nat.le_of_ble_eq_true rfl) (c_X7_scanDigits l g _ (by exact hs) (n := n) (B := B) (by exact hB) hp hi (tz_if0.mp c_l) (by exact c_d2) (by exact hat)) rfl (fun r h2 q => ?_)
        obtain ⟨rfl, w2⟩ := q
        refine xe_ireturn dX7_scanToken_41 rfl rfl ?_
        exact ⟨rfl, w2⟩
    · have c_l2 := Classical.not_not.mp (fun q => c_l (tz_if0.mpr q))
      refine xe_aload_n dX7_scanToken_23 rfl ?_
      refine xe_iload_n dX7_scanToken_24 rfl ?_
      refine xe_callV (d' := 1) (y' := mX7_scanLetters) (as := [.int (nI i)]) (rest := []) dX7_scanToken_25 mlX7_65 mvX7_scanLetters rfl (st1 hs) (by decide) rfl (by decide) (by decide) (Nat.le_of_ble_eq_true rfl) (c_X7_scanLetters l g _ (by exact hs) (n := n) (B := B) (by exact hB) hp hi (by exact c_l2) (by exact hW) (by exact hat)) rfl (fun r h2 q => ?_)
      obtain ⟨rfl, w2⟩ := q
      refine xe_ireturn dX7_scanToken_28 rfl rfl ?_
      exact ⟨rfl, w2⟩
  · exact absurd c1 (q_nIm1 (by omega))
theorem c_X7_scanToken_f (l : Launch) (g : q_GP) (h : q_H) (hs : q_Stat h) {n : Nat} {B : Nat → Nat} (hB : tb_B h n B) {p i : Nat} (hi : i ≤ 400) (hW : ck_W h) {LL : Nat} {xs : Nat → Int32} (hX : q_GX g LL xs) (hat : q_I h 1 6 = nI p) (hp : n ≤ p) (hp2 : p ≤ 2000) : q_Ct l g 4 mX7_scanToken [.ref 1, .int (nI i)] h (fun r h1 => r = some (.int (q_kap (tz_k n B p))) ∧ tz_fr i h h1 ∧ q_I h1 1 6 = nI (tz_e n B p) ∧ (tz_k n B p = 1 → q_J h1 5 i = q_e5 (tz_w B p (tz_to tz_le n B p))) ∧ (tz_k n B p = 2 → (q_J h1 5 i).toInt32 = nI (tz_v B p (tz_to tz_di n B p - p)))) := by
  have hn := hB.2.1
  refine q_CtV mvX7_scanToken (Nat.le_of_ble_eq_true rfl) ?_
  refine xe_aload_n dX7_scanToken_0 rfl ?_
  refine xe_aload_n dX7_scanToken_1 rfl ?_
  refine xe_getIv dX7_scanToken_2 flX7_48 (st1 hs) (by decide) rfl (v := nI p) (hat) ?_
  refine xe_callVI (d' := 0) (y' := mX7_byteAt) dX7_scanToken_5 mlX7_51 mvX7_byteAt rfl (st1 hs) (by decide) rfl (by decide) (by decide) (Nat.le_of_ble_eq_true rfl) (c_X7_byteAt_f l g _ (by exact hs) (n := n) (B := B) (by exact hB) hp hp2) rfl ?_
  refine xe_istore_n (i := 2) dX7_scanToken_8 rfl (by decide) rfl ?_
  refine xe_iload_n dX7_scanToken_9 rfl ?_
  refine xe_iconst dX7_scanToken_10 kc_m1 ?_
  refine xe_icmp_ne (tgt := 16) dX7_scanToken_11 rfl (fun c1 => ?_) (fun c1 => ?_)
  · exact absurd rfl c1
  · refine xe_iconst dX7_scanToken_14 kc_0 ?_
    refine xe_ireturn dX7_scanToken_15 rfl (by first | rfl | decide +kernel) ?_
    rw [tz_k_n hp, tz_e_n hp]
    exact ⟨rfl, tz_fr_r, hat, fun z => absurd z (by decide), fun z => absurd z (by decide)⟩
theorem c_X7_scanToken (l : Launch) (g : q_GP) (h : q_H) (hs : q_Stat h) {n : Nat} {B : Nat → Nat} (hB : tb_B h n B) {p i : Nat} (hi : i ≤ 400) (hW : ck_W h) {LL : Nat} {xs : Nat → Int32} (hX : q_GX g LL xs) (hat : q_I h 1 6 = nI p) (hp2 : p ≤ 2000) : q_Ct l g 4 mX7_scanToken [.ref 1, .int (nI i)] h (fun r h1 => r = some (.int (q_kap (tz_k n B p))) ∧ tz_fr i h h1 ∧ q_I h1 1 6 = nI (tz_e n B p) ∧ (tz_k n B p = 1 → q_J h1 5 i = q_e5 (tz_w B p (tz_to tz_le n B p))) ∧ (tz_k n B p = 2 → (q_J h1 5 i).toInt32 = nI (tz_v B p (tz_to tz_di n B p - p)))) := by
  rcases Nat.lt_or_ge p n with q | q
  · exact c_X7_scanToken_t l g h hs hB hi hW hX hat q
  · exact c_X7_scanToken_f l g h hs hB hi hW hX hat q hp2
