/-! the class: the scan of a text -/
def tz_en (hh : q_H) (n : Nat) (B : Nat → Nat) (j : Nat) : Prop := q_I hh 3 j = q_kap (tz_k n B (tz_p n B j)) ∧ q_I hh 4 j = nI (tz_p n B j) ∧ (tz_k n B (tz_p n B j) = 1 → q_J hh 5 j = q_e5 (tz_w B (tz_p n B j) (tz_to tz_le n B (tz_p n B j)))) ∧ (tz_k n B (tz_p n B j) = 2 → (q_J hh 5 j).toInt32 = nI (tz_v B (tz_p n B j) (tz_to tz_di n B (tz_p n B j) - tz_p n B j)))
def tz_S (h hh : q_H) (n : Nat) (B : Nat → Nat) (i : Nat) : Prop := hh.2.2 = h.2.2 ∧ (∀ r, r ≠ 1 → r ≠ 3 → r ≠ 4 → q_I hh r = q_I h r) ∧ (∀ k, k ≠ 6 → q_I hh 1 k = q_I h 1 k) ∧ (∀ r, r ≠ 5 → q_J hh r = q_J h r) ∧ ∀ j, j < i → tz_en hh n B j
theorem tz_S_s {h hh hA h2 : q_H} {n : Nat} {B : Nat → Nat} {i : Nat} (hS : tz_S h hh n B i) (a1 : hA.2.2 = hh.2.2) (a2 : ∀ r, r ≠ 1 → r ≠ 4 → q_I hA r = q_I hh r) (a3 : ∀ k, k ≠ 6 → q_I hA 1 k = q_I hh 1 k) (a4 : q_I hA 4 = upd (q_I hh 4) i (nI (tz_p n B i))) (a5 : ∀ r, r ≠ 5 → q_J hA r = q_J hh r) (a6 : ∀ j, j ≠ i → q_J hA 5 j = q_J hh 5 j) (fr : tz_fr i hA h2)
    (w3 : tz_k n B (tz_p n B i) = 1 → q_J h2 5 i = q_e5 (tz_w B (tz_p n B i) (tz_to tz_le n B (tz_p n B i)))) (w4 : tz_k n B (tz_p n B i) = 2 → (q_J h2 5 i).toInt32 = nI (tz_v B (tz_p n B i) (tz_to tz_di n B (tz_p n B i) - tz_p n B i))) : tz_S h (q_wI h2 3 (upd (q_I h2 3) i (q_kap (tz_k n B (tz_p n B i))))) n B (i + 1) := by
  obtain ⟨s1, s2, s3, s4, s5⟩ := hS
  obtain ⟨f1, f2, f3, f4, f5⟩ := fr
  have e4 : q_I (q_wI h2 3 (upd (q_I h2 3) i (q_kap (tz_k n B (tz_p n B i))))) 4 = upd (q_I hh 4) i (nI (tz_p n B i)) := (q_Ine (by decide)).trans ((f2 4 (by decide)).trans a4)
  have e3 : q_I (q_wI h2 3 (upd (q_I h2 3) i (q_kap (tz_k n B (tz_p n B i))))) 3 = upd (q_I h2 3) i (q_kap (tz_k n B (tz_p n B i))) := rfl
  refine ⟨f1.trans (a1.trans s1), fun r h1 h3 h4 => (q_Ine h3).trans ((f2 r h1).trans ((a2 r h1 h4).trans (s2 r h1 h3 h4))), fun k hk => (congrFun (q_Ine (by decide)) k).trans ((f3 k hk).trans ((a3 k hk).trans (s3 k hk))), fun r hr => (f4 r hr).trans ((a5 r hr).trans (s4 r hr)), fun j hj => ?_⟩
  rcases Nat.lt_succ_iff_lt_or_eq.mp hj with q | rfl
  · have hne : j ≠ i := by omega
    obtain ⟨z1, z2, z3, z4⟩ := s5 j q
    have eJ : q_J h2 5 j = q_J hh 5 j := (f5 j hne).trans (a6 j hne)
    refine ⟨?_, ?_, fun k => eJ.trans (z3 k), fun k => (congrArg Int64.toInt32 eJ).trans (z4 k)⟩
    · rw [e3]
      exact (if_neg hne).trans ((congrFun (f2 3 (by decide)) j).trans ((congrFun (a2 3 (by decide) (by decide)) j).trans z1))
    · rw [e4]
      exact (if_neg hne).trans z2
  · refine ⟨?_, ?_, w3, w4⟩
    · rw [e3]
      exact if_pos rfl
    · rw [e4]
      exact if_pos rfl
theorem tz_SB {h hh : q_H} {n : Nat} {B : Nat → Nat} {i : Nat} (hS : tz_S h hh n B i) (hB : tb_B h n B) : tb_B hh n B := ⟨(hS.2.2.1 1 (by decide)).trans hB.1, hB.2.1, fun j hj => by rw [hS.2.1 2 (by decide) (by decide) (by decide)]; exact hB.2.2.1 j hj, hB.2.2.2⟩
theorem tz_SW {h hh : q_H} {n : Nat} {B : Nat → Nat} {i : Nat} (hS : tz_S h hh n B i) (hW : ck_W h) : ck_W hh := fun w hw => by rw [hS.2.2.2.1 6 (by decide)]; exact hW w hw
/-- what the scan does -/
def tz_A (h h1 : q_H) (n : Nat) (B : Nat → Nat) : Prop := ∃ m, m ≤ 400 ∧ (m = 400 ∨ tz_k n B (tz_p n B m) = 0 ∨ tz_k n B (tz_p n B m) = 3) ∧ (∀ j, j < m → ¬ tz_k n B (tz_p n B j) = 0 ∧ ¬ tz_k n B (tz_p n B j) = 3) ∧ tz_S h h1 n B (m + 1)
theorem tzs_63 (l : Launch) (g : q_GP) (h : q_H) (hs : q_Stat h) {n : Nat} {B : Nat → Nat} (hB : tb_B h n B) (hW : ck_W h) {LL : Nat} {xs : Nat → Int32} (hX : q_GX g LL xs) {hh : q_H} {i : Nat} (hi : i ≤ 400) (hS : tz_S h hh n B i) {Q : Option Value → q_H → Prop} {p : Nat} (hp : p = (tz_p n B i)) (kv : Int32) (K : ∀ h2, tz_S h h2 n B (i + 1) → q_I h2 1 6 = nI (tz_e n B (tz_p n B i)) → q_Ex l g 5 mX7_scan 9 [(0, .ref 1), (1, .int (q_kap (tz_k n B (tz_p n B i)))), (2, .int (nI (i + 1)))] [] h2 Q) : q_Ex l g 5 mX7_scan 63 [(0, .ref 1), (1, .int kv), (2, .int (nI i))] [] (q_wI hh 1 (upd (q_I hh 1) 6 (nI p))) Q := by
  subst hp
  have hn := hB.2.1
  have hpn := tz_p_le (n := n) (B := B) i
  have hs2 : q_Stat hh := q_Stat_3 hS.1 hs
  have hB2 := tz_SB hS hB
  have hW2 := tz_SW hS hW
  refine xe_aload_n dX7_scan_63 rfl ?_
  refine xe_getP dX7_scan_64 flX7_19 (st1 hs2) (by decide) rfl (sp1_3 hs2) ?_
  refine xe_iload_n dX7_scan_67 rfl ?_
  refine xe_aload_n dX7_scan_68 rfl ?_
  refine xe_getIv dX7_scan_69 flX7_48 (st1 hs2) (by decide) rfl (v := nI (tz_p n B i)) (rfl) ?_
  refine xn_iast dX7_scan_72 (st4 hs2) (by omega) (by decide) ?_
  refine xe_aload_n dX7_scan_73 rfl ?_
  refine xe_getP dX7_scan_74 flX7_22 (st1 hs2) (by decide) rfl (sp1_4 hs2) ?_
  refine xe_iload_n dX7_scan_77 rfl ?_
  refine xe_lconst dX7_scan_78 rfl ?_
  refine xn_last dX7_scan_79 (st5 hs2) (by omega) (by decide) ?_
  refine xe_aload_n dX7_scan_80 rfl ?_
  refine xe_iload_n dX7_scan_81 rfl ?_
  refine xe_callV (d' := 4) (y' := mX7_scanToken) (as := [.int (nI i)]) (rest := []) dX7_scan_82 mlX7_59 mvX7_scanToken rfl (st1 hs2) (by decide) rfl (by decide) (by decide) (Nat.le_of_ble_eq_true rfl) (c_X7_scanToken l g _ (by exact hs2) (n := n) (B := B) (by exact hB2) hi (by exact hW2) hX (p := (tz_p n B i)) (by exact rfl) (by omega)) rfl (fun r h2 q => ?_)
  obtain ⟨rfl, w1, w2, w3, w4⟩ := q
  have hs3 : q_Stat h2 := q_Stat_3 w1.1 hs2
  refine xe_istore_n (i := 1) dX7_scan_85 rfl (by decide) rfl ?_
  refine xe_aload_n dX7_scan_86 rfl ?_
  refine xe_getP dX7_scan_87 flX7_15 (st1 hs3) (by decide) rfl (sp1_2 hs3) ?_
  refine xe_iload_n dX7_scan_90 rfl ?_
  refine xe_iload_n dX7_scan_91 rfl ?_
  refine xn_iast dX7_scan_92 (st3 hs3) (by omega) (by decide) ?_
  refine xn_iinc dX7_scan_93 rfl kc_1 ?_
  refine xe_goto (tgt := 9) dX7_scan_96 rfl ?_
  refine xe_locals (L' := [(0, .ref 1), (1, .int (q_kap (tz_k n B (tz_p n B i)))), (2, .int (nI (i + 1)))]) ⟨rfl, rfl, rfl, trivial⟩ (K _ (tz_S_s hS ?_ ?_ ?_ ?_ ?_ ?_ w1 w3 w4) w2)
  · exact rfl
  · exact fun r h1 h4 => (q_Ine h4).trans (q_Ine h1)
  · exact fun k hk => if_neg hk
  · exact rfl
  · exact fun r hr => if_neg hr
  · exact fun j hj => if_neg hj
theorem tzs_25 (l : Launch) (g : q_GP) (h : q_H) (hs : q_Stat h) {n : Nat} {B : Nat → Nat} (hB : tb_B h n B) (hW : ck_W h) {LL : Nat} {xs : Nat → Int32} (hX : q_GX g LL xs) {hh : q_H} {i : Nat} (hi : i ≤ 400) (hS : tz_S h hh n B i) {e : Nat} (he : tz_to tz_bl n B e = (tz_p n B i)) (hen : e ≤ n) (hat : q_I hh 1 6 = nI e) (kv : Int32) {Q : Option Value → q_H → Prop} (K : ∀ h2, tz_S h h2 n B (i + 1) → q_I h2 1 6 = nI (tz_e n B (tz_p n B i)) → q_Ex l g 5 mX7_scan 9 [(0, .ref 1), (1, .int (q_kap (tz_k n B (tz_p n B i)))), (2, .int (nI (i + 1)))] [] h2 Q) : q_Ex l g 5 mX7_scan 25 [(0, .ref 1), (1, .int kv), (2, .int (nI i))] [] hh Q := by
  have hn := hB.2.1
  have hs2 : q_Stat hh := q_Stat_3 hS.1 hs
  have hB2 := tz_SB hS hB
  refine xe_fin (L' := (fun (k : Nat) (s1 : Nat) => [(0, .ref 1), (1, .int kv), (2, .int (nI i))]) 0 e) (h' := (fun (k : Nat) (s1 : Nat) => (q_wI hh 1 (upd (q_I hh 1) 6 (nI s1)))) 0 e) ?_ (And.intro rfl (And.intro rfl (And.intro rfl trivial))) (q_heq [1] (H := hh) (by repeat (first | exact q_out_r | refine q_out_w rfl ?_)) (by repeat (first | exact q_out_r | refine q_out_w rfl ?_)) (And.intro (tz_uid hat).symm trivial))
  refine xe_loopW (σ := Nat) (n - e) (fun k s => s = e + k ∧ tz_to tz_bl n B e = tz_to tz_bl n B s ∧ s ≤ n) (fun (k : Nat) (s1 : Nat) => [(0, .ref 1), (1, .int kv), (2, .int (nI i))]) (fun (k : Nat) (s1 : Nat) => (q_wI hh 1 (upd (q_I hh 1) 6 (nI s1)))) e (⟨rfl, rfl, hen⟩) (fun k hk s1 e1 K1 => ?_)
  · obtain ⟨s_1, s_2, s_3⟩ := e1
    refine xe_aload_n dX7_scan_25 rfl ?_
    refine xe_getIv dX7_scan_26 flX7_48 (st1 hs2) (by decide) rfl (v := nI s1) (rfl) ?_
    refine xe_aload_n dX7_scan_29 rfl ?_
    refine xe_getIv dX7_scan_30 flX7_45 (st1 hs2) (by decide) rfl (v := nI n) (hB2.1) ?_
    refine xn_icmp_ge (tgt := 63) dX7_scan_33 rfl (by omega) (by omega) (fun c_a => ?_) (fun c_a => ?_)
    · exact xe_fin (tzs_63 l g h hs hB hW hX hi hS (p := s1) (((s_2.trans (tz_to_n (by omega))).symm).trans he) kv K) ⟨rfl, rfl, rfl, trivial⟩ (q_heq [1] (H := hh) (by repeat (first | exact q_out_r | refine q_out_w rfl ?_)) (by repeat (first | exact q_out_r | refine q_out_w rfl ?_)) (And.intro (q_feq [6] (f := q_I hh 1) (by repeat (first | exact q_fout_r | refine q_fout_w rfl ?_)) (by repeat (first | exact q_fout_r | refine q_fout_w rfl ?_)) (And.intro rfl trivial)) trivial))
    · refine xe_aload_n dX7_scan_36 rfl ?_
      refine xe_aload_n dX7_scan_37 rfl ?_
      refine xe_getIv dX7_scan_38 flX7_48 (st1 hs2) (by decide) rfl (v := nI s1) (rfl) ?_
      refine xe_callVI (d' := 0) (y' := mX7_byteAt) dX7_scan_41 mlX7_51 mvX7_byteAt rfl (st1 hs2) (by decide) rfl (by decide) (by decide) (Nat.le_of_ble_eq_true rfl) (c_X7_byteAt_t l g _ (by exact hs2) (n := n) (B := B) (by exact hB2) (by omega)) rfl ?_
      refine xe_callSI (d' := 0) (y' := mX7_isBlank) dX7_scan_44 mlX7_55 msX7_isBlank rfl (by decide) (by decide) (Nat.le_of_ble_eq_true rfl) (c_X7_isBlank l g _ (hB.2.2.2 _)) rfl ?_
      refine xe_if_eq (tgt := 63) dX7_scan_47 rfl (fun c_l => ?_) (fun c_l => ?_)
      · exact xe_fin (tzs_63 l g h hs hB hW hX hi hS (p := s1) (((s_2.trans (tz_to_f (tz_if0.mp c_l))).symm).trans he) kv K) ⟨rfl, rfl, rfl, trivial⟩ (q_heq [1] (H := hh) (by repeat (first | exact q_out_r | refine q_out_w rfl ?_)) (by repeat (first | exact q_out_r | refine q_out_w rfl ?_)) (And.intro (q_feq [6] (f := q_I hh 1) (by repeat (first | exact q_fout_r | refine q_fout_w rfl ?_)) (by repeat (first | exact q_fout_r | refine q_fout_w rfl ?_)) (And.intro rfl trivial)) trivial))
      · have c_l2 := Classical.not_not.mp (fun q => c_l (tz_if0.mpr q))
        refine xe_aload_n dX7_scan_50 rfl ?_
        refine xe_dup dX7_scan_51 rfl ?_
        refine xe_getIv dX7_scan_52 flX7_48 (st1 hs2) (by decide) rfl (v := nI s1) (rfl) ?_
        refine xe_iconst dX7_scan_55 kc_1 ?_
        refine xn_iadd dX7_scan_56 ?_
        refine xe_putI dX7_scan_57 flX7_48 (st1 hs2) (by decide) rfl (Or.inl rfl) rfl rfl ?_
        refine xe_goto (tgt := 25) dX7_scan_60 rfl ?_
        exact xe_fin (K1 (by omega) (s1 + 1) (⟨by omega, s_2.trans (tz_to_t (by omega) c_l2), by omega⟩)) (And.intro rfl (And.intro rfl (And.intro rfl trivial))) (q_heq [1] (H := hh) (by repeat (first | exact q_out_r | refine q_out_w rfl ?_)) (by repeat (first | exact q_out_r | refine q_out_w rfl ?_)) (And.intro (q_feq [6] (f := q_I hh 1) (by repeat (first | exact q_fout_r | refine q_fout_w rfl ?_)) (by repeat (first | exact q_fout_r | refine q_fout_w rfl ?_)) (And.intro rfl trivial)) trivial))
theorem tzs_9 (l : Launch) (g : q_GP) (h : q_H) (hs : q_Stat h) {n : Nat} {B : Nat → Nat} (hB : tb_B h n B) (hW : ck_W h) {LL : Nat} {xs : Nat → Int32} (hX : q_GX g LL xs)  : ∀ (f i : Nat) (hh : q_H) (kv : Int32) (e : Nat), i + f = 401 → tz_S h hh n B i → tz_to tz_bl n B e = (tz_p n B i) → e ≤ n → q_I hh 1 6 = nI e → ¬ kv = -1 → ¬ kv = 0 → (∀ j, j < i → ¬ tz_k n B (tz_p n B j) = 0 ∧ ¬ tz_k n B (tz_p n B j) = 3) → q_Ex l g 5 mX7_scan 9 [(0, .ref 1), (1, .int kv), (2, .int (nI i))] [] hh (fun r h1 => r = none ∧ tz_A h h1 n B) := by
  intro f
  induction f with
  | zero =>
    intro i hh kv e hi hS he hen hat hk1 hk0 hj
    obtain rfl : i = 401 := by omega
    refine xe_iload_n dX7_scan_9 rfl ?_
    refine xe_sipush dX7_scan_10 ks_400 ?_
    refine xn_icmp_gt (tgt := 99) dX7_scan_13 rfl (by decide) (by decide) (fun _ => ?_) (fun q => absurd q (by decide))
    refine xe_return dX7_scan_99 rfl ?_
    exact ⟨rfl, 400, by decide, Or.inl rfl, fun j h1 => hj j (by omega), hS⟩
  | succ f ih =>
    intro i hh kv e hi hS he hen hat hk1 hk0 hj
    refine xe_iload_n dX7_scan_9 rfl ?_
    refine xe_sipush dX7_scan_10 ks_400 ?_
    refine xn_icmp_gt (tgt := 99) dX7_scan_13 rfl (by omega) (by decide) (fun q => absurd q (by omega)) (fun _ => ?_)
    refine xe_iload_n dX7_scan_16 rfl ?_
    refine xe_iconst dX7_scan_17 kc_m1 ?_
    refine xe_icmp_eq (tgt := 99) dX7_scan_18 rfl (fun q => absurd q hk1) (fun _ => ?_)
    refine xe_iload_n dX7_scan_21 rfl ?_
    refine xe_if_eq (tgt := 99) dX7_scan_22 rfl (fun q => absurd q hk0) (fun _ => ?_)
    refine tzs_25 l g h hs hB hW hX (by omega) hS he hen hat kv (fun h2 hS2 hat2 => ?_)
    have hp2 : tz_to tz_bl n B (tz_e n B (tz_p n B i)) = tz_p n B (i + 1) := rfl
    have hen2 : tz_e n B (tz_p n B i) ≤ n := tz_e_le (tz_p_le i)
    by_cases q0 : tz_k n B (tz_p n B i) = 0 ∨ tz_k n B (tz_p n B i) = 3
    · have fin : ∀ pc, pc = 99 → q_Ex l g 5 mX7_scan pc [(0, .ref 1), (1, .int (q_kap (tz_k n B (tz_p n B i)))), (2, .int (nI (i + 1)))] [] h2 (fun r h1 => r = none ∧ tz_A h h1 n B) := fun pc e => by
        subst e
        refine xe_return dX7_scan_99 rfl ?_
        exact ⟨rfl, i, by omega, Or.inr q0, hj, hS2⟩
      refine xe_iload_n dX7_scan_9 rfl ?_
      refine xe_sipush dX7_scan_10 ks_400 ?_
      refine xn_icmp_gt (tgt := 99) dX7_scan_13 rfl (by omega) (by decide) (fun _ => fin _ rfl) (fun _ => ?_)
      refine xe_iload_n dX7_scan_16 rfl ?_
      refine xe_iconst dX7_scan_17 kc_m1 ?_
      refine xe_icmp_eq (tgt := 99) dX7_scan_18 rfl (fun _ => fin _ rfl) (fun z => ?_)
      refine xe_iload_n dX7_scan_21 rfl ?_
      refine xe_if_eq (tgt := 99) dX7_scan_22 rfl (fun _ => fin _ rfl) (fun z2 => ?_)
      rcases q0 with q0 | q0
      · exact absurd (by rw [q0]; decide) z2
      · exact absurd (by rw [q0]; decide) z
    · refine ih (i + 1) h2 _ _ (by omega) hS2 hp2 hen2 hat2 ?_ ?_ (fun j h1 => ?_)
      · have h1 := q_kn_lt (a := tz_k n B (tz_p n B i)) (by have := tz_k_36 (n := n) (B := B) (p := (tz_p n B i)); omega)
        rw [q_kap_n (fun z => q0 (Or.inr z))]
        exact q_nIm1 (by omega)
      · intro z
        rcases Nat.lt_or_ge (tz_p n B i) n with z1 | z1
        · have h1 := q_kn_lt (a := tz_k n B (tz_p n B i)) (by have := tz_k_36 (n := n) (B := B) (p := (tz_p n B i)); omega)
          rw [q_kap_n (fun z => q0 (Or.inr z))] at z
          have H : ∀ k, k < 37 → tk_ok k = true → ¬ k = 0 → ¬ k = 3 → ¬ nI (q_kn k) = 0 := by decide +kernel
          exact H (tz_k n B (tz_p n B i)) (tk_lt tz_okk) tz_okk (fun z => q0 (Or.inl z)) (fun z => q0 (Or.inr z)) z
        · exact q0 (Or.inl (tz_k_n z1))
      · rcases Nat.lt_succ_iff_lt_or_eq.mp h1 with z | rfl
        · exact hj j z
        · exact ⟨fun z => q0 (Or.inl z), fun z => q0 (Or.inr z)⟩
theorem c_X7_scan (l : Launch) (g : q_GP) (h : q_H) (hs : q_Stat h) {n : Nat} {B : Nat → Nat} (hB : tb_B h n B) (hW : ck_W h) {LL : Nat} {xs : Nat → Int32} (hX : q_GX g LL xs) : q_Ct l g 5 mX7_scan [.ref 1] h (fun r h1 => r = none ∧ tz_A h h1 n B) := by
  refine q_CtV mvX7_scan (Nat.le_of_ble_eq_true rfl) ?_
  refine xe_aload_n dX7_scan_0 rfl ?_
  refine xe_iconst dX7_scan_1 kc_0 ?_
  refine xe_putI dX7_scan_2 flX7_48 (st1 hs) (by decide) rfl (Or.inl rfl) rfl rfl ?_
  refine xe_iconst dX7_scan_5 kc_1 ?_
  refine xe_istore_n (i := 1) dX7_scan_6 rfl (by decide) rfl ?_
  refine xe_iconst dX7_scan_7 kc_0 ?_
  refine xe_istore_n (i := 2) dX7_scan_8 rfl (by decide) rfl ?_
  exact xe_locals (L' := [(0, .ref 1), (1, .int (nI 1)), (2, .int (nI 0))]) ⟨rfl, rfl, rfl, trivial⟩ (tzs_9 l g h hs hB hW hX 401 0 _ _ 0 rfl ⟨rfl, fun r h1 _ _ => q_Ine h1, fun k hk => if_neg hk, fun _ _ => rfl, fun j hj => absurd hj (Nat.not_lt_zero _)⟩ rfl (Nat.zero_le _) rfl (by decide) (by decide) (fun j hj => absurd hj (Nat.not_lt_zero _)))
/-- the class's tokens -/
theorem tz_ckT {h h1 : q_H} {n : Nat} {B : Nat → Nat} (hn : n ≤ 2000) (a : tz_A h h1 n B) : ∃ m, ck_T h1 (tz_K n B) m := by
  obtain ⟨m, hm, hk, hj, hS⟩ := a
  refine ⟨m, hm, hk, fun i hi => ?_⟩
  obtain ⟨z1, z2, z3, z4⟩ := hS.2.2.2.2 i (by omega)
  have hp := tz_p_le (n := n) (B := B) i
  exact ⟨tz_okk, by show tz_p n B i < 2 ^ 20; omega, z1, z2, fun q => ⟨z3 q, (tz_nm q).2.2⟩, fun q => ⟨z4 q, (tz_vm q).2.2.2.2⟩⟩
