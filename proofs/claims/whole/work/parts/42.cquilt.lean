/-! the class: the quilt -/
theorem q_sb_bits {f : Nat → Nat} {s t : Nat} : ∀ n, (∀ k, k < n → s.testBit k = t.testBit k) → q_sb f s n = q_sb f t n
  | 0, _ => rfl
  | n + 1, h => by
    unfold q_sb
    rw [h n (by omega), q_sb_bits n (fun k hk => h k (by omega))]
theorem q_sb_lo {f : Nat → Nat} {s m : Nat} (hs : s < 2 ^ m) : q_sb f s (m + 1) = q_sb f s m := q_sb_n (by rw [Nat.testBit_lt_two_pow hs]; decide)
theorem q_sb_hi {f : Nat → Nat} {s m : Nat} (hs : s < 2 ^ m) : q_sb f (s + 2 ^ m) (m + 1) = q_sb f s m + f m := by
  rw [q_sb_y (by rw [Nat.add_comm, Nat.testBit_two_pow_add_eq, Nat.testBit_lt_two_pow hs]; rfl), q_sb_bits (s := s + 2 ^ m) (t := s) m (fun k hk => by rw [Nat.add_comm, Nat.testBit_two_pow_add_gt hk])]
/-- the nine rows of the least guilt at once -/
def q_wL (h : q_H) (L : Nat → Nat → Int32) : q_H := (fun r => if 102 ≤ r ∧ r ≤ 110 then L (r - 102) else h.1 r, h.2)
theorem q_out_l {ks : List Nat} {H h1 : q_H} {L : Nat → Nat → Int32} (hr : (ks.contains 102 && ks.contains 103 && ks.contains 104 && ks.contains 105 && ks.contains 106 && ks.contains 107 && ks.contains 108 && ks.contains 109 && ks.contains 110) = true) (a : q_out ks H h1) : q_out ks H (q_wL h1 L) := by
  simp only [Bool.and_eq_true] at hr
  obtain ⟨⟨⟨⟨⟨⟨⟨⟨r2, r3⟩, r4⟩, r5⟩, r6⟩, r7⟩, r8⟩, r9⟩, r10⟩ := hr
  refine ⟨fun r h' => ?_, a.2⟩
  have hne : ¬ (102 ≤ r ∧ r ≤ 110) := fun q => by
    have : r = 102 ∨ r = 103 ∨ r = 104 ∨ r = 105 ∨ r = 106 ∨ r = 107 ∨ r = 108 ∨ r = 109 ∨ r = 110 := by omega
    rcases this with rfl | rfl | rfl | rfl | rfl | rfl | rfl | rfl | rfl
    · rw [r2] at h'; cases h'
    · rw [r3] at h'; cases h'
    · rw [r4] at h'; cases h'
    · rw [r5] at h'; cases h'
    · rw [r6] at h'; cases h'
    · rw [r7] at h'; cases h'
    · rw [r8] at h'; cases h'
    · rw [r9] at h'; cases h'
    · rw [r10] at h'; cases h'
  exact (if_neg hne).trans (a.1 r h')
theorem q_wL_at {h : q_H} {L : Nat → Nat → Int32} {j : Nat} (hj : j < 9) : q_I (q_wL h L) (102 + j) = L j := (if_pos ⟨by omega, by omega⟩).trans (by rw [show 102 + j - 102 = j by omega])
theorem q_wL_st {h : q_H} {L : Nat → Nat → Int32} {j : Nat} (hj : j < 9) (k : Nat) (v : Int32) : q_wI (q_wL h L) (102 + j) (upd (q_I (q_wL h L) (102 + j)) k v) = q_wL h (fun i => if i = j then upd (L j) k v else L i) := by
  rw [q_wL_at hj]
  refine Prod.ext ?_ rfl
  funext r
  show (if r = 102 + j then upd (L j) k v else (if 102 ≤ r ∧ r ≤ 110 then L (r - 102) else h.1 r)) = (if 102 ≤ r ∧ r ≤ 110 then (if r - 102 = j then upd (L j) k v else L (r - 102)) else h.1 r)
  by_cases h1 : r = 102 + j
  · rw [if_pos h1, if_pos ⟨by omega, by omega⟩, if_pos (by omega)]
  · rw [if_neg h1]
    by_cases h2 : 102 ≤ r ∧ r ≤ 110
    · rw [if_pos h2, if_pos h2, if_neg (by omega)]
    · rw [if_neg h2, if_neg h2]
theorem stL {h : q_H} (hs : q_Stat h) {j : Nat} (hj : j < 9) : q_Sh h (102 + j) 100 401 := by
  rcases (show j = 0 ∨ j = 1 ∨ j = 2 ∨ j = 3 ∨ j = 4 ∨ j = 5 ∨ j = 6 ∨ j = 7 ∨ j = 8 by omega) with rfl | rfl | rfl | rfl | rfl | rfl | rfl | rfl | rfl
  · exact st102 hs
  · exact st103 hs
  · exact st104 hs
  · exact st105 hs
  · exact st106 hs
  · exact st107 hs
  · exact st108 hs
  · exact st109 hs
  · exact st110 hs
theorem spL {h : q_H} (hs : q_Stat h) {j : Nat} (hj : j < 9) : q_P h 101 (nI j).toNatClampNeg = some (102 + j) := by
  rw [nI_clamp (by omega)]
  rcases (show j = 0 ∨ j = 1 ∨ j = 2 ∨ j = 3 ∨ j = 4 ∨ j = 5 ∨ j = 6 ∨ j = 7 ∨ j = 8 by omega) with rfl | rfl | rfl | rfl | rfl | rfl | rfl | rfl | rfl
  · exact sp101_0 hs
  · exact sp101_1 hs
  · exact sp101_2 hs
  · exact sp101_3 hs
  · exact sp101_4 hs
  · exact sp101_5 hs
  · exact sp101_6 hs
  · exact sp101_7 hs
  · exact sp101_8 hs
theorem q_max0 {k c : Nat} (hk : k < 2 ^ 30) (hc : c < 2 ^ 30) : (if nI 0 < nI k - nI c then nI k - nI c else nI 0) = nI (k - c) := by
  have h1 := q_stw hk hc
  by_cases h : c ≤ k
  · rw [pk_sub h]
    by_cases h2 : nI 0 < nI (k - c)
    · rw [if_pos h2]
    · rw [if_neg h2]
      have : ¬ 0 < k - c := fun q => h2 ((nI_ltI (by decide) (by omega)).mpr q)
      rw [show k - c = 0 by omega]
  · have h3 : ¬ (0 : Int32) ≤ nI k - nI c := fun q => h (h1.mp q)
    rw [if_neg (show ¬ nI 0 < nI k - nI c from fun q => h3 (Int32.le_of_lt q)), show k - c = 0 by omega]
theorem q_minN {a b : Nat} (ha : a < 2 ^ 31) (hb : b < 2 ^ 31) : (if nI b < nI a then nI b else nI a) = nI (if b < a then b else a) := by
  by_cases h : b < a
  · rw [if_pos h, if_pos ((nI_ltI hb ha).mpr h)]
  · rw [if_neg h, if_neg (fun q => h ((nI_ltI hb ha).mp q))]
theorem q_cm_0 (fi : Nat → Nat) (hv : Nat) : q_cm fi hv 0 0 = 0 := by
  unfold q_cm
  split
  · next h => exact Nat.le_zero.mp h
  · rfl
theorem q_cm_lo {fi : Nat → Nat} {hv s m : Nat} (hs : s < 2 ^ m) : q_cm fi hv (m + 1) s = q_cm fi hv m s := by
  unfold q_cm
  rw [q_sb_lo hs]
theorem q_cm_hi {fi : Nat → Nat} {hv s m : Nat} (hs : s < 2 ^ m) : q_cm fi hv (m + 1) (s + 2 ^ m) = if hv < q_cm fi hv m s + fi m then hv else q_cm fi hv m s + fi m := by
  unfold q_cm
  rw [q_sb_hi hs]
  by_cases h1 : hv ≤ q_sb fi s m
  · rw [if_pos h1, if_pos (show hv ≤ q_sb fi s m + fi m by omega)]
    by_cases h2 : hv < hv + fi m
    · rw [if_pos h2]
    · rw [if_neg h2]
      omega
  · rw [if_neg h1]
    by_cases h3 : hv ≤ q_sb fi s m + fi m
    · rw [if_pos h3]
      by_cases h4 : hv < q_sb fi s m + fi m
      · rw [if_pos h4]
      · rw [if_neg h4]
        omega
    · rw [if_neg h3, if_neg (by omega)]
theorem q_cm_hv (fi : Nat → Nat) (hv nd s : Nat) : q_cm fi hv nd s ≤ hv := by
  unfold q_cm
  split <;> omega
theorem c_X4_sumFines (l : Launch) (g : q_GP) (h : q_H) (hs : q_Stat h) {fi : Nat → Nat} {m nd hv : Nat} (hm : m < 8) (hnd : nd ≤ 8) (hfi : ∀ d, d < nd → q_I h 99 (m * 8 + d) = nI (fi d) ∧ fi d ≤ 999) (hhv : q_I h 100 m = nI hv) (hv2 : hv < 2 ^ 30) (hz : q_I h 112 0 = nI 0) : q_Ct l g 1 mX4_sumFines [.ref 98, .int (nI m), .int (nI nd)] h (fun r h1 => r = none ∧ ∃ C, h1 = q_wI h 112 C ∧ C 0 = nI 0 ∧ ∀ s, s < 2 ^ nd → C s = nI (q_cm fi hv nd s)) := by
  refine q_CtV mvX4_sumFines (Nat.le_of_ble_eq_true rfl) ?_
  refine xe_iconst dX4_sumFines_0 kc_0 ?_
  refine xe_istore_n (i := 3) dX4_sumFines_1 rfl (by decide) rfl ?_
  refine xe_fin (L' := (fun (d_ : Nat) (s1 : (Nat → Int32)) => [(0, .ref 98), (1, .int (nI m)), (2, .int (nI nd)), (3, .int (nI d_))]) 0 (q_I h 112)) (h' := (fun (d_ : Nat) (s1 : (Nat → Int32)) => (q_wI h 112 s1)) 0 (q_I h 112)) ?_ (And.intro rfl (And.intro rfl (And.intro rfl (And.intro rfl trivial)))) (q_heq [112] (H := h) (by repeat (first | exact q_out_r | refine q_out_w rfl ?_)) (by repeat (first | exact q_out_r | refine q_out_w rfl ?_)) (And.intro rfl trivial))
  refine xe_loopI (σ := (Nat → Int32)) (nd) (fun d C => C 0 = nI 0 ∧ ∀ s, s < 2 ^ d → C s = nI (q_cm fi hv d s)) (fun (d_ : Nat) (s1 : (Nat → Int32)) => [(0, .ref 98), (1, .int (nI m)), (2, .int (nI nd)), (3, .int (nI d_))]) (fun (d_ : Nat) (s1 : (Nat → Int32)) => (q_wI h 112 s1)) (q_I h 112) (⟨hz, fun s hs9 => by obtain rfl : s = 0 := (by have q : s < 1 := hs9; omega); rw [q_cm_0]; exact hz⟩) (fun d_ hd_ s1 e1 K1 => ?_) (fun s1 e1 => ?_)
  · have hp2 := q_pow_two (m := d_) (by omega)
    have hp3 : 0 < 2 ^ d_ := Nat.pow_pos (by decide)
    refine xe_iload_n dX4_sumFines_2 rfl ?_
    refine xe_iload_n dX4_sumFines_3 rfl ?_
    refine xn_icmp_ge (tgt := 73) dX4_sumFines_4 rfl (by omega) (by omega) (fun c2 => ?_) (fun c2 => ?_)
    · omega
    · refine xe_iconst dX4_sumFines_7 kc_0 ?_
      refine xe_istore dX4_sumFines_8 (by decide) rfl ?_
      refine xe_fin (L' := (fun (s_ : Nat) (s3 : (Nat → Int32)) => [(0, .ref 98), (1, .int (nI m)), (2, .int (nI nd)), (3, .int (nI d_)), (4, .int (nI s_))]) 0 s1) (h' := (fun (s_ : Nat) (s3 : (Nat → Int32)) => (q_wI h 112 s3)) 0 s1) ?_ (And.intro rfl (And.intro rfl (And.intro rfl (And.intro rfl (And.intro rfl trivial))))) (q_heq [112] (H := h) (by repeat (first | exact q_out_r | refine q_out_w rfl ?_)) (by repeat (first | exact q_out_r | refine q_out_w rfl ?_)) (And.intro rfl trivial))
      refine xe_loopI (σ := (Nat → Int32)) (2 ^ d_) (fun j C => C 0 = nI 0 ∧ (∀ s, s < 2 ^ d_ → C s = nI (q_cm fi hv d_ s)) ∧ ∀ s, s < j → C (s + 2 ^ d_) = nI (q_cm fi hv (d_ + 1) (s + 2 ^ d_))) (fun (s_ : Nat) (s3 : (Nat → Int32)) => [(0, .ref 98), (1, .int (nI m)), (2, .int (nI nd)), (3, .int (nI d_)), (4, .int (nI s_))]) (fun (s_ : Nat) (s3 : (Nat → Int32)) => (q_wI h 112 s3)) s1 (⟨e1.1, e1.2, fun _ q => absurd q (Nat.not_lt_zero _)⟩) (fun s_ hs_ s3 e3 K3 => ?_) (fun s3 e3 => ?_)
      · refine xe_iload dX4_sumFines_10 rfl ?_
        refine xe_iconst dX4_sumFines_12 kc_1 ?_
        refine xe_iload_n dX4_sumFines_13 rfl ?_
        refine xe_ishl dX4_sumFines_14 ?_
        refine xe_top (v' := nI (2 ^ d_)) (q_pow_nm d_ (by omega)) ?_
        refine xn_icmp_ge (tgt := 67) dX4_sumFines_15 rfl (by omega) (by omega) (fun c4 => ?_) (fun c4 => ?_)
        · omega
        · refine xe_aload_n dX4_sumFines_18 rfl ?_
          refine xe_getP dX4_sumFines_19 flX4_26 (st98 hs) (by decide) rfl (sp98_4 hs) ?_
          refine xe_iload dX4_sumFines_22 rfl ?_
          refine xn_ialdv dX4_sumFines_24 (st112 hs) (by omega) (by decide) (v := nI (q_cm fi hv d_ s_)) (e3.2.1 s_ hs_) ?_
          refine xe_aload_n dX4_sumFines_25 rfl ?_
          refine xe_getP dX4_sumFines_26 flX4_9 (st98 hs) (by decide) rfl (sp98_0 hs) ?_
          refine xe_iload_n dX4_sumFines_29 rfl ?_
          refine xe_bipush dX4_sumFines_30 kb_8 ?_
          refine xn_imul dX4_sumFines_32 ?_
          refine xe_iload_n dX4_sumFines_33 rfl ?_
          refine xn_iadd dX4_sumFines_34 ?_
          refine xn_ialdv dX4_sumFines_35 (st99 hs) (by omega) (by decide) (v := nI (fi d_)) ((hfi d_ hd_).1) ?_
          refine xn_iadd dX4_sumFines_36 ?_
          refine xe_istore dX4_sumFines_37 (by decide) rfl ?_
          refine xe_aload_n dX4_sumFines_39 rfl ?_
          refine xe_getP dX4_sumFines_40 flX4_26 (st98 hs) (by decide) rfl (sp98_4 hs) ?_
          refine xe_iload dX4_sumFines_43 rfl ?_
          refine xe_iconst dX4_sumFines_45 kc_1 ?_
          refine xe_iload_n dX4_sumFines_46 rfl ?_
          refine xe_ishl dX4_sumFines_47 ?_
          refine xe_ior dX4_sumFines_48 ?_
          refine xe_top (v' := nI (s_ + 2 ^ d_)) (q_or (by omega) (by omega)) ?_
          refine xe_iload dX4_sumFines_49 rfl ?_
          refine xe_aload_n dX4_sumFines_51 rfl ?_
          refine xe_getP dX4_sumFines_52 flX4_15 (st98 hs) (by decide) rfl (sp98_1 hs) ?_
          refine xe_iload_n dX4_sumFines_55 rfl ?_
          refine xn_ialdv dX4_sumFines_56 (st100 hs) (by omega) (by decide) (v := nI hv) (hhv) ?_
          have hb1 := q_cm_hv fi hv d_ s_
          have hb2 := (hfi d_ hd_).2
          refine xe_min dX4_sumFines_57 mlX4_84 q_mmin (by decide) (Nat.le_of_ble_eq_true rfl) ?_
          refine xe_top (v' := nI (if hv < q_cm fi hv d_ s_ + fi d_ then hv else q_cm fi hv d_ s_ + fi d_)) (q_minN (by omega) (by omega)) ?_
          refine xn_iast dX4_sumFines_60 (st112 hs) (by omega) (by decide) ?_
          refine xn_iinc dX4_sumFines_61 rfl kc_1 ?_
          refine xe_goto (tgt := 10) dX4_sumFines_64 rfl ?_
          exact xe_fin (K3 (upd s3 (s_ + 2 ^ d_) (nI (if hv < q_cm fi hv d_ s_ + fi d_ then hv else q_cm fi hv d_ s_ + fi d_))) (⟨(pk_un (by omega)).trans e3.1, fun t q => (pk_un (by omega)).trans (e3.2.1 t q), fun t q => q_updw (fun e => by obtain rfl : t = s_ := (by omega); rw [q_cm_hi (by omega)]) (fun e => e3.2.2 t (by omega))⟩)) (And.intro rfl (And.intro rfl (And.intro rfl (And.intro rfl (And.intro rfl trivial))))) (q_heq [112] (H := h) (by repeat (first | exact q_out_r | refine q_out_w rfl ?_)) (by repeat (first | exact q_out_r | refine q_out_w rfl ?_)) (And.intro rfl trivial))
      · refine xe_iload dX4_sumFines_10 rfl ?_
        refine xe_iconst dX4_sumFines_12 kc_1 ?_
        refine xe_iload_n dX4_sumFines_13 rfl ?_
        refine xe_ishl dX4_sumFines_14 ?_
        refine xe_top (v' := nI (2 ^ d_)) (q_pow_nm d_ (by omega)) ?_
        refine xn_icmp_ge (tgt := 67) dX4_sumFines_15 rfl (by omega) (by omega) (fun c5 => ?_) (fun c5 => ?_)
        · refine xn_iinc dX4_sumFines_67 rfl kc_1 ?_
          refine xe_goto (tgt := 2) dX4_sumFines_70 rfl ?_
          exact xe_fin (K1 s3 (⟨e3.1, fun t ht => by rw [Nat.pow_succ] at ht; exact if q : t < 2 ^ d_ then (e3.2.1 t q).trans (by rw [q_cm_lo q]) else by have q2 := e3.2.2 (t - 2 ^ d_) (by omega); rwa [Nat.sub_add_cancel (by omega)] at q2⟩)) (And.intro rfl (And.intro rfl (And.intro rfl (And.intro rfl trivial)))) (q_heq [112] (H := h) (by repeat (first | exact q_out_r | refine q_out_w rfl ?_)) (by repeat (first | exact q_out_r | refine q_out_w rfl ?_)) (And.intro rfl trivial))
        · omega
  · refine xe_iload_n dX4_sumFines_2 rfl ?_
    refine xe_iload_n dX4_sumFines_3 rfl ?_
    refine xn_icmp_ge (tgt := 73) dX4_sumFines_4 rfl (by omega) (by omega) (fun c6 => ?_) (fun c6 => ?_)
    · refine xe_return dX4_sumFines_73 rfl ?_
      exact ⟨rfl, _, rfl, e1⟩
    · omega
theorem c_X4_sumGuilt10 (l : Launch) (g : q_GP) (h : q_H) (hs : q_Stat h) {gu : Nat → Nat} {nd : Nat} (hnd : nd ≤ 8) (hd : q_I h 10 4 = nI nd) (hgu : ∀ d, d < nd → q_I h 14 d = nI (gu d)) (hz : q_I h 111 0 = nI 0) : q_Ct l g 0 mX4_sumGuilt [.ref 98, .ref 10] h (fun r h1 => r = none ∧ ∃ C, h1 = q_wI h 111 C ∧ C 0 = nI 0 ∧ ∀ s, s < 2 ^ nd → C s = nI (q_sb gu s nd)) := by
  refine q_CtV mvX4_sumGuilt (Nat.le_of_ble_eq_true rfl) ?_
  refine xe_iconst dX4_sumGuilt_0 kc_0 ?_
  refine xe_istore_n (i := 2) dX4_sumGuilt_1 rfl (by decide) rfl ?_
  refine xe_fin (L' := (fun (d_ : Nat) (s1 : (Nat → Int32)) => [(0, .ref 98), (1, .ref 10), (2, .int (nI d_))]) 0 (q_I h 111)) (h' := (fun (d_ : Nat) (s1 : (Nat → Int32)) => (q_wI h 111 s1)) 0 (q_I h 111)) ?_ (And.intro rfl (And.intro rfl (And.intro rfl trivial))) (q_heq [111] (H := h) (by repeat (first | exact q_out_r | refine q_out_w rfl ?_)) (by repeat (first | exact q_out_r | refine q_out_w rfl ?_)) (And.intro rfl trivial))
  refine xe_loopI (σ := (Nat → Int32)) (nd) (fun d C => C 0 = nI 0 ∧ ∀ s, s < 2 ^ d → C s = nI (q_sb gu s d)) (fun (d_ : Nat) (s1 : (Nat → Int32)) => [(0, .ref 98), (1, .ref 10), (2, .int (nI d_))]) (fun (d_ : Nat) (s1 : (Nat → Int32)) => (q_wI h 111 s1)) (q_I h 111) (⟨hz, fun s hs9 => by obtain rfl : s = 0 := (by have q : s < 1 := hs9; omega); exact hz⟩) (fun d_ hd_ s1 e1 K1 => ?_) (fun s1 e1 => ?_)
  · have hp2 := q_pow_two (m := d_) (by omega)
    have hp3 : 0 < 2 ^ d_ := Nat.pow_pos (by decide)
    refine xe_iload_n dX4_sumGuilt_2 rfl ?_
    refine xe_aload_n dX4_sumGuilt_3 rfl ?_
    refine xe_getIv dX4_sumGuilt_4 flX4_49 (st10 hs) (by decide) rfl (v := nI nd) (hd) ?_
    refine xn_icmp_ge (tgt := 54) dX4_sumGuilt_7 rfl (by omega) (by omega) (fun c2 => ?_) (fun c2 => ?_)
    · omega
    · refine xe_iconst dX4_sumGuilt_10 kc_0 ?_
      refine xe_istore_n (i := 3) dX4_sumGuilt_11 rfl (by decide) rfl ?_
      refine xe_fin (L' := (fun (s_ : Nat) (s3 : (Nat → Int32)) => [(0, .ref 98), (1, .ref 10), (2, .int (nI d_)), (3, .int (nI s_))]) 0 s1) (h' := (fun (s_ : Nat) (s3 : (Nat → Int32)) => (q_wI h 111 s3)) 0 s1) ?_ (And.intro rfl (And.intro rfl (And.intro rfl (And.intro rfl trivial)))) (q_heq [111] (H := h) (by repeat (first | exact q_out_r | refine q_out_w rfl ?_)) (by repeat (first | exact q_out_r | refine q_out_w rfl ?_)) (And.intro rfl trivial))
      refine xe_loopI (σ := (Nat → Int32)) (2 ^ d_) (fun j C => C 0 = nI 0 ∧ (∀ s, s < 2 ^ d_ → C s = nI (q_sb gu s d_)) ∧ ∀ s, s < j → C (s + 2 ^ d_) = nI (q_sb gu (s + 2 ^ d_) (d_ + 1))) (fun (s_ : Nat) (s3 : (Nat → Int32)) => [(0, .ref 98), (1, .ref 10), (2, .int (nI d_)), (3, .int (nI s_))]) (fun (s_ : Nat) (s3 : (Nat → Int32)) => (q_wI h 111 s3)) s1 (⟨e1.1, e1.2, fun _ q => absurd q (Nat.not_lt_zero _)⟩) (fun s_ hs_ s3 e3 K3 => ?_) (fun s3 e3 => ?_)
      · refine xe_iload_n dX4_sumGuilt_12 rfl ?_
        refine xe_iconst dX4_sumGuilt_13 kc_1 ?_
        refine xe_iload_n dX4_sumGuilt_14 rfl ?_
        refine xe_ishl dX4_sumGuilt_15 ?_
        refine xe_top (v' := nI (2 ^ d_)) (q_pow_nm d_ (by omega)) ?_
        refine xn_icmp_ge (tgt := 48) dX4_sumGuilt_16 rfl (by omega) (by omega) (fun c4 => ?_) (fun c4 => ?_)
        · omega
        · refine xe_aload_n dX4_sumGuilt_19 rfl ?_
          refine xe_getP dX4_sumGuilt_20 flX4_23 (st98 hs) (by decide) rfl (sp98_3 hs) ?_
          refine xe_iload_n dX4_sumGuilt_23 rfl ?_
          refine xe_iconst dX4_sumGuilt_24 kc_1 ?_
          refine xe_iload_n dX4_sumGuilt_25 rfl ?_
          refine xe_ishl dX4_sumGuilt_26 ?_
          refine xe_ior dX4_sumGuilt_27 ?_
          refine xe_top (v' := nI (s_ + 2 ^ d_)) (q_or (by omega) (by omega)) ?_
          refine xe_aload_n dX4_sumGuilt_28 rfl ?_
          refine xe_getP dX4_sumGuilt_29 flX4_23 (st98 hs) (by decide) rfl (sp98_3 hs) ?_
          refine xe_iload_n dX4_sumGuilt_32 rfl ?_
          refine xn_ialdv dX4_sumGuilt_33 (st111 hs) (by omega) (by decide) (v := nI (q_sb gu s_ d_)) (e3.2.1 s_ hs_) ?_
          refine xe_aload_n dX4_sumGuilt_34 rfl ?_
          refine xe_getP dX4_sumGuilt_35 flX4_82 (st10 hs) (by decide) rfl (sp10_8 hs) ?_
          refine xe_iload_n dX4_sumGuilt_38 rfl ?_
          refine xn_ialdv dX4_sumGuilt_39 (st14 hs) (by omega) (by decide) (v := nI (gu d_)) (hgu d_ hd_) ?_
          refine xn_iadd dX4_sumGuilt_40 ?_
          refine xn_iast dX4_sumGuilt_41 (st111 hs) (by omega) (by decide) ?_
          refine xn_iinc dX4_sumGuilt_42 rfl kc_1 ?_
          refine xe_goto (tgt := 12) dX4_sumGuilt_45 rfl ?_
          exact xe_fin (K3 (upd s3 (s_ + 2 ^ d_) (nI ((q_sb gu s_ d_) + (gu d_)))) (⟨(pk_un (by omega)).trans e3.1, fun t q => (pk_un (by omega)).trans (e3.2.1 t q), fun t q => q_updw (fun e => by obtain rfl : t = s_ := (by omega); rw [q_sb_hi (by omega)]) (fun e => e3.2.2 t (by omega))⟩)) (And.intro rfl (And.intro rfl (And.intro rfl (And.intro rfl trivial)))) (q_heq [111] (H := h) (by repeat (first | exact q_out_r | refine q_out_w rfl ?_)) (by repeat (first | exact q_out_r | refine q_out_w rfl ?_)) (And.intro rfl trivial))
      · refine xe_iload_n dX4_sumGuilt_12 rfl ?_
        refine xe_iconst dX4_sumGuilt_13 kc_1 ?_
        refine xe_iload_n dX4_sumGuilt_14 rfl ?_
        refine xe_ishl dX4_sumGuilt_15 ?_
        refine xe_top (v' := nI (2 ^ d_)) (q_pow_nm d_ (by omega)) ?_
        refine xn_icmp_ge (tgt := 48) dX4_sumGuilt_16 rfl (by omega) (by omega) (fun c5 => ?_) (fun c5 => ?_)
        · refine xn_iinc dX4_sumGuilt_48 rfl kc_1 ?_
          refine xe_goto (tgt := 2) dX4_sumGuilt_51 rfl ?_
          exact xe_fin (K1 s3 (⟨e3.1, fun t ht => by rw [Nat.pow_succ] at ht; exact if q : t < 2 ^ d_ then (e3.2.1 t q).trans (by rw [q_sb_lo q]) else by have q2 := e3.2.2 (t - 2 ^ d_) (by omega); rwa [Nat.sub_add_cancel (by omega)] at q2⟩)) (And.intro rfl (And.intro rfl (And.intro rfl trivial))) (q_heq [111] (H := h) (by repeat (first | exact q_out_r | refine q_out_w rfl ?_)) (by repeat (first | exact q_out_r | refine q_out_w rfl ?_)) (And.intro rfl trivial))
        · omega
  · refine xe_iload_n dX4_sumGuilt_2 rfl ?_
    refine xe_aload_n dX4_sumGuilt_3 rfl ?_
    refine xe_getIv dX4_sumGuilt_4 flX4_49 (st10 hs) (by decide) rfl (v := nI nd) (hd) ?_
    refine xn_icmp_ge (tgt := 54) dX4_sumGuilt_7 rfl (by omega) (by omega) (fun c6 => ?_) (fun c6 => ?_)
    · refine xe_return dX4_sumGuilt_54 rfl ?_
      exact ⟨rfl, _, rfl, e1⟩
    · omega
theorem c_X4_sumGuilt22 (l : Launch) (g : q_GP) (h : q_H) (hs : q_Stat h) {gu : Nat → Nat} {nd : Nat} (hnd : nd ≤ 8) (hd : q_I h 22 4 = nI nd) (hgu : ∀ d, d < nd → q_I h 26 d = nI (gu d)) (hz : q_I h 111 0 = nI 0) : q_Ct l g 0 mX4_sumGuilt [.ref 98, .ref 22] h (fun r h1 => r = none ∧ ∃ C, h1 = q_wI h 111 C ∧ C 0 = nI 0 ∧ ∀ s, s < 2 ^ nd → C s = nI (q_sb gu s nd)) := by
  refine q_CtV mvX4_sumGuilt (Nat.le_of_ble_eq_true rfl) ?_
  refine xe_iconst dX4_sumGuilt_0 kc_0 ?_
  refine xe_istore_n (i := 2) dX4_sumGuilt_1 rfl (by decide) rfl ?_
  refine xe_fin (L' := (fun (d_ : Nat) (s1 : (Nat → Int32)) => [(0, .ref 98), (1, .ref 22), (2, .int (nI d_))]) 0 (q_I h 111)) (h' := (fun (d_ : Nat) (s1 : (Nat → Int32)) => (q_wI h 111 s1)) 0 (q_I h 111)) ?_ (And.intro rfl (And.intro rfl (And.intro rfl trivial))) (q_heq [111] (H := h) (by repeat (first | exact q_out_r | refine q_out_w rfl ?_)) (by repeat (first | exact q_out_r | refine q_out_w rfl ?_)) (And.intro rfl trivial))
  refine xe_loopI (σ := (Nat → Int32)) (nd) (fun d C => C 0 = nI 0 ∧ ∀ s, s < 2 ^ d → C s = nI (q_sb gu s d)) (fun (d_ : Nat) (s1 : (Nat → Int32)) => [(0, .ref 98), (1, .ref 22), (2, .int (nI d_))]) (fun (d_ : Nat) (s1 : (Nat → Int32)) => (q_wI h 111 s1)) (q_I h 111) (⟨hz, fun s hs9 => by obtain rfl : s = 0 := (by have q : s < 1 := hs9; omega); exact hz⟩) (fun d_ hd_ s1 e1 K1 => ?_) (fun s1 e1 => ?_)
  · have hp2 := q_pow_two (m := d_) (by omega)
    have hp3 : 0 < 2 ^ d_ := Nat.pow_pos (by decide)
    refine xe_iload_n dX4_sumGuilt_2 rfl ?_
    refine xe_aload_n dX4_sumGuilt_3 rfl ?_
    refine xe_getIv dX4_sumGuilt_4 flX4_49 (st22 hs) (by decide) rfl (v := nI nd) (hd) ?_
    refine xn_icmp_ge (tgt := 54) dX4_sumGuilt_7 rfl (by omega) (by omega) (fun c2 => ?_) (fun c2 => ?_)
    · omega
    · refine xe_iconst dX4_sumGuilt_10 kc_0 ?_
      refine xe_istore_n (i := 3) dX4_sumGuilt_11 rfl (by decide) rfl ?_
      refine xe_fin (L' := (fun (s_ : Nat) (s3 : (Nat → Int32)) => [(0, .ref 98), (1, .ref 22), (2, .int (nI d_)), (3, .int (nI s_))]) 0 s1) (h' := (fun (s_ : Nat) (s3 : (Nat → Int32)) => (q_wI h 111 s3)) 0 s1) ?_ (And.intro rfl (And.intro rfl (And.intro rfl (And.intro rfl trivial)))) (q_heq [111] (H := h) (by repeat (first | exact q_out_r | refine q_out_w rfl ?_)) (by repeat (first | exact q_out_r | refine q_out_w rfl ?_)) (And.intro rfl trivial))
      refine xe_loopI (σ := (Nat → Int32)) (2 ^ d_) (fun j C => C 0 = nI 0 ∧ (∀ s, s < 2 ^ d_ → C s = nI (q_sb gu s d_)) ∧ ∀ s, s < j → C (s + 2 ^ d_) = nI (q_sb gu (s + 2 ^ d_) (d_ + 1))) (fun (s_ : Nat) (s3 : (Nat → Int32)) => [(0, .ref 98), (1, .ref 22), (2, .int (nI d_)), (3, .int (nI s_))]) (fun (s_ : Nat) (s3 : (Nat → Int32)) => (q_wI h 111 s3)) s1 (⟨e1.1, e1.2, fun _ q => absurd q (Nat.not_lt_zero _)⟩) (fun s_ hs_ s3 e3 K3 => ?_) (fun s3 e3 => ?_)
      · refine xe_iload_n dX4_sumGuilt_12 rfl ?_
        refine xe_iconst dX4_sumGuilt_13 kc_1 ?_
        refine xe_iload_n dX4_sumGuilt_14 rfl ?_
        refine xe_ishl dX4_sumGuilt_15 ?_
        refine xe_top (v' := nI (2 ^ d_)) (q_pow_nm d_ (by omega)) ?_
        refine xn_icmp_ge (tgt := 48) dX4_sumGuilt_16 rfl (by omega) (by omega) (fun c4 => ?_) (fun c4 => ?_)
        · omega
        · refine xe_aload_n dX4_sumGuilt_19 rfl ?_
          refine xe_getP dX4_sumGuilt_20 flX4_23 (st98 hs) (by decide) rfl (sp98_3 hs) ?_
          refine xe_iload_n dX4_sumGuilt_23 rfl ?_
          refine xe_iconst dX4_sumGuilt_24 kc_1 ?_
          refine xe_iload_n dX4_sumGuilt_25 rfl ?_
          refine xe_ishl dX4_sumGuilt_26 ?_
          refine xe_ior dX4_sumGuilt_27 ?_
          refine xe_top (v' := nI (s_ + 2 ^ d_)) (q_or (by omega) (by omega)) ?_
          refine xe_aload_n dX4_sumGuilt_28 rfl ?_
          refine xe_getP dX4_sumGuilt_29 flX4_23 (st98 hs) (by decide) rfl (sp98_3 hs) ?_
          refine xe_iload_n dX4_sumGuilt_32 rfl ?_
          refine xn_ialdv dX4_sumGuilt_33 (st111 hs) (by omega) (by decide) (v := nI (q_sb gu s_ d_)) (e3.2.1 s_ hs_) ?_
          refine xe_aload_n dX4_sumGuilt_34 rfl ?_
          refine xe_getP dX4_sumGuilt_35 flX4_82 (st22 hs) (by decide) rfl (sp22_8 hs) ?_
          refine xe_iload_n dX4_sumGuilt_38 rfl ?_
          refine xn_ialdv dX4_sumGuilt_39 (st26 hs) (by omega) (by decide) (v := nI (gu d_)) (hgu d_ hd_) ?_
          refine xn_iadd dX4_sumGuilt_40 ?_
          refine xn_iast dX4_sumGuilt_41 (st111 hs) (by omega) (by decide) ?_
          refine xn_iinc dX4_sumGuilt_42 rfl kc_1 ?_
          refine xe_goto (tgt := 12) dX4_sumGuilt_45 rfl ?_
          exact xe_fin (K3 (upd s3 (s_ + 2 ^ d_) (nI ((q_sb gu s_ d_) + (gu d_)))) (⟨(pk_un (by omega)).trans e3.1, fun t q => (pk_un (by omega)).trans (e3.2.1 t q), fun t q => q_updw (fun e => by obtain rfl : t = s_ := (by omega); rw [q_sb_hi (by omega)]) (fun e => e3.2.2 t (by omega))⟩)) (And.intro rfl (And.intro rfl (And.intro rfl (And.intro rfl trivial)))) (q_heq [111] (H := h) (by repeat (first | exact q_out_r | refine q_out_w rfl ?_)) (by repeat (first | exact q_out_r | refine q_out_w rfl ?_)) (And.intro rfl trivial))
      · refine xe_iload_n dX4_sumGuilt_12 rfl ?_
        refine xe_iconst dX4_sumGuilt_13 kc_1 ?_
        refine xe_iload_n dX4_sumGuilt_14 rfl ?_
        refine xe_ishl dX4_sumGuilt_15 ?_
        refine xe_top (v' := nI (2 ^ d_)) (q_pow_nm d_ (by omega)) ?_
        refine xn_icmp_ge (tgt := 48) dX4_sumGuilt_16 rfl (by omega) (by omega) (fun c5 => ?_) (fun c5 => ?_)
        · refine xn_iinc dX4_sumGuilt_48 rfl kc_1 ?_
          refine xe_goto (tgt := 2) dX4_sumGuilt_51 rfl ?_
          exact xe_fin (K1 s3 (⟨e3.1, fun t ht => by rw [Nat.pow_succ] at ht; exact if q : t < 2 ^ d_ then (e3.2.1 t q).trans (by rw [q_sb_lo q]) else by have q2 := e3.2.2 (t - 2 ^ d_) (by omega); rwa [Nat.sub_add_cancel (by omega)] at q2⟩)) (And.intro rfl (And.intro rfl (And.intro rfl trivial))) (q_heq [111] (H := h) (by repeat (first | exact q_out_r | refine q_out_w rfl ?_)) (by repeat (first | exact q_out_r | refine q_out_w rfl ?_)) (And.intro rfl trivial))
        · omega
  · refine xe_iload_n dX4_sumGuilt_2 rfl ?_
    refine xe_aload_n dX4_sumGuilt_3 rfl ?_
    refine xe_getIv dX4_sumGuilt_4 flX4_49 (st22 hs) (by decide) rfl (v := nI nd) (hd) ?_
    refine xn_icmp_ge (tgt := 54) dX4_sumGuilt_7 rfl (by omega) (by omega) (fun c6 => ?_) (fun c6 => ?_)
    · refine xe_return dX4_sumGuilt_54 rfl ?_
      exact ⟨rfl, _, rfl, e1⟩
    · omega
theorem c_X4_leastGuilt (l : Launch) (g : q_GP) (h : q_H) (hs : q_Stat h) {m k M : Nat} (hm : m < 8) (hk : k ≤ 400) (hM : M ≤ 401) {ob oc lgf : Nat → Nat} (ho : ∀ i, i < M → q_I h 113 i = nI (oc i) ∧ oc i ≤ 400 ∧ q_I h 114 i = nI (ob i) ∧ ob i ≤ 1000000) (hL : ∀ j, j ≤ k → q_I h (102 + (m + 1)) j = nI (lgf j) ∧ lgf j ≤ 1000000) : q_Cd l g 1 mX4_leastGuilt [.ref 98, .int (nI m), .int (nI k), .int (nI M)] h (some (.int (nI (q_mn (fun i => ob i + lgf (k - oc i)) M)))) h := by
  refine q_CdV mvX4_leastGuilt (Nat.le_of_ble_eq_true rfl) ?_
  refine xe_ldc dX4_leastGuilt_0 coX4_48 ?_
  refine xe_top (v' := nI 1000000) (by decide +kernel) ?_
  refine xe_istore dX4_leastGuilt_2 (by decide) rfl ?_
  refine xe_iconst dX4_leastGuilt_4 kc_0 ?_
  refine xe_istore dX4_leastGuilt_5 (by decide) rfl ?_
  refine xe_fin (L' := (fun (i_ : Nat) (s1 : Nat) => [(0, .ref 98), (1, .int (nI m)), (2, .int (nI k)), (3, .int (nI M)), (4, .int (nI s1)), (5, .int (nI i_))]) 0 1000000) (h' := (fun (_ : Nat) (_ : Nat) => h) 0 1000000) ?_ (And.intro rfl (And.intro rfl (And.intro rfl (And.intro rfl (And.intro rfl (And.intro rfl trivial)))))) rfl
  refine xe_loopI (σ := Nat) (M) (fun i s => s = q_mn (fun i => ob i + lgf (k - oc i)) i) (fun (i_ : Nat) (s1 : Nat) => [(0, .ref 98), (1, .int (nI m)), (2, .int (nI k)), (3, .int (nI M)), (4, .int (nI s1)), (5, .int (nI i_))]) (fun (_ : Nat) (_ : Nat) => h) 1000000 (rfl) (fun i_ hi_ s1 e1 K1 => ?_) (fun s1 e1 => ?_)
  · obtain ⟨o1, o2, o3, o4⟩ := ho i_ hi_
    have ol := (hL (k - oc i_) (by omega)).2
    have om := q_mn_le (fun i => ob i + lgf (k - oc i)) i_
    rw [← e1] at om
    refine xe_iload dX4_leastGuilt_7 rfl ?_
    refine xe_iload_n dX4_leastGuilt_9 rfl ?_
    refine xn_icmp_ge (tgt := 60) dX4_leastGuilt_10 rfl (by omega) (by omega) (fun c2 => ?_) (fun c2 => ?_)
    · omega
    · refine xe_iconst dX4_leastGuilt_13 kc_0 ?_
      refine xe_iload_n dX4_leastGuilt_14 rfl ?_
      refine xe_aload_n dX4_leastGuilt_15 rfl ?_
      refine xe_getP dX4_leastGuilt_16 flX4_29 (st98 hs) (by decide) rfl (sp98_5 hs) ?_
      refine xe_iload dX4_leastGuilt_19 rfl ?_
      refine xn_ialdv dX4_leastGuilt_21 (st113 hs) (by omega) (by decide) (v := nI (oc i_)) (o1) ?_
      refine xe_isub dX4_leastGuilt_22 ?_
      refine xe_max dX4_leastGuilt_23 mlX4_77 q_mmax (by decide) (Nat.le_of_ble_eq_true rfl) ?_
      refine xe_top (v' := nI (k - oc i_)) (q_max0 (by omega) (by omega)) ?_
      refine xe_istore dX4_leastGuilt_26 (by decide) rfl ?_
      refine xe_iload dX4_leastGuilt_28 rfl ?_
      refine xe_aload_n dX4_leastGuilt_30 rfl ?_
      refine xe_getP dX4_leastGuilt_31 flX4_32 (st98 hs) (by decide) rfl (sp98_6 hs) ?_
      refine xe_iload dX4_leastGuilt_34 rfl ?_
      refine xn_ialdv dX4_leastGuilt_36 (st114 hs) (by omega) (by decide) (v := nI (ob i_)) (o3) ?_
      refine xe_aload_n dX4_leastGuilt_37 rfl ?_
      refine xe_getP dX4_leastGuilt_38 flX4_20 (st98 hs) (by decide) rfl (sp98_2 hs) ?_
      refine xe_iload_n dX4_leastGuilt_41 rfl ?_
      refine xe_iconst dX4_leastGuilt_42 kc_1 ?_
      refine xn_iadd dX4_leastGuilt_43 ?_
      refine xe_aaldI dX4_leastGuilt_44 (st101 hs) (vp_in_nI (by omega) (by decide)) (spL hs (j := m + 1) (by omega)) ?_
      refine xe_iload dX4_leastGuilt_45 rfl ?_
      refine xn_ialdv dX4_leastGuilt_47 (stL hs (by omega)) (by omega) (by decide) (v := nI (lgf (k - oc i_))) ((hL _ (by omega)).1) ?_
      refine xn_iadd dX4_leastGuilt_48 ?_
      refine xe_min dX4_leastGuilt_49 mlX4_84 q_mmin (by decide) (Nat.le_of_ble_eq_true rfl) ?_
      refine xe_top (v' := nI (if ob i_ + lgf (k - oc i_) < s1 then ob i_ + lgf (k - oc i_) else s1)) (q_minN (by omega) (by omega)) ?_
      refine xe_istore dX4_leastGuilt_52 (by decide) rfl ?_
      refine xn_iinc dX4_leastGuilt_54 rfl kc_1 ?_
      refine xe_goto (tgt := 7) dX4_leastGuilt_57 rfl ?_
      exact xe_fin (K1 (if ob i_ + lgf (k - oc i_) < s1 then ob i_ + lgf (k - oc i_) else s1) (by rw [e1]; rfl)) (And.intro rfl (And.intro rfl (And.intro rfl (And.intro rfl (And.intro rfl (And.intro rfl trivial)))))) rfl
  · refine xe_iload dX4_leastGuilt_7 rfl ?_
    refine xe_iload_n dX4_leastGuilt_9 rfl ?_
    refine xn_icmp_ge (tgt := 60) dX4_leastGuilt_10 rfl (by omega) (by omega) (fun c3 => ?_) (fun c3 => ?_)
    · refine xe_iload dX4_leastGuilt_60 rfl ?_
      refine xe_ireturn dX4_leastGuilt_62 rfl (by first | rfl | decide +kernel) ?_
      exact ⟨congrArg (fun v => some (Value.int (nI v))) e1, rfl⟩
    · omega
theorem c_X4_firstOfLeast (l : Launch) (g : q_GP) (h : q_H) (hs : q_Stat h) {m k K lgm : Nat} (hm : m < 8) (hk : k ≤ 400) (hK : K ≤ 256) {gs cm lgf : Nat → Nat} (ho : ∀ s, s < K → q_I h 111 s = nI (gs s) ∧ gs s ≤ 1000000 ∧ q_I h 112 s = nI (cm s) ∧ cm s < 2 ^ 30) (hL : ∀ j, j ≤ k → q_I h (102 + (m + 1)) j = nI (lgf j) ∧ lgf j ≤ 1000000) (hLm : q_I h (102 + m) k = nI lgm) (hLm2 : lgm ≤ 1000000) (hex : q_fst (fun s => decide (gs s + lgf (k - cm s) = lgm)) K < K) : q_Cd l g 1 mX4_firstOfLeast [.ref 98, .int (nI m), .int (nI k), .int (nI K)] h (some (.int (nI (q_fst (fun s => decide (gs s + lgf (k - cm s) = lgm)) K)))) h := by
  refine q_CdV mvX4_firstOfLeast (Nat.le_of_ble_eq_true rfl) ?_
  refine xe_iconst dX4_firstOfLeast_0 kc_0 ?_
  refine xe_istore dX4_firstOfLeast_1 (by decide) rfl ?_
  refine xe_fin (L' := (fun (s_ : Nat) (s1 : Unit) => [(0, .ref 98), (1, .int (nI m)), (2, .int (nI k)), (3, .int (nI K)), (4, .int (nI s_))]) 0 ()) (h' := (fun (_ : Nat) (_ : Unit) => h) 0 ()) ?_ (And.intro rfl (And.intro rfl (And.intro rfl (And.intro rfl (And.intro rfl trivial))))) rfl
  refine xe_loopW (σ := Unit) (q_fst (fun s => decide (gs s + lgf (k - cm s) = lgm)) K) (fun _ _ => True) (fun (s_ : Nat) (s1 : Unit) => [(0, .ref 98), (1, .int (nI m)), (2, .int (nI k)), (3, .int (nI K)), (4, .int (nI s_))]) (fun (_ : Nat) (_ : Unit) => h) () (trivial) (fun s_ hs_ s1 e1 K1 => ?_)
  · obtain ⟨o1, o2, o3, o4⟩ := ho s_ (by omega)
    have ol := (hL (k - cm s_) (by omega)).2
    refine xe_iload dX4_firstOfLeast_3 rfl ?_
    refine xe_iload_n dX4_firstOfLeast_5 rfl ?_
    refine xn_icmp_ge (tgt := 63) dX4_firstOfLeast_6 rfl (by omega) (by omega) (fun c2 => ?_) (fun c2 => ?_)
    · omega
    · refine xe_iconst dX4_firstOfLeast_9 kc_0 ?_
      refine xe_iload_n dX4_firstOfLeast_10 rfl ?_
      refine xe_aload_n dX4_firstOfLeast_11 rfl ?_
      refine xe_getP dX4_firstOfLeast_12 flX4_26 (st98 hs) (by decide) rfl (sp98_4 hs) ?_
      refine xe_iload dX4_firstOfLeast_15 rfl ?_
      refine xn_ialdv dX4_firstOfLeast_17 (st112 hs) (by omega) (by decide) (v := nI (cm s_)) (o3) ?_
      refine xe_isub dX4_firstOfLeast_18 ?_
      refine xe_max dX4_firstOfLeast_19 mlX4_77 q_mmax (by decide) (Nat.le_of_ble_eq_true rfl) ?_
      refine xe_top (v' := nI (k - cm s_)) (q_max0 (by omega) (by omega)) ?_
      refine xe_istore dX4_firstOfLeast_22 (by decide) rfl ?_
      refine xe_aload_n dX4_firstOfLeast_24 rfl ?_
      refine xe_getP dX4_firstOfLeast_25 flX4_23 (st98 hs) (by decide) rfl (sp98_3 hs) ?_
      refine xe_iload dX4_firstOfLeast_28 rfl ?_
      refine xn_ialdv dX4_firstOfLeast_30 (st111 hs) (by omega) (by decide) (v := nI (gs s_)) (o1) ?_
      refine xe_aload_n dX4_firstOfLeast_31 rfl ?_
      refine xe_getP dX4_firstOfLeast_32 flX4_20 (st98 hs) (by decide) rfl (sp98_2 hs) ?_
      refine xe_iload_n dX4_firstOfLeast_35 rfl ?_
      refine xe_iconst dX4_firstOfLeast_36 kc_1 ?_
      refine xn_iadd dX4_firstOfLeast_37 ?_
      refine xe_aaldI dX4_firstOfLeast_38 (st101 hs) (vp_in_nI (by omega) (by decide)) (spL hs (j := m + 1) (by omega)) ?_
      refine xe_iload dX4_firstOfLeast_39 rfl ?_
      refine xn_ialdv dX4_firstOfLeast_41 (stL hs (by omega)) (by omega) (by decide) (v := nI (lgf (k - cm s_))) ((hL _ (by omega)).1) ?_
      refine xn_iadd dX4_firstOfLeast_42 ?_
      refine xe_aload_n dX4_firstOfLeast_43 rfl ?_
      refine xe_getP dX4_firstOfLeast_44 flX4_20 (st98 hs) (by decide) rfl (sp98_2 hs) ?_
      refine xe_iload_n dX4_firstOfLeast_47 rfl ?_
      refine xe_aaldI dX4_firstOfLeast_48 (st101 hs) (vp_in_nI (by omega) (by decide)) (spL hs (j := m) (by omega)) ?_
      refine xe_iload_n dX4_firstOfLeast_49 rfl ?_
      refine xn_ialdv dX4_firstOfLeast_50 (stL hs (by omega)) (by omega) (by decide) (v := nI lgm) (hLm) ?_
      refine xn_icmp_ne (tgt := 57) dX4_firstOfLeast_51 rfl (by omega) (by omega) (fun c3 => ?_) (fun c3 => ?_)
      · have hlt : s_ < q_fst (fun s => decide (gs s + lgf (k - cm s) = lgm)) K := by
          rcases Nat.lt_or_ge s_ (q_fst (fun s => decide (gs s + lgf (k - cm s) = lgm)) K) with q | q
          · exact q
          · obtain rfl : s_ = q_fst (fun s => decide (gs s + lgf (k - cm s) = lgm)) K := by omega
            exact absurd (of_decide_eq_true (q_fst_yes (fun s => decide (gs s + lgf (k - cm s) = lgm)) K hex)) c3
        refine xn_iinc dX4_firstOfLeast_57 rfl kc_1 ?_
        refine xe_goto (tgt := 3) dX4_firstOfLeast_60 rfl ?_
        exact xe_fin (K1 (hlt) () (trivial)) (And.intro rfl (And.intro rfl (And.intro rfl (And.intro rfl (And.intro rfl trivial))))) rfl
      · refine xe_iload dX4_firstOfLeast_54 rfl ?_
        refine xe_ireturn dX4_firstOfLeast_56 rfl (by first | rfl | decide +kernel) ?_
        have heq : s_ = q_fst (fun s => decide (gs s + lgf (k - cm s) = lgm)) K := by
          rcases Nat.lt_or_ge s_ (q_fst (fun s => decide (gs s + lgf (k - cm s) = lgm)) K) with q | q
          · exact absurd c3 (of_decide_eq_false (q_fst_no (fun s => decide (gs s + lgf (k - cm s) = lgm)) K s_ q))
          · omega
        exact ⟨congrArg (fun v => some (Value.int (nI v))) heq, rfl⟩
