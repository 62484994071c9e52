/-! the reference: its text is cut into tokens -/
/-- what the cut does -/
def rt_A (h h1 : q_H) (n : Nat) (B : Nat → Nat) : Prop := ∃ m, m ≤ 400 ∧ (m = 400 ∨ tz_k n B (tz_p n B m) = 0) ∧ (∀ j, j < m → ¬ tz_k n B (tz_p n B j) = 0) ∧ rt_S h h1 n B (m + 1)
theorem cut_n (l : Launch) (g : q_GP) (h : q_H) (hs : q_Stat h) {n : Nat} {B : Nat → Nat} (hB : rb_B h n B) {hh : q_H} {i : Nat} (hi : i ≤ 400) (hS : rt_S h hh n B i) {e : Nat} (hen : e ≤ n) (he : n ≤ e) (hp : tz_to tz_bl n B e = (tz_p n B i)) (hj : ∀ j, j < i → ¬ tz_k n B (tz_p n B j) = 0) : q_Ex l g 2 mX10_cut 7 [(0, .ref 124), (1, .int (nI e))] [] hh (fun r h1 => r = none ∧ rt_A h h1 n B) := by
  have hn := hB.2.1
  have hs2 : q_Stat hh := q_Stat_3 hS.1 hs
  have hB2 := rt_SB hS hB
  have h10 := hS.2.2.2.2.1
  have hpn : (tz_p n B i) = n := by
    rw [← hp, tz_to_n he]
    omega
  have hk : tz_k n B (tz_p n B i) = 0 := tz_k_n (by omega)
  refine xe_aload_n dX10_cut_7 rfl ?_
  refine xe_getIv dX10_cut_8 flX10_176 (st124 hs2) (by decide) rfl (v := nI i) (h10) ?_
  refine xe_sipush dX10_cut_11 ks_400 ?_
  refine xn_icmp_gt (tgt := 294) dX10_cut_14 rfl (by omega) (by omega) (fun c1 => ?_) (fun c1 => ?_)
  · omega
  · refine xe_aload_n dX10_cut_17 rfl ?_
    refine xe_iload_n dX10_cut_18 rfl ?_
    refine xe_callVI (d' := 0) (y' := mX10_byteAt) dX10_cut_19 mlX10_179 mvX10_byteAt rfl (st124 hs2) (by decide) rfl (by decide) (by decide) (Nat.le_of_ble_eq_true rfl) (c_X10_byteAt l g _ (by exact hs2) (n := n) (B := B) (by exact hB2) (by omega)) rfl ?_
    refine xe_istore_n (i := 2) dX10_cut_22 rfl (by decide) rfl ?_
    refine xe_iload_n dX10_cut_23 rfl ?_
    refine xe_aload_n dX10_cut_24 rfl ?_
    refine xe_getIv dX10_cut_25 flX10_167 (st124 hs2) (by decide) rfl (v := nI n) (hB2.1) ?_
    refine xn_icmp_lt (tgt := 43) dX10_cut_28 rfl (by omega) (by omega) (fun c2 => ?_) (fun c2 => ?_)
    · omega
    · refine xe_aload_n dX10_cut_31 rfl ?_
      refine xe_iconst dX10_cut_32 kc_0 ?_
      refine xe_aload_n dX10_cut_33 rfl ?_
      refine xe_getIv dX10_cut_34 flX10_167 (st124 hs2) (by decide) rfl (v := nI n) (hB2.1) ?_
      refine xe_iconst dX10_cut_37 kc_0 ?_
      refine xe_lconst dX10_cut_38 rfl ?_
      refine xe_callVV (d' := 0) (y' := mX10_token) dX10_cut_39 mlX10_183 mvX10_token rfl (st124 hs2) (by decide) rfl (by decide) (by decide) (Nat.le_of_ble_eq_true rfl) (c_X10_token l g _ (by exact hs2) (m := i) (by exact h10) (by omega) _ _ _ _) rfl ?_
      refine xe_return dX10_cut_42 rfl ?_
      exact ⟨rfl, i, hi, Or.inr hk, hj, rt_S_s hS (by rw [hk]) (by rw [hpn]) (fun q => absurd (hk.symm.trans q) (by decide)) (fun q => absurd (hk.symm.trans q) (by decide))⟩
theorem cut_b (l : Launch) (g : q_GP) (h : q_H) (hs : q_Stat h) {n : Nat} {B : Nat → Nat} (hB : rb_B h n B) {hh : q_H} {i : Nat} (hi : i ≤ 400) (hS : rt_S h hh n B i) {e : Nat} (hen : e ≤ n) (he : e < n) (hb : tz_bl (B e) = true) {Q : Option Value → q_H → Prop} (K : q_Ex l g 2 mX10_cut 7 [(0, .ref 124), (1, .int (nI (e + 1)))] [] hh Q) : q_Ex l g 2 mX10_cut 7 [(0, .ref 124), (1, .int (nI e))] [] hh Q := by
  have hn := hB.2.1
  have hs2 : q_Stat hh := q_Stat_3 hS.1 hs
  have hB2 := rt_SB hS hB
  have h10 := hS.2.2.2.2.1
  have hb2 := tz_bl_i.mp hb
  have hb3 := hB.2.2.2 e
  refine xe_aload_n dX10_cut_7 rfl ?_
  refine xe_getIv dX10_cut_8 flX10_176 (st124 hs2) (by decide) rfl (v := nI i) (h10) ?_
  refine xe_sipush dX10_cut_11 ks_400 ?_
  refine xn_icmp_gt (tgt := 294) dX10_cut_14 rfl (by omega) (by omega) (fun c1 => ?_) (fun c1 => ?_)
  · omega
  · refine xe_aload_n dX10_cut_17 rfl ?_
    refine xe_iload_n dX10_cut_18 rfl ?_
    refine xe_callVI (d' := 0) (y' := mX10_byteAt) dX10_cut_19 mlX10_179 mvX10_byteAt rfl (st124 hs2) (by decide) rfl (by decide) (by decide) (Nat.le_of_ble_eq_true rfl) (c_X10_byteAt l g _ (by exact hs2) (n := n) (B := B) (by exact hB2) (by omega)) rfl ?_
    refine xe_top (v' := nI (B e)) (congrArg nI (bz_t he)) ?_
    refine xe_istore_n (i := 2) dX10_cut_22 rfl (by decide) rfl ?_
    refine xe_iload_n dX10_cut_23 rfl ?_
    refine xe_aload_n dX10_cut_24 rfl ?_
    refine xe_getIv dX10_cut_25 flX10_167 (st124 hs2) (by decide) rfl (v := nI n) (hB2.1) ?_
    refine xn_icmp_lt (tgt := 43) dX10_cut_28 rfl (by omega) (by omega) (fun c2 => ?_) (fun c2 => ?_)
    · refine xe_iload_n dX10_cut_43 rfl ?_
      refine xe_bipush dX10_cut_44 kb_9 ?_
      refine xn_icmp_eq (tgt := 67) dX10_cut_46 rfl (by omega) (by omega) (fun c3 => ?_) (fun c3 => ?_)
      · refine xn_iinc dX10_cut_67 rfl kc_1 ?_
        refine xe_goto (tgt := 291) dX10_cut_70 rfl ?_
        refine xe_goto (tgt := 7) dX10_cut_291 rfl ?_
        exact xe_locals (L' := [(0, .ref 124), (1, .int (nI (e + 1)))]) ⟨rfl, rfl, trivial⟩ K
      · refine xe_iload_n dX10_cut_49 rfl ?_
        refine xe_bipush dX10_cut_50 kb_10 ?_
        refine xn_icmp_eq (tgt := 67) dX10_cut_52 rfl (by omega) (by omega) (fun c4 => ?_) (fun c4 => ?_)
        · refine xn_iinc dX10_cut_67 rfl kc_1 ?_
          refine xe_goto (tgt := 291) dX10_cut_70 rfl ?_
          refine xe_goto (tgt := 7) dX10_cut_291 rfl ?_
          exact xe_locals (L' := [(0, .ref 124), (1, .int (nI (e + 1)))]) ⟨rfl, rfl, trivial⟩ K
        · refine xe_iload_n dX10_cut_55 rfl ?_
          refine xe_bipush dX10_cut_56 kb_13 ?_
          refine xn_icmp_eq (tgt := 67) dX10_cut_58 rfl (by omega) (by omega) (fun c5 => ?_) (fun c5 => ?_)
          · refine xn_iinc dX10_cut_67 rfl kc_1 ?_
            refine xe_goto (tgt := 291) dX10_cut_70 rfl ?_
            refine xe_goto (tgt := 7) dX10_cut_291 rfl ?_
            exact xe_locals (L' := [(0, .ref 124), (1, .int (nI (e + 1)))]) ⟨rfl, rfl, trivial⟩ K
          · refine xe_iload_n dX10_cut_61 rfl ?_
            refine xe_bipush dX10_cut_62 kb_32 ?_
            refine xn_icmp_ne (tgt := 73) dX10_cut_64 rfl (by omega) (by omega) (fun c6 => ?_) (fun c6 => ?_)
            · omega
            · refine xn_iinc dX10_cut_67 rfl kc_1 ?_
              refine xe_goto (tgt := 291) dX10_cut_70 rfl ?_
              refine xe_goto (tgt := 7) dX10_cut_291 rfl ?_
              exact xe_locals (L' := [(0, .ref 124), (1, .int (nI (e + 1)))]) ⟨rfl, rfl, trivial⟩ K
    · omega
theorem cut_s (l : Launch) (g : q_GP) (h : q_H) (hs : q_Stat h) {n : Nat} {B : Nat → Nat} (hB : rb_B h n B) {hh : q_H} {i : Nat} (hi : i ≤ 400) (hS : rt_S h hh n B i) {e : Nat} (hen : e ≤ n) (he : e < n) (hb : ¬ tz_bl (B e) = true) (hp : tz_to tz_bl n B e = (tz_p n B i)) (hl : ¬ tz_le (B e) = true) (hd : ¬ tz_di (B e) = true) {Q : Option Value → q_H → Prop} (K : ∀ h2, rt_S h h2 n B (i + 1) → q_Ex l g 2 mX10_cut 7 [(0, .ref 124), (1, .int (nI (tz_e n B e)))] [] h2 Q) : q_Ex l g 2 mX10_cut 7 [(0, .ref 124), (1, .int (nI e))] [] hh Q := by
  have hn := hB.2.1
  have hs2 : q_Stat hh := q_Stat_3 hS.1 hs
  have hB2 := rt_SB hS hB
  have h10 := hS.2.2.2.2.1
  have hb2 : ¬ (B e = 32 ∨ B e = 9 ∨ B e = 10 ∨ B e = 13) := fun q => hb (tz_bl_i.mpr q)
  have hb3 := hB.2.2.2 e
  have hpe : (tz_p n B i) = e := by rw [← hp, tz_to_f hb]
  refine xe_aload_n dX10_cut_7 rfl ?_
  refine xe_getIv dX10_cut_8 flX10_176 (st124 hs2) (by decide) rfl (v := nI i) (h10) ?_
  refine xe_sipush dX10_cut_11 ks_400 ?_
  refine xn_icmp_gt (tgt := 294) dX10_cut_14 rfl (by omega) (by omega) (fun c1 => ?_) (fun c1 => ?_)
  · omega
  · refine xe_aload_n dX10_cut_17 rfl ?_
    refine xe_iload_n dX10_cut_18 rfl ?_
    refine xe_callVI (d' := 0) (y' := mX10_byteAt) dX10_cut_19 mlX10_179 mvX10_byteAt rfl (st124 hs2) (by decide) rfl (by decide) (by decide) (Nat.le_of_ble_eq_true rfl) (c_X10_byteAt l g _ (by exact hs2) (n := n) (B := B) (by exact hB2) (by omega)) rfl ?_
    refine xe_top (v' := nI (B e)) (congrArg nI (bz_t he)) ?_
    refine xe_istore_n (i := 2) dX10_cut_22 rfl (by decide) rfl ?_
    refine xe_iload_n dX10_cut_23 rfl ?_
    refine xe_aload_n dX10_cut_24 rfl ?_
    refine xe_getIv dX10_cut_25 flX10_167 (st124 hs2) (by decide) rfl (v := nI n) (hB2.1) ?_
    refine xn_icmp_lt (tgt := 43) dX10_cut_28 rfl (by omega) (by omega) (fun c2 => ?_) (fun c2 => ?_)
    · refine xe_iload_n dX10_cut_43 rfl ?_
      refine xe_bipush dX10_cut_44 kb_9 ?_
      refine xn_icmp_eq (tgt := 67) dX10_cut_46 rfl (by omega) (by omega) (fun c3 => ?_) (fun c3 => ?_)
      · omega
      · refine xe_iload_n dX10_cut_49 rfl ?_
        refine xe_bipush dX10_cut_50 kb_10 ?_
        refine xn_icmp_eq (tgt := 67) dX10_cut_52 rfl (by omega) (by omega) (fun c4 => ?_) (fun c4 => ?_)
        · omega
        · refine xe_iload_n dX10_cut_55 rfl ?_
          refine xe_bipush dX10_cut_56 kb_13 ?_
          refine xn_icmp_eq (tgt := 67) dX10_cut_58 rfl (by omega) (by omega) (fun c5 => ?_) (fun c5 => ?_)
          · omega
          · refine xe_iload_n dX10_cut_61 rfl ?_
            refine xe_bipush dX10_cut_62 kb_32 ?_
            refine xn_icmp_ne (tgt := 73) dX10_cut_64 rfl (by omega) (by omega) (fun c6 => ?_) (fun c6 => ?_)
            · refine xe_iload_n dX10_cut_73 rfl ?_
              refine xe_callSI (d' := 0) (y' := mX10_isLetter) dX10_cut_74 mlX10_187 msX10_isLetter rfl (by decide) (by decide) (Nat.le_of_ble_eq_true rfl) (c_X10_isLetter l g _ (hB.2.2.2 _)) rfl ?_
              refine xe_if_eq (tgt := 196) dX10_cut_77 rfl (fun c7 => ?_) (fun c7 => ?_)
              · refine xe_iload_n dX10_cut_196 rfl ?_
                refine xe_callSI (d' := 0) (y' := mX10_isDigit) dX10_cut_197 mlX10_191 msX10_isDigit rfl (by decide) (by decide) (Nat.le_of_ble_eq_true rfl) (c_X10_isDigit l g _ (hB.2.2.2 _)) rfl ?_
                refine xe_if_eq (tgt := 275) dX10_cut_200 rfl (fun c8 => ?_) (fun c8 => ?_)
                · refine xe_iload_n dX10_cut_275 rfl ?_
                  refine xe_aload_n dX10_cut_276 rfl ?_
                  refine xe_iload_n dX10_cut_277 rfl ?_
                  refine xe_iload_n dX10_cut_278 rfl ?_
                  refine xe_aload_n dX10_cut_279 rfl ?_
                  refine xe_iload_n dX10_cut_280 rfl ?_
                  refine xe_iconst dX10_cut_281 kc_1 ?_
                  refine xn_iadd dX10_cut_282 ?_
                  refine xe_callVI (d' := 0) (y' := mX10_byteAt) dX10_cut_283 mlX10_179 mvX10_byteAt rfl (st124 hs2) (by decide) rfl (by decide) (by decide) (Nat.le_of_ble_eq_true rfl) (c_X10_byteAt l g _ (by exact hs2) (n := n) (B := B) (by exact hB2) (by omega)) rfl ?_
                  refine xe_callVI (d' := 1) (y' := mX10_sign) dX10_cut_286 mlX10_194 mvX10_sign rfl (st124 hs2) (by decide) rfl (by decide) (by decide) (Nat.le_of_ble_eq_true rfl) (c_X10_sign l g _ (by exact hs2) (m := i) (by exact h10) hi (hB.2.2.2 e) _) rfl ?_
                  refine xn_iadd dX10_cut_289 ?_
                  refine xe_istore_n (i := 1) dX10_cut_290 rfl (by decide) rfl ?_
                  refine xe_goto (tgt := 7) dX10_cut_291 rfl ?_
                  have hk := tz_k_s he hl hd
                  have hee := tz_e_s he hl hd
                  have hv := tz_sg_v (B e)
                  rw [hee] at K
                  exact xe_locals (L' := [(0, .ref 124), (1, .int (nI (e + 1)))]) ⟨rfl, rfl, trivial⟩ (K _ (rt_S_s hS (by rw [hpe, hk]) (by rw [hpe]) (fun q => absurd (by rw [hpe, hk] at q; exact q) (by omega)) (fun q => absurd (by rw [hpe, hk] at q; exact q) (by omega))))
                · exact absurd (tz_if0.mpr hd) c8
              · exact absurd (tz_if0.mpr hl) c7
            · omega
    · omega
theorem cutd_250 (l : Launch) (g : q_GP) (h : q_H) (hs : q_Stat h) {n : Nat} {B : Nat → Nat} (hB : rb_B h n B) {hh : q_H} {i : Nat} (hi : i ≤ 400) (hS : rt_S h hh n B i) {e : Nat} (hen : e ≤ n) (he : e < n) (hb : ¬ tz_bl (B e) = true) (hp : tz_to tz_bl n B e = (tz_p n B i)) (hl : ¬ tz_le (B e) = true) (hd : tz_di (B e) = true) {k : Nat} {v : Int32} (hk2 : tz_to tz_di n B e = e + k) (hv : k ≤ 4 → v = nI (tz_v B e k)) {Q : Option Value → q_H → Prop} (K : ∀ h2, rt_S h h2 n B (i + 1) → q_Ex l g 2 mX10_cut 7 [(0, .ref 124), (1, .int (nI (tz_e n B e)))] [] h2 Q) : q_Ex l g 2 mX10_cut 250 [(0, .ref 124), (1, .int (nI e)), (3, .int (nI k)), (4, .int v)] [] hh Q := by
  have hn := hB.2.1
  have hs2 : q_Stat hh := q_Stat_3 hS.1 hs
  have hB2 := rt_SB hS hB
  have h10 := hS.2.2.2.2.1
  have hb2 : ¬ (B e = 32 ∨ B e = 9 ∨ B e = 10 ∨ B e = 13) := fun q => hb (tz_bl_i.mpr q)
  have hb3 := hB.2.2.2 e
  have hpe : (tz_p n B i) = e := by rw [← hp, tz_to_f hb]
  have hk := tz_k_d he hl hd
  have hee := tz_e_d he hl hd
  have hkn := tz_to_le (P := tz_di) (B := B) hen
  rw [hk2] at hkn
  refine xe_aload_n dX10_cut_250 rfl ?_
  refine xe_iload_n dX10_cut_251 rfl ?_
  refine xe_iconst dX10_cut_252 kc_4 ?_
  refine xn_icmp_le (tgt := 260) dX10_cut_253 rfl (by omega) (by omega) (fun c1 => ?_) (fun c1 => ?_)
  · refine xe_iconst dX10_cut_260 kc_2 ?_
    refine xe_iload_n dX10_cut_261 rfl ?_
    refine xe_iload dX10_cut_262 rfl ?_
    refine xe_lconst dX10_cut_264 rfl ?_
    refine xe_callVV (d' := 0) (y' := mX10_token) dX10_cut_265 mlX10_183 mvX10_token rfl (st124 hs2) (by decide) rfl (by decide) (by decide) (Nat.le_of_ble_eq_true rfl) (c_X10_token l g _ (by exact hs2) (m := i) (by exact h10) (by omega) _ _ _ _) rfl ?_
    refine xe_iload_n dX10_cut_268 rfl ?_
    refine xe_iload_n dX10_cut_269 rfl ?_
    refine xn_iadd dX10_cut_270 ?_
    refine xe_istore_n (i := 1) dX10_cut_271 rfl (by decide) rfl ?_
    refine xe_goto (tgt := 291) dX10_cut_272 rfl ?_
    refine xe_goto (tgt := 7) dX10_cut_291 rfl ?_
    rw [hk2, show e + k - e = k by omega, if_neg (by omega)] at hk
    have hq : tz_k n B (tz_p n B i) = _ := (congrArg (tz_k n B) hpe).trans hk
    rw [hee, hk2] at K
    exact xe_locals (L' := [(0, .ref 124), (1, .int (nI (e + k)))]) ⟨rfl, rfl, trivial⟩ (K _ (rt_S_s hS (by rw [hpe, hk]) (by rw [hpe]) (fun q => absurd (hq.symm.trans q) (by decide)) (fun q => (hv (by omega)).trans (by rw [hpe, hk2, show e + k - e = k by omega]))))
  · refine xe_iconst dX10_cut_256 kc_3 ?_
    refine xe_goto (tgt := 261) dX10_cut_257 rfl ?_
    refine xe_iload_n dX10_cut_261 rfl ?_
    refine xe_iload dX10_cut_262 rfl ?_
    refine xe_lconst dX10_cut_264 rfl ?_
    refine xe_callVV (d' := 0) (y' := mX10_token) dX10_cut_265 mlX10_183 mvX10_token rfl (st124 hs2) (by decide) rfl (by decide) (by decide) (Nat.le_of_ble_eq_true rfl) (c_X10_token l g _ (by exact hs2) (m := i) (by exact h10) (by omega) _ _ _ _) rfl ?_
    refine xe_iload_n dX10_cut_268 rfl ?_
    refine xe_iload_n dX10_cut_269 rfl ?_
    refine xn_iadd dX10_cut_270 ?_
    refine xe_istore_n (i := 1) dX10_cut_271 rfl (by decide) rfl ?_
    refine xe_goto (tgt := 291) dX10_cut_272 rfl ?_
    refine xe_goto (tgt := 7) dX10_cut_291 rfl ?_
    rw [hk2, show e + k - e = k by omega, if_pos (by omega)] at hk
    have hq : tz_k n B (tz_p n B i) = _ := (congrArg (tz_k n B) hpe).trans hk
    rw [hee, hk2] at K
    exact xe_locals (L' := [(0, .ref 124), (1, .int (nI (e + k)))]) ⟨rfl, rfl, trivial⟩ (K _ (rt_S_s hS (by rw [hpe, hk]) (by rw [hpe]) (fun q => absurd (hq.symm.trans q) (by decide)) (fun q => absurd (hq.symm.trans q) (by decide))))
theorem cut_d (l : Launch) (g : q_GP) (h : q_H) (hs : q_Stat h) {n : Nat} {B : Nat → Nat} (hB : rb_B h n B) {hh : q_H} {i : Nat} (hi : i ≤ 400) (hS : rt_S h hh n B i) {e : Nat} (hen : e ≤ n) (he : e < n) (hb : ¬ tz_bl (B e) = true) (hp : tz_to tz_bl n B e = (tz_p n B i)) (hl : ¬ tz_le (B e) = true) (hd : tz_di (B e) = true) {Q : Option Value → q_H → Prop} (K : ∀ h2, rt_S h h2 n B (i + 1) → q_Ex l g 2 mX10_cut 7 [(0, .ref 124), (1, .int (nI (tz_e n B e)))] [] h2 Q) : q_Ex l g 2 mX10_cut 7 [(0, .ref 124), (1, .int (nI e))] [] hh Q := by
  have hn := hB.2.1
  have hs2 : q_Stat hh := q_Stat_3 hS.1 hs
  have hB2 := rt_SB hS hB
  have h10 := hS.2.2.2.2.1
  have hb2 : ¬ (B e = 32 ∨ B e = 9 ∨ B e = 10 ∨ B e = 13) := fun q => hb (tz_bl_i.mpr q)
  have hb3 := hB.2.2.2 e
  have hpe : (tz_p n B i) = e := by rw [← hp, tz_to_f hb]
  refine xe_aload_n dX10_cut_7 rfl ?_
  refine xe_getIv dX10_cut_8 flX10_176 (st124 hs2) (by decide) rfl (v := nI i) (h10) ?_
  refine xe_sipush dX10_cut_11 ks_400 ?_
  refine xn_icmp_gt (tgt := 294) dX10_cut_14 rfl (by omega) (by omega) (fun c1 => ?_) (fun c1 => ?_)
  · omega
  · refine xe_aload_n dX10_cut_17 rfl ?_
    refine xe_iload_n dX10_cut_18 rfl ?_
    refine xe_callVI (d' := 0) (y' := mX10_byteAt) dX10_cut_19 mlX10_179 mvX10_byteAt rfl (st124 hs2) (by decide) rfl (by decide) (by decide) (Nat.le_of_ble_eq_true rfl) (c_X10_byteAt l g _ (by exact hs2) (n := n) (B := B) (by exact hB2) (by omega)) rfl ?_
    refine xe_top (v' := nI (B e)) (congrArg nI (bz_t he)) ?_
    refine xe_istore_n (i := 2) dX10_cut_22 rfl (by decide) rfl ?_
    refine xe_iload_n dX10_cut_23 rfl ?_
    refine xe_aload_n dX10_cut_24 rfl ?_
    refine xe_getIv dX10_cut_25 flX10_167 (st124 hs2) (by decide) rfl (v := nI n) (hB2.1) ?_
    refine xn_icmp_lt (tgt := 43) dX10_cut_28 rfl (by omega) (by omega) (fun c2 => ?_) (fun c2 => ?_)
    · refine xe_iload_n dX10_cut_43 rfl ?_
      refine xe_bipush dX10_cut_44 kb_9 ?_
      refine xn_icmp_eq (tgt := 67) dX10_cut_46 rfl (by omega) (by omega) (fun c3 => ?_) (fun c3 => ?_)
      · omega
      · refine xe_iload_n dX10_cut_49 rfl ?_
        refine xe_bipush dX10_cut_50 kb_10 ?_
        refine xn_icmp_eq (tgt := 67) dX10_cut_52 rfl (by omega) (by omega) (fun c4 => ?_) (fun c4 => ?_)
        · omega
        · refine xe_iload_n dX10_cut_55 rfl ?_
          refine xe_bipush dX10_cut_56 kb_13 ?_
          refine xn_icmp_eq (tgt := 67) dX10_cut_58 rfl (by omega) (by omega) (fun c5 => ?_) (fun c5 => ?_)
          · omega
          · refine xe_iload_n dX10_cut_61 rfl ?_
            refine xe_bipush dX10_cut_62 kb_32 ?_
            refine xn_icmp_ne (tgt := 73) dX10_cut_64 rfl (by omega) (by omega) (fun c6 => ?_) (fun c6 => ?_)
            · refine xe_iload_n dX10_cut_73 rfl ?_
              refine xe_callSI (d' := 0) (y' := mX10_isLetter) dX10_cut_74 mlX10_187 msX10_isLetter rfl (by decide) (by decide) (Nat.le_of_ble_eq_true rfl) (c_X10_isLetter l g _ (hB.2.2.2 _)) rfl ?_
              refine xe_if_eq (tgt := 196) dX10_cut_77 rfl (fun c7 => ?_) (fun c7 => ?_)
              · refine xe_iload_n dX10_cut_196 rfl ?_
                refine xe_callSI (d' := 0) (y' := mX10_isDigit) dX10_cut_197 mlX10_191 msX10_isDigit rfl (by decide) (by decide) (Nat.le_of_ble_eq_true rfl) (c_X10_isDigit l g _ (hB.2.2.2 _)) rfl ?_
                refine xe_if_eq (tgt := 275) dX10_cut_200 rfl (fun c8 => ?_) (fun c8 => ?_)
                · exact absurd hd (tz_if0.mp c8)
                · refine xe_iconst dX10_cut_203 kc_0 ?_
                  refine xe_istore_n (i := 3) dX10_cut_204 rfl (by decide) rfl ?_
                  refine xe_iconst dX10_cut_205 kc_0 ?_
                  refine xe_istore dX10_cut_206 (by decide) rfl ?_
                  refine xe_fin (L' := (fun (k : Nat) (s9 : Int32) => [(0, .ref 124), (1, .int (nI e)), (2, .int (nI (B e))), (3, .int (nI k)), (4, .int s9)]) 0 (nI 0)) (h' := (fun (_ : Nat) (_ : Int32) => hh) 0 (nI 0)) ?_ (And.intro rfl (And.intro rfl (And.intro rfl (And.intro rfl (And.intro rfl trivial))))) rfl
                  refine xe_loopW (σ := Int32) (n - e) (fun k s => tz_to tz_di n B e = tz_to tz_di n B (e + k) ∧ e + k ≤ n ∧ (k ≤ 4 → s = nI (tz_v B e k))) (fun (k : Nat) (s9 : Int32) => [(0, .ref 124), (1, .int (nI e)), (2, .int (nI (B e))), (3, .int (nI k)), (4, .int s9)]) (fun (_ : Nat) (_ : Int32) => hh) (nI 0) (⟨rfl, hen, fun _ => rfl⟩) (fun k hk s9 e9 K9 => ?_)
                  · obtain ⟨s_1, s_2, s_3⟩ := e9
                    refine xe_aload_n dX10_cut_208 rfl ?_
                    refine xe_iload_n dX10_cut_209 rfl ?_
                    refine xe_iload_n dX10_cut_210 rfl ?_
                    refine xn_iadd dX10_cut_211 ?_
                    refine xe_callVI (d' := 0) (y' := mX10_byteAt) dX10_cut_212 mlX10_179 mvX10_byteAt rfl (st124 hs2) (by decide) rfl (by decide) (by decide) (Nat.le_of_ble_eq_true rfl) (c_X10_byteAt l g _ (by exact hs2) (n := n) (B := B) (by exact hB2) (by omega)) rfl ?_
                    refine xe_callSI (d' := 0) (y' := mX10_isDigit) dX10_cut_215 mlX10_191 msX10_isDigit rfl (by decide) (by decide) (Nat.le_of_ble_eq_true rfl) (c_X10_isDigit l g _ (bz_lt hB.2.2.2)) rfl ?_
                    refine xe_if_eq (tgt := 250) dX10_cut_218 rfl (fun c_l => ?_) (fun c_l => ?_)
                    · exact xe_fin (cutd_250 l g h hs hB hi hS hen he hb hp hl hd (k := k) (v := s9) (s_1.trans (bz_ndi (tz_if0.mp c_l))) (fun q => s_3 q) K) ⟨rfl, rfl, rfl, rfl, trivial⟩ rfl
                    · have c_l3 := bz_di (Classical.not_not.mp (fun q => c_l (tz_if0.mpr q)))
                      have c_l2 := c_l3.2
                      have c_lk := c_l3.1
                      refine xe_iload_n dX10_cut_221 rfl ?_
                      refine xe_iconst dX10_cut_222 kc_4 ?_
                      refine xn_icmp_ge (tgt := 244) dX10_cut_223 rfl (by omega) (by omega) (fun c_4 => ?_) (fun c_4 => ?_)
                      · refine xn_iinc dX10_cut_244 rfl kc_1 ?_
                        refine xe_goto (tgt := 208) dX10_cut_247 rfl ?_
                        exact xe_fin (K9 (by omega) s9 (⟨s_1.trans (tz_to_t (by omega) c_l2), by omega, fun q => absurd q (by omega)⟩)) (And.intro rfl (And.intro rfl (And.intro rfl (And.intro rfl (And.intro rfl trivial))))) rfl
                      · refine xe_bipush dX10_cut_226 kb_10 ?_
                        refine xe_iload dX10_cut_228 rfl ?_
                        refine xe_imul dX10_cut_230 ?_
                        refine xe_aload_n dX10_cut_231 rfl ?_
                        refine xe_iload_n dX10_cut_232 rfl ?_
                        refine xe_iload_n dX10_cut_233 rfl ?_
                        refine xn_iadd dX10_cut_234 ?_
                        refine xe_callVI (d' := 0) (y' := mX10_byteAt) dX10_cut_235 mlX10_179 mvX10_byteAt rfl (st124 hs2) (by decide) rfl (by decide) (by decide) (Nat.le_of_ble_eq_true rfl) (c_X10_byteAt l g _ (by exact hs2) (n := n) (B := B) (by exact hB2) (by omega)) rfl ?_
                        refine xe_iadd dX10_cut_238 ?_
                        refine xe_bipush dX10_cut_239 kb_48 ?_
                        refine xe_isub dX10_cut_241 ?_
                        refine xe_istore dX10_cut_242 (by decide) rfl ?_
                        refine xn_iinc dX10_cut_244 rfl kc_1 ?_
                        refine xe_goto (tgt := 208) dX10_cut_247 rfl ?_
                        exact xe_fin (K9 (by omega) ((((nI 10) * s9) + (nI (bz n B (e + k)))) - (nI 48)) (⟨s_1.trans (tz_to_t (by omega) c_l2), by omega, fun q => by
                          rw [s_3 (by omega), Int32.mul_comm (nI 10), bz_t c_l3.1]
                          exact (tz_num (tz_di_i.mp c_l2).1).trans rfl⟩)) (And.intro rfl (And.intro rfl (And.intro rfl (And.intro rfl (And.intro rfl trivial))))) rfl
              · exact absurd (tz_if0.mpr hl) c7
            · omega
    · omega
theorem cutl_179 (l : Launch) (g : q_GP) (h : q_H) (hs : q_Stat h) {n : Nat} {B : Nat → Nat} (hB : rb_B h n B) {hh : q_H} {i : Nat} (hi : i ≤ 400) (hS : rt_S h hh n B i) {e : Nat} (hen : e ≤ n) (he : e < n) (hb : ¬ tz_bl (B e) = true) (hp : tz_to tz_bl n B e = (tz_p n B i)) (hl : tz_le (B e) = true) {k kd : Nat} {x : Int64} (hk2 : tz_to tz_le n B e = e + k) (hkd : tz_k n B e = kd) (hx : kd = 1 → x = q_e27 (tz_w B e (e + k))) {Q : Option Value → q_H → Prop} (K : ∀ h2, rt_S h h2 n B (i + 1) → q_Ex l g 2 mX10_cut 7 [(0, .ref 124), (1, .int (nI (tz_e n B e)))] [] h2 Q) : q_Ex l g 2 mX10_cut 179 [(0, .ref 124), (1, .int (nI e)), (3, .int (nI k)), (4, .long x), (6, .int (nI kd))] [] hh Q := by
  have hn := hB.2.1
  have hs2 : q_Stat hh := q_Stat_3 hS.1 hs
  have hB2 := rt_SB hS hB
  have h10 := hS.2.2.2.2.1
  have hb2 : ¬ (B e = 32 ∨ B e = 9 ∨ B e = 10 ∨ B e = 13) := fun q => hb (tz_bl_i.mpr q)
  have hb3 := hB.2.2.2 e
  have hpe : (tz_p n B i) = e := by rw [← hp, tz_to_f hb]
  have hee := tz_e_l he hl
  have hkn := tz_to_le (P := tz_le) (B := B) hen
  rw [hk2] at hkn
  have h2 : ¬ kd = 2 := fun q => (tz_vm (hkd.trans q)).2.1 hl
  refine xe_aload_n dX10_cut_179 rfl ?_
  refine xe_iload dX10_cut_180 rfl ?_
  refine xe_iload_n dX10_cut_182 rfl ?_
  refine xe_iconst dX10_cut_183 kc_0 ?_
  refine xe_lload dX10_cut_184 rfl ?_
  refine xe_callVV (d' := 0) (y' := mX10_token) dX10_cut_186 mlX10_183 mvX10_token rfl (st124 hs2) (by decide) rfl (by decide) (by decide) (Nat.le_of_ble_eq_true rfl) (c_X10_token l g _ (by exact hs2) (m := i) (by exact h10) (by omega) _ _ _ _) rfl ?_
  refine xe_iload_n dX10_cut_189 rfl ?_
  refine xe_iload_n dX10_cut_190 rfl ?_
  refine xn_iadd dX10_cut_191 ?_
  refine xe_istore_n (i := 1) dX10_cut_192 rfl (by decide) rfl ?_
  refine xe_goto (tgt := 291) dX10_cut_193 rfl ?_
  refine xe_goto (tgt := 7) dX10_cut_291 rfl ?_
  rw [hee, hk2] at K
  exact xe_locals (L' := [(0, .ref 124), (1, .int (nI (e + k)))]) ⟨rfl, rfl, trivial⟩ (K _ (rt_S_s hS (by rw [hpe, hkd]) (by rw [hpe]) (fun q => by rw [hpe, hk2]; exact hx (by rw [hpe, hkd] at q; exact q)) (fun q => absurd (by rw [hpe, hkd] at q; exact q) h2)))
theorem cutl_124 (l : Launch) (g : q_GP) (h : q_H) (hs : q_Stat h) {n : Nat} {B : Nat → Nat} (hB : rb_B h n B) {hh : q_H} {i : Nat} (hi : i ≤ 400) (hS : rt_S h hh n B i) {e : Nat} (hen : e ≤ n) (he : e < n) (hb : ¬ tz_bl (B e) = true) (hp : tz_to tz_bl n B e = (tz_p n B i)) (hW : rk_W h) (hl : tz_le (B e) = true) {k : Nat} {x : Int64} (hk2 : tz_to tz_le n B e = e + k) (hx : k ≤ 8 → x = q_e27 (tz_w B e (e + k))) {Q : Option Value → q_H → Prop} (K : ∀ h2, rt_S h h2 n B (i + 1) → q_Ex l g 2 mX10_cut 7 [(0, .ref 124), (1, .int (nI (tz_e n B e)))] [] h2 Q) : q_Ex l g 2 mX10_cut 124 [(0, .ref 124), (1, .int (nI e)), (3, .int (nI k)), (4, .long x)] [] hh Q := by
  have hn := hB.2.1
  have hs2 : q_Stat hh := q_Stat_3 hS.1 hs
  have hB2 := rt_SB hS hB
  have h10 := hS.2.2.2.2.1
  have hb2 : ¬ (B e = 32 ∨ B e = 9 ∨ B e = 10 ∨ B e = 13) := fun q => hb (tz_bl_i.mpr q)
  have hb3 := hB.2.2.2 e
  have hpe : (tz_p n B i) = e := by rw [← hp, tz_to_f hb]
  have hk := tz_k_l he hl
  rw [hk2, show e + k - e = k by omega] at hk
  have hkn := tz_to_le (P := tz_le) (B := B) hen
  rw [hk2] at hkn
  have hlen : (tz_w B e (e + k)).length = k := by rw [tz_w_len]; omega
  have hW2 := rt_SW hS hW
  refine xe_iload_n dX10_cut_124 rfl ?_
  refine xe_bipush dX10_cut_125 kb_8 ?_
  refine xn_icmp_le (tgt := 134) dX10_cut_127 rfl (by omega) (by omega) (fun c_8 => ?_) (fun c_8 => ?_)
  · refine xe_iconst dX10_cut_134 kc_1 ?_
    refine xe_istore dX10_cut_135 (by decide) rfl ?_
    refine xe_iload_n dX10_cut_137 rfl ?_
    refine xe_bipush dX10_cut_138 kb_7 ?_
    refine xn_icmp_gt (tgt := 179) dX10_cut_140 rfl (by omega) (by omega) (fun c_7 => ?_) (fun c_7 => ?_)
    · exact xe_fin (L' := [(0, .ref 124), (1, .int (nI e)), (3, .int (nI k)), (4, .long x), (6, .int (nI 1))]) (cutl_179 l g h hs hB hi hS hen he hb hp hl (k := k) (kd := 1) (x := x) hk2 ((hk).trans ((if_neg (by omega)).trans (tz_ki_8 (by omega)))) (fun _ => hx (by omega)) K) ⟨rfl, rfl, rfl, rfl, rfl, trivial⟩ rfl
    · refine xe_iconst dX10_cut_143 kc_0 ?_
      refine xe_istore dX10_cut_144 (by decide) rfl ?_
      have hnm : nm_ok (tz_w B e (e + k)) := tz_w_ok (by omega) (fun j h1 h2 => tz_in (n := n) h1 (by rw [hk2]; exact h2))
      refine xe_fin (L' := (fun (w : Nat) (s1 : Nat) => [(0, .ref 124), (1, .int (nI e)), (3, .int (nI k)), (4, .long x), (6, .int (nI s1)), (7, .int (nI w))]) 0 1) (h' := (fun (_ : Nat) (_ : Nat) => hh) 0 1) ?_ (And.intro rfl (And.intro rfl (And.intro rfl (And.intro rfl (And.intro rfl (And.intro rfl trivial)))))) rfl
      refine xe_loopI (σ := Nat) (17) (fun w s => s = tz_ki (tz_w B e (e + k)) w) (fun (w : Nat) (s1 : Nat) => [(0, .ref 124), (1, .int (nI e)), (3, .int (nI k)), (4, .long x), (6, .int (nI s1)), (7, .int (nI w))]) (fun (_ : Nat) (_ : Nat) => hh) 1 (rfl) (fun w hw s1 e1 K1 => ?_) (fun s1 e1 => ?_)
      · refine xe_iload dX10_cut_146 rfl ?_
        refine xe_bipush dX10_cut_148 kb_17 ?_
        refine xn_icmp_ge (tgt := 179) dX10_cut_150 rfl (by omega) (by omega) (fun c2 => ?_) (fun c2 => ?_)
        · omega
        · refine xe_aload_n dX10_cut_153 rfl ?_
          refine xe_getP dX10_cut_154 flX10_34 (st124 hs2) (by decide) rfl (sp124_9 hs2) ?_
          refine xe_iload dX10_cut_157 rfl ?_
          refine xn_laldv dX10_cut_159 (st131 hs2) (by omega) (by decide) (v := (q_e27 (tz_kw.getD w []))) (hW2 w (by omega)) ?_
          refine xe_lload dX10_cut_160 rfl ?_
          refine xe_lcmp dX10_cut_162 ?_
          refine xe_if_ne (tgt := 173) dX10_cut_163 rfl (fun c_q => ?_) (fun c_q => ?_)
          · refine xn_iinc dX10_cut_173 rfl kc_1 ?_
            refine xe_goto (tgt := 146) dX10_cut_176 rfl ?_
            exact xe_fin (K1 s1 ((by show s1 = tz_ki _ (w + 1); rw [tz_ki, if_neg (fun q => c_q (q_cmp0.mpr ((congrArg q_e27 q).trans (hx (by omega)).symm)))]; exact e1))) (And.intro rfl (And.intro rfl (And.intro rfl (And.intro rfl (And.intro rfl (And.intro rfl trivial)))))) rfl
          · refine xe_bipush dX10_cut_166 kb_20 ?_
            refine xe_iload dX10_cut_168 rfl ?_
            refine xn_iadd dX10_cut_170 ?_
            refine xe_istore dX10_cut_171 (by decide) rfl ?_
            refine xn_iinc dX10_cut_173 rfl kc_1 ?_
            refine xe_goto (tgt := 146) dX10_cut_176 rfl ?_
            exact xe_fin (K1 (20 + w) ((by show 20 + w = tz_ki _ (w + 1); rw [tz_ki, if_pos ((q_e27_inj (tz_kw_nm (by omega)) hnm).mp ((q_cmp0.mp c_q).trans (hx (by omega))))]))) (And.intro rfl (And.intro rfl (And.intro rfl (And.intro rfl (And.intro rfl (And.intro rfl trivial)))))) rfl
      · refine xe_iload dX10_cut_146 rfl ?_
        refine xe_bipush dX10_cut_148 kb_17 ?_
        refine xn_icmp_ge (tgt := 179) dX10_cut_150 rfl (by omega) (by omega) (fun c3 => ?_) (fun c3 => ?_)
        · exact xe_fin (L' := [(0, .ref 124), (1, .int (nI e)), (3, .int (nI k)), (4, .long x), (6, .int (nI s1))]) (cutl_179 l g h hs hB hi hS hen he hb hp hl (k := k) (kd := s1) (x := x) hk2 ((hk).trans ((if_neg (by omega)).trans e1.symm)) (fun _ => hx (by omega)) K) ⟨rfl, rfl, rfl, rfl, rfl, trivial⟩ rfl
        · omega
  · refine xe_iconst dX10_cut_130 kc_3 ?_
    refine xe_goto (tgt := 135) dX10_cut_131 rfl ?_
    refine xe_istore dX10_cut_135 (by decide) rfl ?_
    refine xe_iload_n dX10_cut_137 rfl ?_
    refine xe_bipush dX10_cut_138 kb_7 ?_
    refine xn_icmp_gt (tgt := 179) dX10_cut_140 rfl (by omega) (by omega) (fun c_7 => ?_) (fun c_7 => ?_)
    · exact xe_fin (L' := [(0, .ref 124), (1, .int (nI e)), (3, .int (nI k)), (4, .long x), (6, .int (nI 3))]) (cutl_179 l g h hs hB hi hS hen he hb hp hl (k := k) (kd := 3) (x := x) hk2 ((hk).trans (if_pos (by omega))) (fun q => absurd q (by decide)) K) ⟨rfl, rfl, rfl, rfl, rfl, trivial⟩ rfl
    · omega
theorem cut_l (l : Launch) (g : q_GP) (h : q_H) (hs : q_Stat h) {n : Nat} {B : Nat → Nat} (hB : rb_B h n B) {hh : q_H} {i : Nat} (hi : i ≤ 400) (hS : rt_S h hh n B i) {e : Nat} (hen : e ≤ n) (he : e < n) (hb : ¬ tz_bl (B e) = true) (hp : tz_to tz_bl n B e = (tz_p n B i)) (hW : rk_W h) (hl : tz_le (B e) = true) {Q : Option Value → q_H → Prop} (K : ∀ h2, rt_S h h2 n B (i + 1) → q_Ex l g 2 mX10_cut 7 [(0, .ref 124), (1, .int (nI (tz_e n B e)))] [] h2 Q) : q_Ex l g 2 mX10_cut 7 [(0, .ref 124), (1, .int (nI e))] [] hh Q := by
  have hn := hB.2.1
  have hs2 : q_Stat hh := q_Stat_3 hS.1 hs
  have hB2 := rt_SB hS hB
  have h10 := hS.2.2.2.2.1
  have hb2 : ¬ (B e = 32 ∨ B e = 9 ∨ B e = 10 ∨ B e = 13) := fun q => hb (tz_bl_i.mpr q)
  have hb3 := hB.2.2.2 e
  have hpe : (tz_p n B i) = e := by rw [← hp, tz_to_f hb]
  refine xe_aload_n dX10_cut_7 rfl ?_
  refine xe_getIv dX10_cut_8 flX10_176 (st124 hs2) (by decide) rfl (v := nI i) (h10) ?_
  refine xe_sipush dX10_cut_11 ks_400 ?_
  refine xn_icmp_gt (tgt := 294) dX10_cut_14 rfl (by omega) (by omega) (fun c1 => ?_) (fun c1 => ?_)
  · omega
  · refine xe_aload_n dX10_cut_17 rfl ?_
    refine xe_iload_n dX10_cut_18 rfl ?_
    refine xe_callVI (d' := 0) (y' := mX10_byteAt) dX10_cut_19 mlX10_179 mvX10_byteAt rfl (st124 hs2) (by decide) rfl (by decide) (by decide) (Nat.le_of_ble_eq_true rfl) (c_X10_byteAt l g _ (by exact hs2) (n := n) (B := B) (by exact hB2) (by omega)) rfl ?_
    refine xe_top (v' := nI (B e)) (congrArg nI (bz_t he)) ?_
    refine xe_istore_n (i := 2) dX10_cut_22 rfl (by decide) rfl ?_
    refine xe_iload_n dX10_cut_23 rfl ?_
    refine xe_aload_n dX10_cut_24 rfl ?_
    refine xe_getIv dX10_cut_25 flX10_167 (st124 hs2) (by decide) rfl (v := nI n) (hB2.1) ?_
    refine xn_icmp_lt (tgt := 43) dX10_cut_28 rfl (by omega) (by omega) (fun c2 => ?_) (fun c2 => ?_)
    · refine xe_iload_n dX10_cut_43 rfl ?_
      refine xe_bipush dX10_cut_44 kb_9 ?_
      refine xn_icmp_eq (tgt := 67) dX10_cut_46 rfl (by omega) (by omega) (fun c3 => ?_) (fun c3 => ?_)
      · omega
      · refine xe_iload_n dX10_cut_49 rfl ?_
        refine xe_bipush dX10_cut_50 kb_10 ?_
        refine xn_icmp_eq (tgt := 67) dX10_cut_52 rfl (by omega) (by omega) (fun c4 => ?_) (fun c4 => ?_)
        · omega
        · refine xe_iload_n dX10_cut_55 rfl ?_
          refine xe_bipush dX10_cut_56 kb_13 ?_
          refine xn_icmp_eq (tgt := 67) dX10_cut_58 rfl (by omega) (by omega) (fun c5 => ?_) (fun c5 => ?_)
          · omega
          · refine xe_iload_n dX10_cut_61 rfl ?_
            refine xe_bipush dX10_cut_62 kb_32 ?_
            refine xn_icmp_ne (tgt := 73) dX10_cut_64 rfl (by omega) (by omega) (fun c6 => ?_) (fun c6 => ?_)
            · refine xe_iload_n dX10_cut_73 rfl ?_
              refine xe_callSI (d' := 0) (y' := mX10_isLetter) dX10_cut_74 mlX10_187 msX10_isLetter rfl (by decide) (by decide) (Nat.le_of_ble_eq_true rfl) (c_X10_isLetter l g _ (hB.2.2.2 _)) rfl ?_
              refine xe_if_eq (tgt := 196) dX10_cut_77 rfl (fun c7 => ?_) (fun c7 => ?_)
              · exact absurd hl (tz_if0.mp c7)
              · refine xe_iconst dX10_cut_80 kc_0 ?_
                refine xe_istore_n (i := 3) dX10_cut_81 rfl (by decide) rfl ?_
                refine xe_lconst dX10_cut_82 rfl ?_
                refine xe_lstore dX10_cut_83 (by decide) rfl rfl ?_
                refine xe_fin (L' := (fun (k : Nat) (s8 : Int64) => [(0, .ref 124), (1, .int (nI e)), (2, .int (nI (B e))), (3, .int (nI k)), (4, .long s8)]) 0 0) (h' := (fun (_ : Nat) (_ : Int64) => hh) 0 0) ?_ (And.intro rfl (And.intro rfl (And.intro rfl (And.intro rfl (And.intro rfl trivial))))) rfl
                refine xe_loopW (σ := Int64) (n - e) (fun k s => tz_to tz_le n B e = tz_to tz_le n B (e + k) ∧ e + k ≤ n ∧ (k ≤ 8 → s = q_e27 (tz_w B e (e + k)))) (fun (k : Nat) (s8 : Int64) => [(0, .ref 124), (1, .int (nI e)), (2, .int (nI (B e))), (3, .int (nI k)), (4, .long s8)]) (fun (_ : Nat) (_ : Int64) => hh) 0 (⟨rfl, hen, fun _ => by show (0 : Int64) = q_e27 (tz_w B e e); rw [tz_w_0]; rfl⟩) (fun k hk s8 e8 K8 => ?_)
                · obtain ⟨s_1, s_2, s_3⟩ := e8
                  refine xe_aload_n dX10_cut_85 rfl ?_
                  refine xe_iload_n dX10_cut_86 rfl ?_
                  refine xe_iload_n dX10_cut_87 rfl ?_
                  refine xn_iadd dX10_cut_88 ?_
                  refine xe_callVI (d' := 0) (y' := mX10_byteAt) dX10_cut_89 mlX10_179 mvX10_byteAt rfl (st124 hs2) (by decide) rfl (by decide) (by decide) (Nat.le_of_ble_eq_true rfl) (c_X10_byteAt l g _ (by exact hs2) (n := n) (B := B) (by exact hB2) (by omega)) rfl ?_
                  refine xe_callSI (d' := 0) (y' := mX10_isLetter) dX10_cut_92 mlX10_187 msX10_isLetter rfl (by decide) (by decide) (Nat.le_of_ble_eq_true rfl) (c_X10_isLetter l g _ (bz_lt hB.2.2.2)) rfl ?_
                  refine xe_if_eq (tgt := 124) dX10_cut_95 rfl (fun c_l => ?_) (fun c_l => ?_)
                  · exact xe_fin (cutl_124 l g h hs hB hi hS hen he hb hp hW hl (k := k) (x := s8) (s_1.trans (bz_nle (tz_if0.mp c_l))) (fun q => s_3 q) K) ⟨rfl, rfl, rfl, rfl, trivial⟩ rfl
                  · have c_l3 := bz_le (Classical.not_not.mp (fun q => c_l (tz_if0.mpr q)))
                    have c_l2 := c_l3.2
                    have c_lk := c_l3.1
                    have c_li := tz_le_i.mp c_l2
                    have c_bz := bz_t (B := B) c_lk
                    refine xe_iload_n dX10_cut_98 rfl ?_
                    refine xe_bipush dX10_cut_99 kb_8 ?_
                    refine xn_icmp_ge (tgt := 118) dX10_cut_101 rfl (by omega) (by omega) (fun c_8 => ?_) (fun c_8 => ?_)
                    · refine xn_iinc dX10_cut_118 rfl kc_1 ?_
                      refine xe_goto (tgt := 85) dX10_cut_121 rfl ?_
                      exact xe_fin (K8 (by omega) s8 (⟨s_1.trans (tz_to_t (by omega) c_l2), by omega, fun q => absurd q (by omega)⟩)) (And.intro rfl (And.intro rfl (And.intro rfl (And.intro rfl (And.intro rfl trivial))))) rfl
                    · refine xe_lload dX10_cut_104 rfl ?_
                      refine xe_aload_n dX10_cut_106 rfl ?_
                      refine xe_iload_n dX10_cut_107 rfl ?_
                      refine xe_iload_n dX10_cut_108 rfl ?_
                      refine xn_iadd dX10_cut_109 ?_
                      refine xe_callVI (d' := 0) (y' := mX10_byteAt) dX10_cut_110 mlX10_179 mvX10_byteAt rfl (st124 hs2) (by decide) rfl (by decide) (by decide) (Nat.le_of_ble_eq_true rfl) (c_X10_byteAt l g _ (by exact hs2) (n := n) (B := B) (by exact hB2) (by omega)) rfl ?_
                      refine xe_callSJ (d' := 0) (y' := mX10_appends) dX10_cut_113 mlX10_172 msX10_appends rfl (by decide) (by decide) (Nat.le_of_ble_eq_true rfl) (c_X10_appends l g _ _ (by omega) (by omega)) rfl ?_
                      refine xe_lstore dX10_cut_116 (by decide) rfl rfl ?_
                      refine xn_iinc dX10_cut_118 rfl kc_1 ?_
                      refine xe_goto (tgt := 85) dX10_cut_121 rfl ?_
                      exact xe_fin (K8 (by omega) (tz_27 s8 (bz n B (e + k))) (⟨s_1.trans (tz_to_t (by omega) c_l2), by omega, fun q => by
                        show tz_27 _ _ = _
                        rw [s_3 (by omega), bz_t c_lk, show e + (k + 1) = (e + k) + 1 by omega, tz_w_s (by omega)]
                        exact tz_27_e (tz_le_i.mp c_l2).2⟩)) (And.intro rfl (And.intro rfl (And.intro rfl (And.intro rfl (And.intro rfl trivial))))) rfl
            · omega
    · omega
theorem cut_o (l : Launch) (g : q_GP) (h : q_H) (hs : q_Stat h) {n : Nat} {B : Nat → Nat} (hB : rb_B h n B) {hh : q_H} {i : Nat} (hS : rt_S h hh n B i) {e : Nat} (hen : e ≤ n) (hi : i = 401) (hj : ∀ j, j < i → ¬ tz_k n B (tz_p n B j) = 0) : q_Ex l g 2 mX10_cut 7 [(0, .ref 124), (1, .int (nI e))] [] hh (fun r h1 => r = none ∧ rt_A h h1 n B) := by
  have hn := hB.2.1
  have hs2 : q_Stat hh := q_Stat_3 hS.1 hs
  have hB2 := rt_SB hS hB
  have h10 := hS.2.2.2.2.1
  refine xe_aload_n dX10_cut_7 rfl ?_
  refine xe_getIv dX10_cut_8 flX10_176 (st124 hs2) (by decide) rfl (v := nI i) (h10) ?_
  refine xe_sipush dX10_cut_11 ks_400 ?_
  refine xn_icmp_gt (tgt := 294) dX10_cut_14 rfl (by omega) (by omega) (fun c1 => ?_) (fun c1 => ?_)
  · refine xe_return dX10_cut_294 rfl ?_
    subst hi
    exact ⟨rfl, 400, by decide, Or.inl rfl, fun j h1 => hj j (by omega), hS⟩
  · omega
theorem cut_7 (l : Launch) (g : q_GP) (h : q_H) (hs : q_Stat h) {n : Nat} {B : Nat → Nat} (hB : rb_B h n B) (hW : rk_W h) : ∀ (f e i : Nat) (hh : q_H), n - e ≤ f → i ≤ 401 → e ≤ n → rt_S h hh n B i → tz_to tz_bl n B e = (tz_p n B i) → (∀ j, j < i → ¬ tz_k n B (tz_p n B j) = 0) → q_Ex l g 2 mX10_cut 7 [(0, .ref 124), (1, .int (nI e))] [] hh (fun r h1 => r = none ∧ rt_A h h1 n B) := by
  intro f
  induction f with
  | zero =>
    intro e i hh hf hi hen hS hp hj
    rcases Nat.lt_or_ge 400 i with q | q
    · exact cut_o l g h hs hB hS hen (by omega) hj
    · exact cut_n l g h hs hB q hS hen (by omega) hp hj
  | succ f ih =>
    intro e i hh hf hi hen hS hp hj
    rcases Nat.lt_or_ge 400 i with q | q
    · exact cut_o l g h hs hB hS hen (by omega) hj
    · rcases Nat.lt_or_ge e n with he | he
      · by_cases hb : tz_bl (B e) = true
        · exact cut_b l g h hs hB q hS hen he hb (ih (e + 1) i hh (by omega) (by omega) (by omega) hS ((tz_to_t he hb).symm.trans hp) hj)
        · have hpe : (tz_p n B i) = e := by rw [← hp, tz_to_f hb]
          have h0 : ¬ tz_k n B (tz_p n B i) = 0 := by
            rw [hpe]
            intro z
            rcases tz_k_v (B := B) he with z2 | z2 | z2 | z2 | z2 | z2 | z2 <;> omega
          have hr := tz_e_r (B := B) he
          have K : ∀ h2, rt_S h h2 n B (i + 1) → q_Ex l g 2 mX10_cut 7 [(0, .ref 124), (1, .int (nI (tz_e n B e)))] [] h2 (fun r h1 => r = none ∧ rt_A h h1 n B) := fun h2 hS2 => ih (tz_e n B e) (i + 1) h2 (by omega) (by omega) hr.2 hS2 (by show _ = tz_to tz_bl n B (tz_e n B (tz_p n B i)); rw [hpe]) (fun j hj2 => by
            rcases Nat.lt_succ_iff_lt_or_eq.mp hj2 with z | rfl
            · exact hj j z
            · exact h0)
          by_cases hl : tz_le (B e) = true
          · exact cut_l l g h hs hB q hS hen he hb hp hW hl K
          · by_cases hd : tz_di (B e) = true
            · exact cut_d l g h hs hB q hS hen he hb hp hl hd K
            · exact cut_s l g h hs hB q hS hen he hb hp hl hd K
      · exact cut_n l g h hs hB q hS hen he hp hj
theorem c_X10_cut (l : Launch) (g : q_GP) (h : q_H) (hs : q_Stat h) {n : Nat} {B : Nat → Nat} (hB : rb_B h n B) (hW : rk_W h) : q_Ct l g 2 mX10_cut [.ref 124] h (fun r h1 => r = none ∧ rt_A h h1 n B) := by
  refine q_CtV mvX10_cut (Nat.le_of_ble_eq_true rfl) ?_
  refine xe_aload_n dX10_cut_0 rfl ?_
  refine xe_iconst dX10_cut_1 kc_0 ?_
  refine xe_putI dX10_cut_2 flX10_176 (st124 hs) (by decide) rfl (Or.inl rfl) rfl rfl ?_
  refine xe_iconst dX10_cut_5 kc_0 ?_
  refine xe_istore_n (i := 1) dX10_cut_6 rfl (by decide) rfl ?_
  exact xe_locals (L' := [(0, .ref 124), (1, .int (nI 0))]) ⟨rfl, rfl, trivial⟩ (cut_7 l g h hs hB hW n 0 0 _ (by omega) (by omega) (by omega) ⟨rfl, fun r h1 _ _ _ => q_Ine h1, fun k hk => if_neg hk, fun _ _ => rfl, rfl, fun j hj => absurd hj (Nat.not_lt_zero _)⟩ rfl (fun j hj => absurd hj (Nat.not_lt_zero _)))
/-- the reference's tokens -/
theorem tz_rtT {h h1 : q_H} {n : Nat} {B : Nat → Nat} (hn : n ≤ 2000) (a : rt_A h h1 n B) : ∃ m, rt_T h1 (tz_K n B) m ∧ q_inc (tz_K n B) m := by
  obtain ⟨m, hm, hk, hj, hS⟩ := a
  refine ⟨m, ⟨hm, hk, fun i hi => ?_⟩, tz_inc hj⟩
  obtain ⟨z1, z2, z3, z4⟩ := hS.2.2.2.2.2 i (by omega)
  have hp := tz_p_le (n := n) (B := B) i
  exact ⟨tz_k_36, by show tz_p n B i < 2 ^ 20; omega, z1, z2, fun q => ⟨z3 q, (tz_nm q).2.2⟩, fun q => ⟨z4 q, (tz_vm q).2.2.2.2⟩⟩
