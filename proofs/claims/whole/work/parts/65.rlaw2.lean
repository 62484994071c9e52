/-! the reference: tellLaw -/
theorem rs_go {h : q_H} {K : q_TK} {m sd t cc bb : Nat} (a : q_rs h K m sd t cc bb) (ht : t + 1 ≤ m) : q_rs (q_wI h 124 (upd (q_I h 124) 11 (nI (t + 1)))) K m sd (t + 1) cc bb := by
  obtain ⟨hs, hR, h12, h19, hsd, h33, h39, hc1, hc2, hb1, hb2⟩ := a
  exact ⟨hs, ⟨rt_Tc hR.1 rfl rfl rfl rfl, ht, rfl, hR.2.2.2⟩, h12, h19, hsd, h33, h39, hc1, by omega, hb1, hb2⟩
theorem rs_f {h : q_H} {K : q_TK} {m sd t cc bb : Nat} {e : Nat × Nat} (a : q_rs h K m sd t cc bb) (h1 : 1 ≤ e.1) (h5 : e.1 ≤ 5) : q_rb (q_wI h 124 (upd (upd (q_I h 124) 13 (nI e.1)) 14 (nI (tk_P K e.2)))) K sd e := by
  obtain ⟨hs, hR, h12, h19, hsd, h33, h39, hc1, hc2, hb1, hb2⟩ := a
  have h1' := hR.1.1
  have h2' := hR.2.1
  exact ⟨hs, h19, hsd, rfl, rfl, h1, h5, ⟨t, by omega, hR.2.2.1⟩, ⟨cc, by omega, h39⟩, bb, h33, hb1, by omega⟩
theorem rb_w {h : q_H} {K : q_TK} {sd r0 : Nat} {e : Nat × Nat} {f : Nat → Int32} (h1 : 144 ≤ r0) (h2 : r0 ≤ 148) (a : q_rb h K sd e) : q_rb (q_wI h r0 f) K sd e := by
  obtain ⟨hs, h19, hsd, h13, h14, he1, he5, ⟨t1, ht1, h11⟩, ⟨n1, hn1, h39⟩, b1, h33, hb1, hb2⟩ := a
  have ee : q_I (q_wI h r0 f) 124 = q_I h 124 := q_Ine (by omega)
  exact ⟨hs, by rw [ee]; exact h19, hsd, by rw [ee]; exact h13, by rw [ee]; exact h14, he1, he5, ⟨t1, ht1, by rw [ee]; exact h11⟩, ⟨n1, hn1, by rw [ee]; exact h39⟩, b1, by rw [ee]; exact h33, hb1, hb2⟩
theorem rf_m {sd cc bb cc1 bb1 : Nat} {h0 h : q_H} (a : q_rf sd cc1 bb1 h0 h) (hc : cc ≤ cc1) (hb : bb ≤ bb1) : q_rf sd cc bb h0 h := ⟨a.1, a.2.1, a.2.2.1, fun i hi => a.2.2.2.1 i (by omega), fun r x y i hi => a.2.2.2.2 r x y i (by omega)⟩
/-- a fault of one token -/
theorem ck_15 {T : Nat → Nat} {k t : Nat} {e : Nat × Nat} (h : tx_ck T k t = some e) : 1 ≤ e.1 ∧ e.1 ≤ 5 := by
  unfold tx_ck at h
  split at h
  · split at h
    · cases h
      exact ⟨(show 1 ≤ 2 by decide), (show 2 ≤ 5 by decide)⟩
    · cases h
  · cases h
    exact ⟨(show 1 ≤ 1 by decide), (show 1 ≤ 5 by decide)⟩
theorem tl_b12 (l : Launch) (g : q_GP) {K : q_TK} {sd BB i : Nat} {e : Nat × Nat} {kx fx : Int32} (h : q_H) (a : q_rb h K sd e) (h33 : q_I h 124 33 = nI BB) (hB : BB ≤ 130 * sd + 107) {Q : Option Value → q_H → Prop} (K0 : ∀ h1, q_rf sd (420 * sd + 420) BB h h1 → q_rb h1 K sd e → Q none h1) : q_Ex l g 5 mX10_tellLaw 12 [(0, .ref 124), (1, .int kx), (2, .int fx), (3, .int (nI i))] [] h Q := by
  obtain ⟨hs, h19, hsd, h13, h14, he1, he5, ⟨t1, ht1, h11⟩, ⟨n1, hn1, h39⟩, b1, h33b, hb1, hb2⟩ := id a
  have hBB : b1 = BB := (nI_eq (by omega) (by omega)).mp (h33b.symm.trans h33)
  subst hBB
  refine xe_aload_n dX10_tellLaw_12 rfl ?_
  refine xe_getIv dX10_tellLaw_13 flX10_198 (st124 hs) (by decide) rfl (v := nI e.1) (h13) ?_
  refine xn_if_ne (tgt := 129) dX10_tellLaw_16 rfl (by omega) (fun c1 => ?_) (fun c1 => ?_)
  · refine xe_aload_n dX10_tellLaw_129 rfl ?_
    refine xe_getP dX10_tellLaw_130 flX10_76 (st124 hs) (by decide) rfl (sp124_34 hs) ?_
    refine xe_aload_n dX10_tellLaw_133 rfl ?_
    refine xe_getIv dX10_tellLaw_134 flX10_237 (st124 hs) (by decide) rfl (v := nI b1) (h33) ?_
    refine xe_iconst dX10_tellLaw_137 kc_0 ?_
    refine xn_zast dX10_tellLaw_138 (st144 hs) (by omega) (by decide) rfl ?_
    refine xe_aload_n dX10_tellLaw_139 rfl ?_
    refine xe_callVVq (d' := 4) (y' := mX10_term) dX10_tellLaw_140 mlX10_292 mvX10_term rfl (st124 hs) (by decide) rfl (by decide) (by decide) (Nat.le_of_ble_eq_true rfl) (r_term_b l g _ (BB := b1) (rb_w (by decide) (by decide) a) (by exact h33) (by omega)) rfl (fun ht2 hq => ?_)
    obtain ⟨f2, a2, k33⟩ := hq
    obtain ⟨hs, h19, -, h13, -, -, -, -, -, -⟩ := id a2
    refine xe_aload_n dX10_tellLaw_143 rfl ?_
    refine xe_iconst dX10_tellLaw_144 kc_4 ?_
    refine xe_callVV (d' := 2) (y' := mX10_must) dX10_tellLaw_145 mlX10_275 mvX10_must rfl (st124 hs) (by decide) rfl (by decide) (by decide) (Nat.le_of_ble_eq_true rfl) (c_X10_must_b l g _ (by exact hs) (by exact h13) (by omega) he5 _) rfl ?_
    refine xe_aload_n dX10_tellLaw_148 rfl ?_
    refine xe_getIv dX10_tellLaw_149 flX10_198 (st124 hs) (by decide) rfl (v := nI e.1) (h13) ?_
    refine xn_if_gt (tgt := 159) dX10_tellLaw_152 rfl (by omega) (fun c3 => ?_) (fun c3 => ?_)
    · refine xe_return dX10_tellLaw_159 rfl ?_
      exact K0 _ (rf_t (rf_b rf_r (by decide) (by decide) (Nat.le_refl _) (by omega)) f2 (Nat.le_refl _) (Nat.le_refl _)) a2
    · omega
  · omega
theorem tl_b120 (l : Launch) (g : q_GP) {K : q_TK} {sd BB i : Nat} {e : Nat × Nat} {kx fx : Int32} (h : q_H) (a : q_rb h K sd e) (h33 : q_I h 124 33 = nI BB) (hB : BB ≤ 130 * sd + 107) {Q : Option Value → q_H → Prop} (K0 : ∀ h1, q_rf sd (420 * sd + 420) BB h h1 → q_rb h1 K sd e → Q none h1) : q_Ex l g 5 mX10_tellLaw 120 [(0, .ref 124), (1, .int kx), (2, .int fx), (3, .int (nI i))] [] h Q := by
  obtain ⟨hs, h19, hsd, h13, h14, he1, he5, ⟨t1, ht1, h11⟩, ⟨n1, hn1, h39⟩, b1, h33b, hb1, hb2⟩ := id a
  have hBB : b1 = BB := (nI_eq (by omega) (by omega)).mp (h33b.symm.trans h33)
  subst hBB
  refine xe_aload_n dX10_tellLaw_120 rfl ?_
  refine xe_bipush dX10_tellLaw_121 kb_30 ?_
  refine xe_callVV (d' := 2) (y' := mX10_must) dX10_tellLaw_123 mlX10_275 mvX10_must rfl (st124 hs) (by decide) rfl (by decide) (by decide) (Nat.le_of_ble_eq_true rfl) (c_X10_must_b l g _ (by exact hs) (by exact h13) (by omega) he5 _) rfl ?_
  refine xe_goto (tgt := 12) dX10_tellLaw_126 rfl ?_
  refine xe_locals (L' := [(0, .ref 124), (1, .int kx), (2, .int fx), (3, .int (nI i))]) (And.intro rfl (And.intro rfl (And.intro rfl (And.intro rfl trivial)))) ?_
  exact tl_b12 l g _ a h33 hB K0
theorem tl_b110 (l : Launch) (g : q_GP) {K : q_TK} {sd BB i : Nat} {e : Nat × Nat} {kx fx : Int32} (h : q_H) (a : q_rb h K sd e) (h33 : q_I h 124 33 = nI BB) (hB : BB ≤ 130 * sd + 106) {Q : Option Value → q_H → Prop} (K0 : ∀ h1, q_rf sd (420 * sd + 420) BB h h1 → q_rb h1 K sd e → Q none h1) : q_Ex l g 5 mX10_tellLaw 110 [(0, .ref 124), (1, .int kx), (2, .int fx), (3, .int (nI i))] [] h Q := by
  obtain ⟨hs, h19, hsd, h13, h14, he1, he5, ⟨t1, ht1, h11⟩, ⟨n1, hn1, h39⟩, b1, h33b, hb1, hb2⟩ := id a
  have hBB : b1 = BB := (nI_eq (by omega) (by omega)).mp (h33b.symm.trans h33)
  subst hBB
  refine xe_aload_n dX10_tellLaw_110 rfl ?_
  refine xe_bipush dX10_tellLaw_111 kb_29 ?_
  refine xe_callVV (d' := 2) (y' := mX10_must) dX10_tellLaw_113 mlX10_275 mvX10_must rfl (st124 hs) (by decide) rfl (by decide) (by decide) (Nat.le_of_ble_eq_true rfl) (c_X10_must_b l g _ (by exact hs) (by exact h13) (by omega) he5 _) rfl ?_
  refine xe_aload_n dX10_tellLaw_116 rfl ?_
  refine xe_callVVq (d' := 4) (y' := mX10_term) dX10_tellLaw_117 mlX10_292 mvX10_term rfl (st124 hs) (by decide) rfl (by decide) (by decide) (Nat.le_of_ble_eq_true rfl) (r_term_b l g _ (BB := b1) a (by exact h33) (by omega)) rfl (fun ht1 hq => ?_)
  obtain ⟨f2, a2, k33⟩ := hq
  obtain ⟨hs, h19, -, h13, -, -, -, -, -, -⟩ := id a2
  refine xe_locals (L' := [(0, .ref 124), (1, .int kx), (2, .int fx), (3, .int (nI i))]) (And.intro rfl (And.intro rfl (And.intro rfl (And.intro rfl trivial)))) ?_
  exact tl_b120 l g _ a2 k33 (by omega) (fun h1 f3 a3 => K0 h1 (rf_t f2 (rf_m f3 (Nat.le_refl _) (Nat.le_refl _)) (Nat.le_refl _) (by omega)) a3)
theorem tl_b86 (l : Launch) (g : q_GP) {K : q_TK} {sd BB i : Nat} {e : Nat × Nat} {kx fx : Int32} (h : q_H) (a : q_rb h K sd e) (h33 : q_I h 124 33 = nI BB) (hB : BB ≤ 130 * sd + 106) {Q : Option Value → q_H → Prop} (K0 : ∀ h1, q_rf sd (420 * sd + 420) BB h h1 → q_rb h1 K sd e → Q none h1) : q_Ex l g 5 mX10_tellLaw 86 [(0, .ref 124), (1, .int kx), (2, .int fx), (3, .int (nI i))] [] h Q := by
  obtain ⟨hs, h19, hsd, h13, h14, he1, he5, ⟨t1, ht1, h11⟩, ⟨n1, hn1, h39⟩, b1, h33b, hb1, hb2⟩ := id a
  have hBB : b1 = BB := (nI_eq (by omega) (by omega)).mp (h33b.symm.trans h33)
  subst hBB
  refine xe_aload_n dX10_tellLaw_86 rfl ?_
  refine xe_getP dX10_tellLaw_87 flX10_83 (st124 hs) (by decide) rfl (sp124_36 hs) ?_
  refine xe_aload_n dX10_tellLaw_90 rfl ?_
  refine xe_getIv dX10_tellLaw_91 flX10_237 (st124 hs) (by decide) rfl (v := nI b1) (h33) ?_
  refine xe_aload_n dX10_tellLaw_94 rfl ?_
  refine xe_getIv dX10_tellLaw_95 flX10_240 (st124 hs) (by decide) rfl (v := nI n1) (h39) ?_
  refine xn_iast dX10_tellLaw_98 (st146 hs) (by omega) (by decide) ?_
  refine xe_aload_n dX10_tellLaw_99 rfl ?_
  refine xe_getIv dX10_tellLaw_100 flX10_198 (st124 hs) (by decide) rfl (v := nI e.1) (h13) ?_
  refine xn_if_ne (tgt := 110) dX10_tellLaw_103 rfl (by omega) (fun c1 => ?_) (fun c1 => ?_)
  · refine xe_locals (L' := [(0, .ref 124), (1, .int kx), (2, .int fx), (3, .int (nI i))]) (And.intro rfl (And.intro rfl (And.intro rfl (And.intro rfl trivial)))) ?_
    exact tl_b110 l g _ (by exact rb_w (by decide) (by decide) a) (by exact h33) hB (fun h1 f3 a3 => K0 h1 (rf_t (rf_b rf_r (by decide) (by decide) (Nat.le_refl _) (by omega)) f3 (Nat.le_refl _) (Nat.le_refl _)) a3)
  · omega
theorem tl_b80 (l : Launch) (g : q_GP) {K : q_TK} {sd BB i : Nat} {e : Nat × Nat} {kx fx : Int32} (h : q_H) (a : q_rb h K sd e) (h33 : q_I h 124 33 = nI BB) (hB : BB ≤ 130 * sd + 106) {Q : Option Value → q_H → Prop} (K0 : ∀ h1, q_rf sd (420 * sd + 420) BB h h1 → q_rb h1 K sd e → Q none h1) : q_Ex l g 5 mX10_tellLaw 80 [(0, .ref 124), (1, .int kx), (2, .int fx), (3, .int (nI i))] [] h Q := by
  obtain ⟨hs, h19, hsd, h13, h14, he1, he5, ⟨t1, ht1, h11⟩, ⟨n1, hn1, h39⟩, b1, h33b, hb1, hb2⟩ := id a
  have hBB : b1 = BB := (nI_eq (by omega) (by omega)).mp (h33b.symm.trans h33)
  subst hBB
  refine xe_aload_n dX10_tellLaw_80 rfl ?_
  refine xe_bipush dX10_tellLaw_81 kb_13 ?_
  refine xe_callVV (d' := 2) (y' := mX10_must) dX10_tellLaw_83 mlX10_275 mvX10_must rfl (st124 hs) (by decide) rfl (by decide) (by decide) (Nat.le_of_ble_eq_true rfl) (c_X10_must_b l g _ (by exact hs) (by exact h13) (by omega) he5 _) rfl ?_
  refine xe_locals (L' := [(0, .ref 124), (1, .int kx), (2, .int fx), (3, .int (nI i))]) (And.intro rfl (And.intro rfl (And.intro rfl (And.intro rfl trivial)))) ?_
  exact tl_b86 l g _ a h33 hB K0
/-- the codes of branch b + j begin on side sd -/
def q_lo (sd : Nat) (h : q_H) (b n j : Nat) : Prop := ∃ y, 420 * sd ≤ y ∧ y ≤ 840 ∧ q_I h (if j < n then 145 else 147) (b + j) = nI y
theorem lo_e {sd b y : Nat} {h : q_H} (h1 : 420 * sd ≤ y) (h2 : y ≤ 840) (e : q_I h 147 b = nI y) : q_lo sd h b 0 0 := ⟨y, h1, h2, e⟩
theorem lo_0 {sd b y n : Nat} {h : q_H} (h1 : 420 * sd ≤ y) (h2 : y ≤ 840) (e : q_I h 145 b = nI y) : q_lo sd h b (n + 1) 0 := ⟨y, h1, h2, by rw [if_pos (Nat.succ_pos n)]; exact e⟩
theorem lo_s {sd b n j : Nat} {h : q_H} (a : q_lo sd h (b + 1) n j) : q_lo sd h b (n + 1) (j + 1) := by
  obtain ⟨y, h1, h2, e⟩ := a
  refine ⟨y, h1, h2, ?_⟩
  rw [show b + (j + 1) = b + 1 + j by omega]
  by_cases q : j < n
  · rw [if_pos (by omega)]
    rwa [if_pos q] at e
  · rw [if_neg (by omega)]
    rwa [if_neg q] at e
theorem lo_k {sd b n j : Nat} {h h1 : q_H} (e1 : q_I h1 145 (b + j) = q_I h 145 (b + j)) (e2 : q_I h1 147 (b + j) = q_I h 147 (b + j)) (a : q_lo sd h b n j) : q_lo sd h1 b n j := by
  obtain ⟨y, h1, h2, e⟩ := a
  refine ⟨y, h1, h2, ?_⟩
  by_cases q : j < n
  · rw [if_pos q]
    rw [if_pos q] at e
    exact e1.trans e
  · rw [if_neg q]
    rw [if_neg q] at e
    exact e2.trans e
theorem tm_inl {l : Launch} {g : q_GP} {d : Nat} {y : q_MI} {as : List Value} {h h' : q_H} {K : q_TK} {m sd cc bb : Nat} {o : q_XR} {er : Nat × Nat} (e : o = .inl er) (C : q_Ct l g d y as h (q_tmA h' K m sd cc bb o)) : q_Ct l g d y as h (fun r h1 => r = none ∧ (q_rf sd cc bb h' h1 ∧ q_rb h1 K sd er ∧ q_I h1 124 33 = nI (bb + 1))) := by
  rw [e] at C
  exact C
theorem tm_inr {l : Launch} {g : q_GP} {d : Nat} {y : q_MI} {as : List Value} {h h' : q_H} {K : q_TK} {m sd cc bb : Nat} {o : q_XR} {x : List (Nat × Int32) × Nat} (e : o = .inr x) (C : q_Ct l g d y as h (q_tmA h' K m sd cc bb o)) : q_Ct l g d y as h (fun r h1 => r = none ∧ (q_rf sd cc bb h' h1 ∧ q_rs h1 K m sd x.2 (cc + x.1.length) (bb + 1) ∧ q_sg (q_I h1 149) (q_I h1 150) cc x.1 ∧ q_I h1 147 bb = nI cc ∧ q_I h1 148 bb = nI (cc + x.1.length) ∧ q_I h1 144 = q_I h' 144 ∧ q_I h1 145 = q_I h' 145 ∧ q_I h1 146 = q_I h' 146)) := by
  rw [e] at C
  exact C
theorem law_r (l : Launch) (g : q_GP) {K : q_TK} {m sd : Nat} {kx fx : Int32} : ∀ (k i : Nat) (h : q_H) (t cc bb : Nat) (Q : Option Value → q_H → Prop), q_rs h K m sd t cc bb → 4 * (bb - 130 * sd) + 2 ≤ t → i + k = 4 →
    (∀ (rows : List q_ROW) (e : List (Nat × Int32)) (t' cc' : Nat) (h1 : q_H), tx_ifs K k [] t = .inr ((rows, e), t') → q_rf sd cc bb h h1 → q_rs h1 K m sd t' cc' (bb + rows.length + 1) → 4 * (bb + rows.length + 1 - 130 * sd) ≤ t' → q_br h1 bb rows e → cc ≤ cc' → (∀ j, j ≤ rows.length → (∃ z, z ≤ cc' ∧ q_I h1 148 (bb + j) = nI z) ∧ q_lo sd h1 bb rows.length j) → ∀ i', q_Ex l g 5 mX10_tellLaw 148 [(0, .ref 124), (1, .int kx), (2, .int fx), (3, .int (nI i'))] [] h1 Q) →
    (∀ er h1, tx_ifs K k [] t = .inl er → q_rf sd cc bb h h1 → q_rb h1 K sd er → Q none h1) → q_Ex l g 5 mX10_tellLaw 12 [(0, .ref 124), (1, .int kx), (2, .int fx), (3, .int (nI i))] [] h Q := by
  intro k
  induction k with
  | zero =>
    intro i h t cc bb Q a hbt hik K1 K0
    have hs := a.1
    have hR := a.2.1
    have h11 := hR.2.2.1
    have h13 := hR.2.2.2
    have h33 := a.2.2.2.2.2.1
    have h39 := a.2.2.2.2.2.2.1
    have hsd := a.2.2.2.2.1
    have hc1 := a.2.2.2.2.2.2.2.1
    have hc2 := a.2.2.2.2.2.2.2.2.1
    have hb1 := a.2.2.2.2.2.2.2.2.2.1
    have hb2 := a.2.2.2.2.2.2.2.2.2.2
    have hm4 := hR.1.1
    have htm := hR.2.1
    rw [tx_ifs] at K1 K0
    by_cases h28 : tk_T K t = 28
    · rw [if_pos h28] at K1 K0
      refine xe_aload_n dX10_tellLaw_12 rfl ?_
      refine xe_getIv dX10_tellLaw_13 flX10_198 (st124 hs) (by decide) rfl (v := nI 0) (h13) ?_
      refine xn_if_ne (tgt := 129) dX10_tellLaw_16 rfl (by omega) (fun c1 => ?_) (fun c1 => ?_)
      · omega
      · refine xe_aload_n dX10_tellLaw_19 rfl ?_
        refine xe_bipush dX10_tellLaw_20 kb_28 ?_
        refine xe_callVI (d' := 0) (y' := mX10_is) dX10_tellLaw_22 mlX10_216 mvX10_is rfl (st124 hs) (by decide) rfl (by decide) (by decide) (Nat.le_of_ble_eq_true rfl) (c_X10_is_1 l g _ (by exact hs) hR h28) rfl ?_
        refine xn_if_eq (tgt := 129) dX10_tellLaw_25 rfl (by omega) (fun c2 => ?_) (fun c2 => ?_)
        · omega
        · refine xe_iload_n dX10_tellLaw_28 rfl ?_
          refine xe_iconst dX10_tellLaw_29 kc_4 ?_
          refine xn_icmp_ne (tgt := 38) dX10_tellLaw_30 rfl (by omega) (by omega) (fun c3 => ?_) (fun c3 => ?_)
          · omega
          · refine xe_aload_n dX10_tellLaw_33 rfl ?_
            refine xe_iconst dX10_tellLaw_34 kc_2 ?_
            refine xe_callVV (d' := 0) (y' := mX10_fail) dX10_tellLaw_35 mlX10_213 mvX10_fail rfl (st124 hs) (by decide) rfl (by decide) (by decide) (Nat.le_of_ble_eq_true rfl) (c_X10_fail_0 l g _ (by exact hs) hR _) rfl ?_
            refine xe_aload_n dX10_tellLaw_38 rfl ?_
            refine xe_getIv dX10_tellLaw_39 flX10_198 (st124 hs) (by decide) rfl (v := nI 2) (rfl) ?_
            refine xn_if_le (tgt := 46) dX10_tellLaw_42 rfl (by omega) (fun c4 => ?_) (fun c4 => ?_)
            · omega
            · refine xe_return dX10_tellLaw_45 rfl ?_
              exact K0 (2, t) _ rfl (rf_o rf_r (fun k x1 x2 x3 x4 x5 x6 x7 => (pk_un x4).trans (pk_un x3))) (rs_f (e := (2, t)) a (show 1 ≤ 2 by decide) (show 2 ≤ 5 by decide))
    · skip
      rw [if_neg h28] at K1 K0
      have aw : q_rs (q_wI h 144 (upd (q_I h 144) bb (nI 0))) K m sd t cc bb := rs_w (by decide) (by decide) a
      have fw : q_rf sd cc bb h (q_wI h 144 (upd (q_I h 144) bb (nI 0))) := rf_b rf_r (by decide) (by decide) (Nat.le_refl _) (by omega)
      cases hu : tx_sum K 6 t with
      | inl er =>
        refine xe_aload_n dX10_tellLaw_12 rfl ?_
        refine xe_getIv dX10_tellLaw_13 flX10_198 (st124 hs) (by decide) rfl (v := nI 0) (h13) ?_
        refine xn_if_ne (tgt := 129) dX10_tellLaw_16 rfl (by omega) (fun c1 => ?_) (fun c1 => ?_)
        · omega
        · refine xe_aload_n dX10_tellLaw_19 rfl ?_
          refine xe_bipush dX10_tellLaw_20 kb_28 ?_
          refine xe_callVI (d' := 0) (y' := mX10_is) dX10_tellLaw_22 mlX10_216 mvX10_is rfl (st124 hs) (by decide) rfl (by decide) (by decide) (Nat.le_of_ble_eq_true rfl) (c_X10_is_0 l g _ (by exact hs) hR (by decide) (h28)) rfl ?_
          refine xn_if_eq (tgt := 129) dX10_tellLaw_25 rfl (by omega) (fun c2 => ?_) (fun c2 => ?_)
          · refine xe_aload_n dX10_tellLaw_129 rfl ?_
            refine xe_getP dX10_tellLaw_130 flX10_76 (st124 hs) (by decide) rfl (sp124_34 hs) ?_
            refine xe_aload_n dX10_tellLaw_133 rfl ?_
            refine xe_getIv dX10_tellLaw_134 flX10_237 (st124 hs) (by decide) rfl (v := nI bb) (h33) ?_
            refine xe_iconst dX10_tellLaw_137 kc_0 ?_
            refine xn_zast dX10_tellLaw_138 (st144 hs) (by omega) (by decide) rfl ?_
            refine xe_aload_n dX10_tellLaw_139 rfl ?_
            refine xe_callVVq (d' := 4) (y' := mX10_term) dX10_tellLaw_140 mlX10_292 mvX10_term rfl (st124 hs) (by decide) rfl (by decide) (by decide) (Nat.le_of_ble_eq_true rfl) (tm_inl hu (r_term l g _ aw (by omega))) rfl (fun h1 hq => ?_)
            obtain ⟨f1, a1, k33⟩ := hq
            obtain ⟨hs, h19, -, h13, -, he1, he5, -, -, -⟩ := id a1
            refine xe_aload_n dX10_tellLaw_143 rfl ?_
            refine xe_iconst dX10_tellLaw_144 kc_4 ?_
            refine xe_callVV (d' := 2) (y' := mX10_must) dX10_tellLaw_145 mlX10_275 mvX10_must rfl (st124 hs) (by decide) rfl (by decide) (by decide) (Nat.le_of_ble_eq_true rfl) (c_X10_must_b l g _ (by exact hs) (by exact h13) (by omega) he5 _) rfl ?_
            refine xe_aload_n dX10_tellLaw_148 rfl ?_
            refine xe_getIv dX10_tellLaw_149 flX10_198 (st124 hs) (by decide) rfl (v := nI er.1) (h13) ?_
            refine xn_if_gt (tgt := 159) dX10_tellLaw_152 rfl (by omega) (fun c3 => ?_) (fun c3 => ?_)
            · refine xe_return dX10_tellLaw_159 rfl ?_
              exact K0 er h1 (by rw [hu]; rfl) (rf_t fw f1 (Nat.le_refl _) (Nat.le_refl _)) a1
            · omega
          · omega
      | inr x =>
        obtain ⟨g1, g2, g3, g4, g5⟩ := tx_sum_ok K 6 _ _ hu
        have wfx := tx_sum_wf hu
        rw [hu] at K1 K0
        have K1 : ∀ (rows : List q_ROW) (e : List (Nat × Int32)) (t' cc' : Nat) (h1 : q_H), (tx_b (tx_ck (tk_T K) 4 x.2) (.inr (([], x.1), x.2 + 1)) : (Nat × Nat) ⊕ (q_lawT × Nat)) = .inr ((rows, e), t') → q_rf sd cc bb h h1 → q_rs h1 K m sd t' cc' (bb + rows.length + 1) → 4 * (bb + rows.length + 1 - 130 * sd) ≤ t' → q_br h1 bb rows e → cc ≤ cc' → (∀ j, j ≤ rows.length → (∃ z, z ≤ cc' ∧ q_I h1 148 (bb + j) = nI z) ∧ q_lo sd h1 bb rows.length j) → ∀ i', q_Ex l g 5 mX10_tellLaw 148 [(0, .ref 124), (1, .int kx), (2, .int fx), (3, .int (nI i'))] [] h1 Q := K1
        have K0 : ∀ er h1, (tx_b (tx_ck (tk_T K) 4 x.2) (.inr (([], x.1), x.2 + 1)) : (Nat × Nat) ⊕ (q_lawT × Nat)) = .inl er → q_rf sd cc bb h h1 → q_rb h1 K sd er → Q none h1 := K0
        cases hc : tx_ck (tk_T K) 4 x.2 with
        | some er =>
          refine xe_aload_n dX10_tellLaw_12 rfl ?_
          refine xe_getIv dX10_tellLaw_13 flX10_198 (st124 hs) (by decide) rfl (v := nI 0) (h13) ?_
          refine xn_if_ne (tgt := 129) dX10_tellLaw_16 rfl (by omega) (fun c1 => ?_) (fun c1 => ?_)
          · omega
          · refine xe_aload_n dX10_tellLaw_19 rfl ?_
            refine xe_bipush dX10_tellLaw_20 kb_28 ?_
            refine xe_callVI (d' := 0) (y' := mX10_is) dX10_tellLaw_22 mlX10_216 mvX10_is rfl (st124 hs) (by decide) rfl (by decide) (by decide) (Nat.le_of_ble_eq_true rfl) (c_X10_is_0 l g _ (by exact hs) hR (by decide) (h28)) rfl ?_
            refine xn_if_eq (tgt := 129) dX10_tellLaw_25 rfl (by omega) (fun c2 => ?_) (fun c2 => ?_)
            · refine xe_aload_n dX10_tellLaw_129 rfl ?_
              refine xe_getP dX10_tellLaw_130 flX10_76 (st124 hs) (by decide) rfl (sp124_34 hs) ?_
              refine xe_aload_n dX10_tellLaw_133 rfl ?_
              refine xe_getIv dX10_tellLaw_134 flX10_237 (st124 hs) (by decide) rfl (v := nI bb) (h33) ?_
              refine xe_iconst dX10_tellLaw_137 kc_0 ?_
              refine xn_zast dX10_tellLaw_138 (st144 hs) (by omega) (by decide) rfl ?_
              refine xe_aload_n dX10_tellLaw_139 rfl ?_
              refine xe_callVVq (d' := 4) (y' := mX10_term) dX10_tellLaw_140 mlX10_292 mvX10_term rfl (st124 hs) (by decide) rfl (by decide) (by decide) (Nat.le_of_ble_eq_true rfl) (tm_inr hu (r_term l g _ aw (by omega))) rfl (fun h1 hq => ?_)
              obtain ⟨f1, a1, s1, e147, e148, e144, e145, e146⟩ := hq
              have hs : q_Stat h1 := a1.1
              have hR := a1.2.1
              have h11 := hR.2.2.1
              have h13 := hR.2.2.2
              have h33 := a1.2.2.2.2.2.1
              have h39 := a1.2.2.2.2.2.2.1
              have htm := hR.2.1
              refine xe_aload_n dX10_tellLaw_143 rfl ?_
              refine xe_iconst dX10_tellLaw_144 kc_4 ?_
              refine xe_callVV (d' := 2) (y' := mX10_must) dX10_tellLaw_145 mlX10_275 mvX10_must rfl (st124 hs) (by decide) rfl (by decide) (by decide) (Nat.le_of_ble_eq_true rfl) (c_X10_must_f l g _ (by exact hs) (t := x.2) hR (k := 4) (by decide) (f := er.1) (u := er.2) hc) rfl ?_
              refine xe_aload_n dX10_tellLaw_148 rfl ?_
              refine xe_getIv dX10_tellLaw_149 flX10_198 (st124 hs) (by decide) rfl (v := nI er.1) (rfl) ?_
              have he := ck_15 hc
              refine xn_if_gt (tgt := 159) dX10_tellLaw_152 rfl (by omega) (fun c3 => ?_) (fun c3 => ?_)
              · refine xe_return dX10_tellLaw_159 rfl ?_
                exact K0 er _ (by rw [hc]; rfl) (rf_o (rf_t fw f1 (Nat.le_refl _) (Nat.le_refl _)) (fun k x1 x2 x3 x4 x5 x6 x7 => (pk_un x4).trans (pk_un x3))) (rs_f a1 he.1 he.2)
              · omega
            · omega
        | none =>
          refine xe_aload_n dX10_tellLaw_12 rfl ?_
          refine xe_getIv dX10_tellLaw_13 flX10_198 (st124 hs) (by decide) rfl (v := nI 0) (h13) ?_
          refine xn_if_ne (tgt := 129) dX10_tellLaw_16 rfl (by omega) (fun c1 => ?_) (fun c1 => ?_)
          · omega
          · refine xe_aload_n dX10_tellLaw_19 rfl ?_
            refine xe_bipush dX10_tellLaw_20 kb_28 ?_
            refine xe_callVI (d' := 0) (y' := mX10_is) dX10_tellLaw_22 mlX10_216 mvX10_is rfl (st124 hs) (by decide) rfl (by decide) (by decide) (Nat.le_of_ble_eq_true rfl) (c_X10_is_0 l g _ (by exact hs) hR (by decide) (h28)) rfl ?_
            refine xn_if_eq (tgt := 129) dX10_tellLaw_25 rfl (by omega) (fun c2 => ?_) (fun c2 => ?_)
            · refine xe_aload_n dX10_tellLaw_129 rfl ?_
              refine xe_getP dX10_tellLaw_130 flX10_76 (st124 hs) (by decide) rfl (sp124_34 hs) ?_
              refine xe_aload_n dX10_tellLaw_133 rfl ?_
              refine xe_getIv dX10_tellLaw_134 flX10_237 (st124 hs) (by decide) rfl (v := nI bb) (h33) ?_
              refine xe_iconst dX10_tellLaw_137 kc_0 ?_
              refine xn_zast dX10_tellLaw_138 (st144 hs) (by omega) (by decide) rfl ?_
              refine xe_aload_n dX10_tellLaw_139 rfl ?_
              refine xe_callVVq (d' := 4) (y' := mX10_term) dX10_tellLaw_140 mlX10_292 mvX10_term rfl (st124 hs) (by decide) rfl (by decide) (by decide) (Nat.le_of_ble_eq_true rfl) (tm_inr hu (r_term l g _ aw (by omega))) rfl (fun h1 hq => ?_)
              obtain ⟨f1, a1, s1, e147, e148, e144, e145, e146⟩ := hq
              have hs : q_Stat h1 := a1.1
              have hR := a1.2.1
              have h11 := hR.2.2.1
              have h13 := hR.2.2.2
              have h33 := a1.2.2.2.2.2.1
              have h39 := a1.2.2.2.2.2.2.1
              have htm := hR.2.1
              refine xe_aload_n dX10_tellLaw_143 rfl ?_
              refine xe_iconst dX10_tellLaw_144 kc_4 ?_
              refine xe_callVV (d' := 2) (y' := mX10_must) dX10_tellLaw_145 mlX10_275 mvX10_must rfl (st124 hs) (by decide) rfl (by decide) (by decide) (Nat.le_of_ble_eq_true rfl) (c_X10_must_t l g _ (by exact hs) (t := x.2) hR (k := 4) hc) rfl ?_
              have hgo : x.2 + 1 ≤ m := rt_gn hR.1 htm hc (by decide)
              refine xe_locals (L' := [(0, .ref 124), (1, .int kx), (2, .int fx), (3, .int (nI i))]) (And.intro rfl (And.intro rfl (And.intro rfl (And.intro rfl trivial)))) ?_
              refine K1 [] x.1 (x.2 + 1) (cc + x.1.length) _ (by rw [hc]; rfl) (rf_o (rf_t fw f1 (Nat.le_refl _) (Nat.le_refl _)) (fun k x1 x2 x3 x4 x5 x6 x7 => pk_un x1)) (rs_go a1 hgo) (by show 4 * (bb + 0 + 1 - 130 * sd) ≤ x.2 + 1; omega) ⟨?_, cc, e147, e148, by omega, s1, q_wf_up (by decide) _ _ wfx⟩ (Nat.le_add_right _ _) (fun j hj => by rw [show j = 0 from Nat.le_zero.mp hj]; exact ⟨⟨_, Nat.le_refl _, e148⟩, lo_e hc1 (by omega) e147⟩) i
              exact (congrFun e144 bb).trans pk_us
            · omega
  | succ k ih =>
    intro i h t cc bb Q a hbt hik K1 K0
    have hs := a.1
    have hR := a.2.1
    have h11 := hR.2.2.1
    have h13 := hR.2.2.2
    have h33 := a.2.2.2.2.2.1
    have h39 := a.2.2.2.2.2.2.1
    have hsd := a.2.2.2.2.1
    have hc1 := a.2.2.2.2.2.2.2.1
    have hc2 := a.2.2.2.2.2.2.2.2.1
    have hb1 := a.2.2.2.2.2.2.2.2.2.1
    have hb2 := a.2.2.2.2.2.2.2.2.2.2
    have hm4 := hR.1.1
    have htm := hR.2.1
    rw [tx_ifs] at K1 K0
    by_cases h28 : tk_T K t = 28
    · rw [if_pos h28] at K1 K0
      by_cases h400 : 400 ≤ t
      · rw [tx_ck_2 h28 h400] at K0
        refine xe_aload_n dX10_tellLaw_12 rfl ?_
        refine xe_getIv dX10_tellLaw_13 flX10_198 (st124 hs) (by decide) rfl (v := nI 0) (h13) ?_
        refine xn_if_ne (tgt := 129) dX10_tellLaw_16 rfl (by omega) (fun c1 => ?_) (fun c1 => ?_)
        · omega
        · refine xe_aload_n dX10_tellLaw_19 rfl ?_
          refine xe_bipush dX10_tellLaw_20 kb_28 ?_
          refine xe_callVI (d' := 0) (y' := mX10_is) dX10_tellLaw_22 mlX10_216 mvX10_is rfl (st124 hs) (by decide) rfl (by decide) (by decide) (Nat.le_of_ble_eq_true rfl) (c_X10_is_1 l g _ (by exact hs) hR h28) rfl ?_
          refine xn_if_eq (tgt := 129) dX10_tellLaw_25 rfl (by omega) (fun c2 => ?_) (fun c2 => ?_)
          · omega
          · refine xe_iload_n dX10_tellLaw_28 rfl ?_
            refine xe_iconst dX10_tellLaw_29 kc_4 ?_
            refine xn_icmp_ne (tgt := 38) dX10_tellLaw_30 rfl (by omega) (by omega) (fun c3 => ?_) (fun c3 => ?_)
            · refine xe_aload_n dX10_tellLaw_38 rfl ?_
              refine xe_getIv dX10_tellLaw_39 flX10_198 (st124 hs) (by decide) rfl (v := nI 0) (h13) ?_
              refine xn_if_le (tgt := 46) dX10_tellLaw_42 rfl (by omega) (fun c4 => ?_) (fun c4 => ?_)
              · refine xn_iinc dX10_tellLaw_46 rfl kc_1 ?_
                refine xe_aload_n dX10_tellLaw_49 rfl ?_
                refine xe_callVV (d' := 1) (y' := mX10_goesOn) dX10_tellLaw_50 mlX10_219 mvX10_goesOn rfl (st124 hs) (by decide) rfl (by decide) (by decide) (Nat.le_of_ble_eq_true rfl) (c_X10_goesOn_f l g _ (by exact hs) hR (by omega)) rfl ?_
                refine xe_aload_n dX10_tellLaw_53 rfl ?_
                refine xe_getP dX10_tellLaw_54 flX10_76 (st124 hs) (by decide) rfl (sp124_34 hs) ?_
                refine xe_aload_n dX10_tellLaw_57 rfl ?_
                refine xe_getIv dX10_tellLaw_58 flX10_237 (st124 hs) (by decide) rfl (v := nI bb) (h33) ?_
                refine xe_iconst dX10_tellLaw_61 kc_1 ?_
                refine xn_zast dX10_tellLaw_62 (st144 hs) (by omega) (by decide) rfl ?_
                refine xe_aload_n dX10_tellLaw_63 rfl ?_
                refine xe_getP dX10_tellLaw_64 flX10_80 (st124 hs) (by decide) rfl (sp124_35 hs) ?_
                refine xe_aload_n dX10_tellLaw_67 rfl ?_
                refine xe_getIv dX10_tellLaw_68 flX10_237 (st124 hs) (by decide) rfl (v := nI bb) (h33) ?_
                refine xe_aload_n dX10_tellLaw_71 rfl ?_
                refine xe_getIv dX10_tellLaw_72 flX10_240 (st124 hs) (by decide) rfl (v := nI cc) (h39) ?_
                refine xn_iast dX10_tellLaw_75 (st145 hs) (by omega) (by decide) ?_
                refine xe_aload_n dX10_tellLaw_76 rfl ?_
                refine xe_callVVq (d' := 3) (y' := mX10_expression) dX10_tellLaw_77 mlX10_289 mvX10_expression rfl (st124 hs) (by decide) rfl (by decide) (by decide) (Nat.le_of_ble_eq_true rfl) (r_expr_b l g _ (rb_w (by decide) (by decide) (rb_w (by decide) (by decide) (rs_f (e := (2, t)) a (show 1 ≤ 2 by decide) (show 2 ≤ 5 by decide))))) rfl (fun hx1 hq => ?_)
                obtain ⟨a1, rfl⟩ := hq
                refine xe_locals (L' := [(0, .ref 124), (1, .int kx), (2, .int fx), (3, .int (nI (i + 1)))]) (And.intro rfl (And.intro rfl (And.intro rfl (And.intro rfl trivial)))) ?_
                exact tl_b80 l g _ a1 h33 (by omega) (fun h1 f3 a3 => K0 (2, t) h1 rfl (rf_t (rf_o (rf_b (rf_b (rf_o rf_r (fun k x1 x2 x3 x4 x5 x6 x7 => (pk_un x4).trans (pk_un x3))) (by decide) (by decide) (Nat.le_refl _) (by omega)) (by decide) (by decide) (Nat.le_refl _) (by omega)) (fun k x1 x2 x3 x4 x5 x6 x7 => pk_un x7)) (rf_m f3 (Nat.le_refl _) (Nat.le_refl _)) (by omega) (Nat.le_refl _)) a3)
              · omega
            · omega
      · have hck := tx_ck_0 h28 (show t < 400 by omega)
        rw [hck] at K1 K0
        have hgo := rt_gn hR.1 htm hck (by decide)
        have aA : q_rs (q_wI (q_wI (q_wI h 124 (upd (q_I h 124) 11 (nI (t + 1)))) 144 (upd (q_I h 144) bb (nI 1))) 145 (upd (q_I h 145) bb (nI cc))) K m sd (t + 1) cc bb := rs_w (by decide) (by decide) (rs_w (by decide) (by decide) (rs_go a hgo))
        have fA : q_rf sd cc bb h (q_wI (q_wI (q_wI h 124 (upd (q_I h 124) 11 (nI (t + 1)))) 144 (upd (q_I h 144) bb (nI 1))) 145 (upd (q_I h 145) bb (nI cc))) := rf_b (rf_b (rf_o rf_r (fun k x1 x2 x3 x4 x5 x6 x7 => pk_un x1)) (by decide) (by decide) (Nat.le_refl _) (by omega)) (by decide) (by decide) (Nat.le_refl _) (by omega)
        have K1 : ∀ (rows : List q_ROW) (e : List (Nat × Int32)) (t' cc' : Nat) (h1 : q_H), (tx_r (tx_sum K 6 (t + 1)) fun x => tx_b (tx_ck (tk_T K) 13 x.2) (tx_r (tx_sum K 6 (x.2 + 1)) fun y => tx_b (tx_ck (tk_T K) 29 y.2) (tx_r (tx_sum K 6 (y.2 + 1)) fun z => tx_b (tx_ck (tk_T K) 30 z.2) (tx_ifs K k [(x.1, y.1, z.1)] (z.2 + 1))))) = .inr ((rows, e), t') → q_rf sd cc bb h h1 → q_rs h1 K m sd t' cc' (bb + rows.length + 1) → 4 * (bb + rows.length + 1 - 130 * sd) ≤ t' → q_br h1 bb rows e → cc ≤ cc' → (∀ j, j ≤ rows.length → (∃ z, z ≤ cc' ∧ q_I h1 148 (bb + j) = nI z) ∧ q_lo sd h1 bb rows.length j) → ∀ i', q_Ex l g 5 mX10_tellLaw 148 [(0, .ref 124), (1, .int kx), (2, .int fx), (3, .int (nI i'))] [] h1 Q := K1
        have K0 : ∀ er h1, (tx_r (tx_sum K 6 (t + 1)) fun x => tx_b (tx_ck (tk_T K) 13 x.2) (tx_r (tx_sum K 6 (x.2 + 1)) fun y => tx_b (tx_ck (tk_T K) 29 y.2) (tx_r (tx_sum K 6 (y.2 + 1)) fun z => tx_b (tx_ck (tk_T K) 30 z.2) (tx_ifs K k [(x.1, y.1, z.1)] (z.2 + 1))))) = .inl er → q_rf sd cc bb h h1 → q_rb h1 K sd er → Q none h1 := K0
        cases u1 : tx_sum K 6 (t + 1) with
        | inl er =>
          refine xe_aload_n dX10_tellLaw_12 rfl ?_
          refine xe_getIv dX10_tellLaw_13 flX10_198 (st124 hs) (by decide) rfl (v := nI 0) (h13) ?_
          refine xn_if_ne (tgt := 129) dX10_tellLaw_16 rfl (by omega) (fun c1 => ?_) (fun c1 => ?_)
          · omega
          · refine xe_aload_n dX10_tellLaw_19 rfl ?_
            refine xe_bipush dX10_tellLaw_20 kb_28 ?_
            refine xe_callVI (d' := 0) (y' := mX10_is) dX10_tellLaw_22 mlX10_216 mvX10_is rfl (st124 hs) (by decide) rfl (by decide) (by decide) (Nat.le_of_ble_eq_true rfl) (c_X10_is_1 l g _ (by exact hs) hR h28) rfl ?_
            refine xn_if_eq (tgt := 129) dX10_tellLaw_25 rfl (by omega) (fun c2 => ?_) (fun c2 => ?_)
            · omega
            · refine xe_iload_n dX10_tellLaw_28 rfl ?_
              refine xe_iconst dX10_tellLaw_29 kc_4 ?_
              refine xn_icmp_ne (tgt := 38) dX10_tellLaw_30 rfl (by omega) (by omega) (fun c3 => ?_) (fun c3 => ?_)
              · refine xe_aload_n dX10_tellLaw_38 rfl ?_
                refine xe_getIv dX10_tellLaw_39 flX10_198 (st124 hs) (by decide) rfl (v := nI 0) (h13) ?_
                refine xn_if_le (tgt := 46) dX10_tellLaw_42 rfl (by omega) (fun c4 => ?_) (fun c4 => ?_)
                · refine xn_iinc dX10_tellLaw_46 rfl kc_1 ?_
                  refine xe_aload_n dX10_tellLaw_49 rfl ?_
                  refine xe_callVV (d' := 1) (y' := mX10_goesOn) dX10_tellLaw_50 mlX10_219 mvX10_goesOn rfl (st124 hs) (by decide) rfl (by decide) (by decide) (Nat.le_of_ble_eq_true rfl) (c_X10_goesOn_t l g _ (by exact hs) (t := t) (by exact h11) (by omega)) rfl ?_
                  refine xe_aload_n dX10_tellLaw_53 rfl ?_
                  refine xe_getP dX10_tellLaw_54 flX10_76 (st124 hs) (by decide) rfl (sp124_34 hs) ?_
                  refine xe_aload_n dX10_tellLaw_57 rfl ?_
                  refine xe_getIv dX10_tellLaw_58 flX10_237 (st124 hs) (by decide) rfl (v := nI bb) (h33) ?_
                  refine xe_iconst dX10_tellLaw_61 kc_1 ?_
                  refine xn_zast dX10_tellLaw_62 (st144 hs) (by omega) (by decide) rfl ?_
                  refine xe_aload_n dX10_tellLaw_63 rfl ?_
                  refine xe_getP dX10_tellLaw_64 flX10_80 (st124 hs) (by decide) rfl (sp124_35 hs) ?_
                  refine xe_aload_n dX10_tellLaw_67 rfl ?_
                  refine xe_getIv dX10_tellLaw_68 flX10_237 (st124 hs) (by decide) rfl (v := nI bb) (h33) ?_
                  refine xe_aload_n dX10_tellLaw_71 rfl ?_
                  refine xe_getIv dX10_tellLaw_72 flX10_240 (st124 hs) (by decide) rfl (v := nI cc) (h39) ?_
                  refine xn_iast dX10_tellLaw_75 (st145 hs) (by omega) (by decide) ?_
                  refine xe_aload_n dX10_tellLaw_76 rfl ?_
                  refine xe_callVVq (d' := 3) (y' := mX10_expression) dX10_tellLaw_77 mlX10_289 mvX10_expression rfl (st124 hs) (by decide) rfl (by decide) (by decide) (Nat.le_of_ble_eq_true rfl) (rx_inl u1 (r_expr l g aA)) rfl (fun hx hq => ?_)
                  obtain ⟨fhx, ahx, k33⟩ := hq
                  refine xe_locals (L' := [(0, .ref 124), (1, .int kx), (2, .int fx), (3, .int (nI (i + 1)))]) (And.intro rfl (And.intro rfl (And.intro rfl (And.intro rfl trivial)))) ?_
                  exact tl_b80 l g _ ahx k33 (by omega) (fun h1 f3 a3 => K0 er h1 (by rw [u1]; rfl) (rf_t (rf_t fA fhx (Nat.le_refl _) (Nat.le_refl _)) (rf_m f3 (Nat.le_refl _) (Nat.le_refl _)) (by omega) (Nat.le_refl _)) a3)
                · omega
              · omega
        | inr x =>
          obtain ⟨x1, x2, x3, x4, x5⟩ := tx_sum_ok K 6 _ _ u1
          have wfx := tx_sum_wf u1
          rw [u1] at K1 K0
          cases k13 : tx_ck (tk_T K) 13 x.2 with
          | some er =>
            have he := ck_15 k13
            refine xe_aload_n dX10_tellLaw_12 rfl ?_
            refine xe_getIv dX10_tellLaw_13 flX10_198 (st124 hs) (by decide) rfl (v := nI 0) (h13) ?_
            refine xn_if_ne (tgt := 129) dX10_tellLaw_16 rfl (by omega) (fun c1 => ?_) (fun c1 => ?_)
            · omega
            · refine xe_aload_n dX10_tellLaw_19 rfl ?_
              refine xe_bipush dX10_tellLaw_20 kb_28 ?_
              refine xe_callVI (d' := 0) (y' := mX10_is) dX10_tellLaw_22 mlX10_216 mvX10_is rfl (st124 hs) (by decide) rfl (by decide) (by decide) (Nat.le_of_ble_eq_true rfl) (c_X10_is_1 l g _ (by exact hs) hR h28) rfl ?_
              refine xn_if_eq (tgt := 129) dX10_tellLaw_25 rfl (by omega) (fun c2 => ?_) (fun c2 => ?_)
              · omega
              · refine xe_iload_n dX10_tellLaw_28 rfl ?_
                refine xe_iconst dX10_tellLaw_29 kc_4 ?_
                refine xn_icmp_ne (tgt := 38) dX10_tellLaw_30 rfl (by omega) (by omega) (fun c3 => ?_) (fun c3 => ?_)
                · refine xe_aload_n dX10_tellLaw_38 rfl ?_
                  refine xe_getIv dX10_tellLaw_39 flX10_198 (st124 hs) (by decide) rfl (v := nI 0) (h13) ?_
                  refine xn_if_le (tgt := 46) dX10_tellLaw_42 rfl (by omega) (fun c4 => ?_) (fun c4 => ?_)
                  · refine xn_iinc dX10_tellLaw_46 rfl kc_1 ?_
                    refine xe_aload_n dX10_tellLaw_49 rfl ?_
                    refine xe_callVV (d' := 1) (y' := mX10_goesOn) dX10_tellLaw_50 mlX10_219 mvX10_goesOn rfl (st124 hs) (by decide) rfl (by decide) (by decide) (Nat.le_of_ble_eq_true rfl) (c_X10_goesOn_t l g _ (by exact hs) (t := t) (by exact h11) (by omega)) rfl ?_
                    refine xe_aload_n dX10_tellLaw_53 rfl ?_
                    refine xe_getP dX10_tellLaw_54 flX10_76 (st124 hs) (by decide) rfl (sp124_34 hs) ?_
                    refine xe_aload_n dX10_tellLaw_57 rfl ?_
                    refine xe_getIv dX10_tellLaw_58 flX10_237 (st124 hs) (by decide) rfl (v := nI bb) (h33) ?_
                    refine xe_iconst dX10_tellLaw_61 kc_1 ?_
                    refine xn_zast dX10_tellLaw_62 (st144 hs) (by omega) (by decide) rfl ?_
                    refine xe_aload_n dX10_tellLaw_63 rfl ?_
                    refine xe_getP dX10_tellLaw_64 flX10_80 (st124 hs) (by decide) rfl (sp124_35 hs) ?_
                    refine xe_aload_n dX10_tellLaw_67 rfl ?_
                    refine xe_getIv dX10_tellLaw_68 flX10_237 (st124 hs) (by decide) rfl (v := nI bb) (h33) ?_
                    refine xe_aload_n dX10_tellLaw_71 rfl ?_
                    refine xe_getIv dX10_tellLaw_72 flX10_240 (st124 hs) (by decide) rfl (v := nI cc) (h39) ?_
                    refine xn_iast dX10_tellLaw_75 (st145 hs) (by omega) (by decide) ?_
                    refine xe_aload_n dX10_tellLaw_76 rfl ?_
                    refine xe_callVVq (d' := 3) (y' := mX10_expression) dX10_tellLaw_77 mlX10_289 mvX10_expression rfl (st124 hs) (by decide) rfl (by decide) (by decide) (Nat.le_of_ble_eq_true rfl) (rx_inr u1 (r_expr l g aA)) rfl (fun hx hq => ?_)
                    obtain ⟨fhx, ahx, shx, rhx⟩ := hq
                    have hs : q_Stat hx := ahx.1
                    have hR := ahx.2.1
                    have h11 := hR.2.2.1
                    have h13 := hR.2.2.2
                    have h33 := ahx.2.2.2.2.2.1
                    have h39 := ahx.2.2.2.2.2.2.1
                    have htm := hR.2.1
                    refine xe_aload_n dX10_tellLaw_80 rfl ?_
                    refine xe_bipush dX10_tellLaw_81 kb_13 ?_
                    refine xe_callVV (d' := 2) (y' := mX10_must) dX10_tellLaw_83 mlX10_275 mvX10_must rfl (st124 hs) (by decide) rfl (by decide) (by decide) (Nat.le_of_ble_eq_true rfl) (c_X10_must_f l g _ (by exact hs) (t := x.2) hR (k := 13) (by decide) (f := er.1) (u := er.2) k13) rfl ?_
                    refine xe_locals (L' := [(0, .ref 124), (1, .int kx), (2, .int fx), (3, .int (nI (i + 1)))]) (And.intro rfl (And.intro rfl (And.intro rfl (And.intro rfl trivial)))) ?_
                    exact tl_b86 l g _ (rs_f ahx he.1 he.2) h33 (by omega) (fun h1 f3 a3 => K0 er h1 (by show tx_b (tx_ck (tk_T K) 13 x.2) _ = _; rw [k13]; rfl) (rf_t (rf_o (rf_t fA fhx (Nat.le_refl _) (Nat.le_refl _)) (fun k x1 x2 x3 x4 x5 x6 x7 => (pk_un x4).trans (pk_un x3))) (rf_m f3 (Nat.le_refl _) (Nat.le_refl _)) (by omega) (Nat.le_refl _)) a3)
                  · omega
                · omega
          | none =>
            cases u2 : tx_sum K 6 (x.2 + 1) with
            | inl er =>
            refine xe_aload_n dX10_tellLaw_12 rfl ?_
            refine xe_getIv dX10_tellLaw_13 flX10_198 (st124 hs) (by decide) rfl (v := nI 0) (h13) ?_
            refine xn_if_ne (tgt := 129) dX10_tellLaw_16 rfl (by omega) (fun c1 => ?_) (fun c1 => ?_)
            · omega
            · refine xe_aload_n dX10_tellLaw_19 rfl ?_
              refine xe_bipush dX10_tellLaw_20 kb_28 ?_
              refine xe_callVI (d' := 0) (y' := mX10_is) dX10_tellLaw_22 mlX10_216 mvX10_is rfl (st124 hs) (by decide) rfl (by decide) (by decide) (Nat.le_of_ble_eq_true rfl) (c_X10_is_1 l g _ (by exact hs) hR h28) rfl ?_
              refine xn_if_eq (tgt := 129) dX10_tellLaw_25 rfl (by omega) (fun c2 => ?_) (fun c2 => ?_)
              · omega
              · refine xe_iload_n dX10_tellLaw_28 rfl ?_
                refine xe_iconst dX10_tellLaw_29 kc_4 ?_
                refine xn_icmp_ne (tgt := 38) dX10_tellLaw_30 rfl (by omega) (by omega) (fun c3 => ?_) (fun c3 => ?_)
                · refine xe_aload_n dX10_tellLaw_38 rfl ?_
                  refine xe_getIv dX10_tellLaw_39 flX10_198 (st124 hs) (by decide) rfl (v := nI 0) (h13) ?_
                  refine xn_if_le (tgt := 46) dX10_tellLaw_42 rfl (by omega) (fun c4 => ?_) (fun c4 => ?_)
                  · refine xn_iinc dX10_tellLaw_46 rfl kc_1 ?_
                    refine xe_aload_n dX10_tellLaw_49 rfl ?_
                    refine xe_callVV (d' := 1) (y' := mX10_goesOn) dX10_tellLaw_50 mlX10_219 mvX10_goesOn rfl (st124 hs) (by decide) rfl (by decide) (by decide) (Nat.le_of_ble_eq_true rfl) (c_X10_goesOn_t l g _ (by exact hs) (t := t) (by exact h11) (by omega)) rfl ?_
                    refine xe_aload_n dX10_tellLaw_53 rfl ?_
                    refine xe_getP dX10_tellLaw_54 flX10_76 (st124 hs) (by decide) rfl (sp124_34 hs) ?_
                    refine xe_aload_n dX10_tellLaw_57 rfl ?_
                    refine xe_getIv dX10_tellLaw_58 flX10_237 (st124 hs) (by decide) rfl (v := nI bb) (h33) ?_
                    refine xe_iconst dX10_tellLaw_61 kc_1 ?_
                    refine xn_zast dX10_tellLaw_62 (st144 hs) (by omega) (by decide) rfl ?_
                    refine xe_aload_n dX10_tellLaw_63 rfl ?_
                    refine xe_getP dX10_tellLaw_64 flX10_80 (st124 hs) (by decide) rfl (sp124_35 hs) ?_
                    refine xe_aload_n dX10_tellLaw_67 rfl ?_
                    refine xe_getIv dX10_tellLaw_68 flX10_237 (st124 hs) (by decide) rfl (v := nI bb) (h33) ?_
                    refine xe_aload_n dX10_tellLaw_71 rfl ?_
                    refine xe_getIv dX10_tellLaw_72 flX10_240 (st124 hs) (by decide) rfl (v := nI cc) (h39) ?_
                    refine xn_iast dX10_tellLaw_75 (st145 hs) (by omega) (by decide) ?_
                    refine xe_aload_n dX10_tellLaw_76 rfl ?_
                    refine xe_callVVq (d' := 3) (y' := mX10_expression) dX10_tellLaw_77 mlX10_289 mvX10_expression rfl (st124 hs) (by decide) rfl (by decide) (by decide) (Nat.le_of_ble_eq_true rfl) (rx_inr u1 (r_expr l g aA)) rfl (fun hx hq => ?_)
                    obtain ⟨fhx, ahx, shx, rhx⟩ := hq
                    have hs : q_Stat hx := ahx.1
                    have hR := ahx.2.1
                    have h11 := hR.2.2.1
                    have h13 := hR.2.2.2
                    have h33 := ahx.2.2.2.2.2.1
                    have h39 := ahx.2.2.2.2.2.2.1
                    have htm := hR.2.1
                    refine xe_aload_n dX10_tellLaw_80 rfl ?_
                    refine xe_bipush dX10_tellLaw_81 kb_13 ?_
                    refine xe_callVV (d' := 2) (y' := mX10_must) dX10_tellLaw_83 mlX10_275 mvX10_must rfl (st124 hs) (by decide) rfl (by decide) (by decide) (Nat.le_of_ble_eq_true rfl) (c_X10_must_t l g _ (by exact hs) (t := x.2) hR (k := 13) k13) rfl ?_
                    refine xe_aload_n dX10_tellLaw_86 rfl ?_
                    refine xe_getP dX10_tellLaw_87 flX10_83 (st124 hs) (by decide) rfl (sp124_36 hs) ?_
                    refine xe_aload_n dX10_tellLaw_90 rfl ?_
                    refine xe_getIv dX10_tellLaw_91 flX10_237 (st124 hs) (by decide) rfl (v := nI bb) (h33) ?_
                    refine xe_aload_n dX10_tellLaw_94 rfl ?_
                    refine xe_getIv dX10_tellLaw_95 flX10_240 (st124 hs) (by decide) rfl (v := nI (cc + x.1.length)) (h39) ?_
                    refine xn_iast dX10_tellLaw_98 (st146 hs) (by omega) (by decide) ?_
                    have aB : q_rs (q_wI (q_wI hx 124 (upd (q_I hx 124) 11 (nI (x.2 + 1)))) 146 (upd (q_I hx 146) bb (nI (cc + x.1.length)))) K m sd (x.2 + 1) (cc + x.1.length) bb := (rs_w (by decide) (by decide) (rs_go ahx (rt_gn hR.1 htm k13 (by decide))))
                    have fB : q_rf sd cc bb h (q_wI (q_wI hx 124 (upd (q_I hx 124) 11 (nI (x.2 + 1)))) 146 (upd (q_I hx 146) bb (nI (cc + x.1.length)))) := (rf_b (rf_o (rf_t fA fhx (Nat.le_refl _) (Nat.le_refl _)) (fun k x1 x2 x3 x4 x5 x6 x7 => pk_un x1)) (by decide) (by decide) (Nat.le_refl _) (by omega))
                    refine xe_aload_n dX10_tellLaw_99 rfl ?_
                    refine xe_getIv dX10_tellLaw_100 flX10_198 (st124 hs) (by decide) rfl (v := nI 0) (h13) ?_
                    refine xn_if_ne (tgt := 110) dX10_tellLaw_103 rfl (by omega) (fun c5 => ?_) (fun c5 => ?_)
                    · omega
                    · refine xe_aload_n dX10_tellLaw_106 rfl ?_
                      refine xe_callVVq (d' := 3) (y' := mX10_expression) dX10_tellLaw_107 mlX10_289 mvX10_expression rfl (st124 hs) (by decide) rfl (by decide) (by decide) (Nat.le_of_ble_eq_true rfl) (rx_inl u2 (r_expr l g aB)) rfl (fun hy hq => ?_)
                      obtain ⟨fhy, ahy, k33⟩ := hq
                      refine xe_locals (L' := [(0, .ref 124), (1, .int kx), (2, .int fx), (3, .int (nI (i + 1)))]) (And.intro rfl (And.intro rfl (And.intro rfl (And.intro rfl trivial)))) ?_
                      exact tl_b110 l g _ ahy k33 (by omega) (fun h1 f3 a3 => K0 er h1 (by show tx_b (tx_ck (tk_T K) 13 x.2) _ = _; rw [k13]; show tx_r (tx_sum K 6 (x.2 + 1)) _ = _; rw [u2]; rfl) (rf_t (rf_t fB fhy (by omega) (Nat.le_refl _)) (rf_m f3 (Nat.le_refl _) (Nat.le_refl _)) (by omega) (Nat.le_refl _)) a3)
                  · omega
                · omega
            | inr y =>
              obtain ⟨y1, y2, y3, y4, y5⟩ := tx_sum_ok K 6 _ _ u2
              have wfy := tx_sum_wf u2
              cases k29 : tx_ck (tk_T K) 29 y.2 with
              | some er =>
                have he := ck_15 k29
                refine xe_aload_n dX10_tellLaw_12 rfl ?_
                refine xe_getIv dX10_tellLaw_13 flX10_198 (st124 hs) (by decide) rfl (v := nI 0) (h13) ?_
                refine xn_if_ne (tgt := 129) dX10_tellLaw_16 rfl (by omega) (fun c1 => ?_) (fun c1 => ?_)
                · omega
                · refine xe_aload_n dX10_tellLaw_19 rfl ?_
                  refine xe_bipush dX10_tellLaw_20 kb_28 ?_
                  refine xe_callVI (d' := 0) (y' := mX10_is) dX10_tellLaw_22 mlX10_216 mvX10_is rfl (st124 hs) (by decide) rfl (by decide) (by decide) (Nat.le_of_ble_eq_true rfl) (c_X10_is_1 l g _ (by exact hs) hR h28) rfl ?_
                  refine xn_if_eq (tgt := 129) dX10_tellLaw_25 rfl (by omega) (fun c2 => ?_) (fun c2 => ?_)
                  · omega
                  · refine xe_iload_n dX10_tellLaw_28 rfl ?_
                    refine xe_iconst dX10_tellLaw_29 kc_4 ?_
                    refine xn_icmp_ne (tgt := 38) dX10_tellLaw_30 rfl (by omega) (by omega) (fun c3 => ?_) (fun c3 => ?_)
                    · refine xe_aload_n dX10_tellLaw_38 rfl ?_
                      refine xe_getIv dX10_tellLaw_39 flX10_198 (st124 hs) (by decide) rfl (v := nI 0) (h13) ?_
                      refine xn_if_le (tgt := 46) dX10_tellLaw_42 rfl (by omega) (fun c4 => ?_) (fun c4 => ?_)
                      · refine xn_iinc dX10_tellLaw_46 rfl kc_1 ?_
                        refine xe_aload_n dX10_tellLaw_49 rfl ?_
                        refine xe_callVV (d' := 1) (y' := mX10_goesOn) dX10_tellLaw_50 mlX10_219 mvX10_goesOn rfl (st124 hs) (by decide) rfl (by decide) (by decide) (Nat.le_of_ble_eq_true rfl) (c_X10_goesOn_t l g _ (by exact hs) (t := t) (by exact h11) (by omega)) rfl ?_
                        refine xe_aload_n dX10_tellLaw_53 rfl ?_
                        refine xe_getP dX10_tellLaw_54 flX10_76 (st124 hs) (by decide) rfl (sp124_34 hs) ?_
                        refine xe_aload_n dX10_tellLaw_57 rfl ?_
                        refine xe_getIv dX10_tellLaw_58 flX10_237 (st124 hs) (by decide) rfl (v := nI bb) (h33) ?_
                        refine xe_iconst dX10_tellLaw_61 kc_1 ?_
                        refine xn_zast dX10_tellLaw_62 (st144 hs) (by omega) (by decide) rfl ?_
                        refine xe_aload_n dX10_tellLaw_63 rfl ?_
                        refine xe_getP dX10_tellLaw_64 flX10_80 (st124 hs) (by decide) rfl (sp124_35 hs) ?_
                        refine xe_aload_n dX10_tellLaw_67 rfl ?_
                        refine xe_getIv dX10_tellLaw_68 flX10_237 (st124 hs) (by decide) rfl (v := nI bb) (h33) ?_
                        refine xe_aload_n dX10_tellLaw_71 rfl ?_
                        refine xe_getIv dX10_tellLaw_72 flX10_240 (st124 hs) (by decide) rfl (v := nI cc) (h39) ?_
                        refine xn_iast dX10_tellLaw_75 (st145 hs) (by omega) (by decide) ?_
                        refine xe_aload_n dX10_tellLaw_76 rfl ?_
                        refine xe_callVVq (d' := 3) (y' := mX10_expression) dX10_tellLaw_77 mlX10_289 mvX10_expression rfl (st124 hs) (by decide) rfl (by decide) (by decide) (Nat.le_of_ble_eq_true rfl) (rx_inr u1 (r_expr l g aA)) rfl (fun hx hq => ?_)
                        obtain ⟨fhx, ahx, shx, rhx⟩ := hq
                        have hs : q_Stat hx := ahx.1
                        have hR := ahx.2.1
                        have h11 := hR.2.2.1
                        have h13 := hR.2.2.2
                        have h33 := ahx.2.2.2.2.2.1
                        have h39 := ahx.2.2.2.2.2.2.1
                        have htm := hR.2.1
                        refine xe_aload_n dX10_tellLaw_80 rfl ?_
                        refine xe_bipush dX10_tellLaw_81 kb_13 ?_
                        refine xe_callVV (d' := 2) (y' := mX10_must) dX10_tellLaw_83 mlX10_275 mvX10_must rfl (st124 hs) (by decide) rfl (by decide) (by decide) (Nat.le_of_ble_eq_true rfl) (c_X10_must_t l g _ (by exact hs) (t := x.2) hR (k := 13) k13) rfl ?_
                        refine xe_aload_n dX10_tellLaw_86 rfl ?_
                        refine xe_getP dX10_tellLaw_87 flX10_83 (st124 hs) (by decide) rfl (sp124_36 hs) ?_
                        refine xe_aload_n dX10_tellLaw_90 rfl ?_
                        refine xe_getIv dX10_tellLaw_91 flX10_237 (st124 hs) (by decide) rfl (v := nI bb) (h33) ?_
                        refine xe_aload_n dX10_tellLaw_94 rfl ?_
                        refine xe_getIv dX10_tellLaw_95 flX10_240 (st124 hs) (by decide) rfl (v := nI (cc + x.1.length)) (h39) ?_
                        refine xn_iast dX10_tellLaw_98 (st146 hs) (by omega) (by decide) ?_
                        have aB : q_rs (q_wI (q_wI hx 124 (upd (q_I hx 124) 11 (nI (x.2 + 1)))) 146 (upd (q_I hx 146) bb (nI (cc + x.1.length)))) K m sd (x.2 + 1) (cc + x.1.length) bb := (rs_w (by decide) (by decide) (rs_go ahx (rt_gn hR.1 htm k13 (by decide))))
                        have fB : q_rf sd cc bb h (q_wI (q_wI hx 124 (upd (q_I hx 124) 11 (nI (x.2 + 1)))) 146 (upd (q_I hx 146) bb (nI (cc + x.1.length)))) := (rf_b (rf_o (rf_t fA fhx (Nat.le_refl _) (Nat.le_refl _)) (fun k x1 x2 x3 x4 x5 x6 x7 => pk_un x1)) (by decide) (by decide) (Nat.le_refl _) (by omega))
                        refine xe_aload_n dX10_tellLaw_99 rfl ?_
                        refine xe_getIv dX10_tellLaw_100 flX10_198 (st124 hs) (by decide) rfl (v := nI 0) (h13) ?_
                        refine xn_if_ne (tgt := 110) dX10_tellLaw_103 rfl (by omega) (fun c5 => ?_) (fun c5 => ?_)
                        · omega
                        · refine xe_aload_n dX10_tellLaw_106 rfl ?_
                          refine xe_callVVq (d' := 3) (y' := mX10_expression) dX10_tellLaw_107 mlX10_289 mvX10_expression rfl (st124 hs) (by decide) rfl (by decide) (by decide) (Nat.le_of_ble_eq_true rfl) (rx_inr u2 (r_expr l g aB)) rfl (fun hy hq => ?_)
                          obtain ⟨fhy, ahy, shy, rhy⟩ := hq
                          have hs : q_Stat hy := ahy.1
                          have hR := ahy.2.1
                          have h11 := hR.2.2.1
                          have h13 := hR.2.2.2
                          have h33 := ahy.2.2.2.2.2.1
                          have h39 := ahy.2.2.2.2.2.2.1
                          have htm := hR.2.1
                          refine xe_aload_n dX10_tellLaw_110 rfl ?_
                          refine xe_bipush dX10_tellLaw_111 kb_29 ?_
                          refine xe_callVV (d' := 2) (y' := mX10_must) dX10_tellLaw_113 mlX10_275 mvX10_must rfl (st124 hs) (by decide) rfl (by decide) (by decide) (Nat.le_of_ble_eq_true rfl) (c_X10_must_f l g _ (by exact hs) (t := y.2) hR (k := 29) (by decide) (f := er.1) (u := er.2) k29) rfl ?_
                          refine xe_aload_n dX10_tellLaw_116 rfl ?_
                          refine xe_callVVq (d' := 4) (y' := mX10_term) dX10_tellLaw_117 mlX10_292 mvX10_term rfl (st124 hs) (by decide) rfl (by decide) (by decide) (Nat.le_of_ble_eq_true rfl) (r_term_b l g _ (BB := bb) (rs_f ahy he.1 he.2) (by exact h33) (by omega)) rfl (fun htb hq => ?_)
                          obtain ⟨ftb, atb, k33⟩ := hq
                          refine xe_locals (L' := [(0, .ref 124), (1, .int kx), (2, .int fx), (3, .int (nI (i + 1)))]) (And.intro rfl (And.intro rfl (And.intro rfl (And.intro rfl trivial)))) ?_
                          exact tl_b120 l g _ atb k33 (by omega) (fun h1 f3 a3 => K0 er h1 (by show tx_b (tx_ck (tk_T K) 13 x.2) _ = _; rw [k13]; show tx_r (tx_sum K 6 (x.2 + 1)) _ = _; rw [u2]; show tx_b (tx_ck (tk_T K) 29 y.2) _ = _; rw [k29]; rfl) (rf_t (rf_t (rf_o (rf_t fB fhy (by omega) (Nat.le_refl _)) (fun k x1 x2 x3 x4 x5 x6 x7 => (pk_un x4).trans (pk_un x3))) ftb (by omega) (Nat.le_refl _)) (rf_m f3 (Nat.le_refl _) (Nat.le_refl _)) (by omega) (by omega)) a3)
                      · omega
                    · omega
              | none =>
                cases u3 : tx_sum K 6 (y.2 + 1) with
                | inl er =>
                refine xe_aload_n dX10_tellLaw_12 rfl ?_
                refine xe_getIv dX10_tellLaw_13 flX10_198 (st124 hs) (by decide) rfl (v := nI 0) (h13) ?_
                refine xn_if_ne (tgt := 129) dX10_tellLaw_16 rfl (by omega) (fun c1 => ?_) (fun c1 => ?_)
                · omega
                · refine xe_aload_n dX10_tellLaw_19 rfl ?_
                  refine xe_bipush dX10_tellLaw_20 kb_28 ?_
                  refine xe_callVI (d' := 0) (y' := mX10_is) dX10_tellLaw_22 mlX10_216 mvX10_is rfl (st124 hs) (by decide) rfl (by decide) (by decide) (Nat.le_of_ble_eq_true rfl) (c_X10_is_1 l g _ (by exact hs) hR h28) rfl ?_
                  refine xn_if_eq (tgt := 129) dX10_tellLaw_25 rfl (by omega) (fun c2 => ?_) (fun c2 => ?_)
                  · omega
                  · refine xe_iload_n dX10_tellLaw_28 rfl ?_
                    refine xe_iconst dX10_tellLaw_29 kc_4 ?_
                    refine xn_icmp_ne (tgt := 38) dX10_tellLaw_30 rfl (by omega) (by omega) (fun c3 => ?_) (fun c3 => ?_)
                    · refine xe_aload_n dX10_tellLaw_38 rfl ?_
                      refine xe_getIv dX10_tellLaw_39 flX10_198 (st124 hs) (by decide) rfl (v := nI 0) (h13) ?_
                      refine xn_if_le (tgt := 46) dX10_tellLaw_42 rfl (by omega) (fun c4 => ?_) (fun c4 => ?_)
                      · refine xn_iinc dX10_tellLaw_46 rfl kc_1 ?_
                        refine xe_aload_n dX10_tellLaw_49 rfl ?_
                        refine xe_callVV (d' := 1) (y' := mX10_goesOn) dX10_tellLaw_50 mlX10_219 mvX10_goesOn rfl (st124 hs) (by decide) rfl (by decide) (by decide) (Nat.le_of_ble_eq_true rfl) (c_X10_goesOn_t l g _ (by exact hs) (t := t) (by exact h11) (by omega)) rfl ?_
                        refine xe_aload_n dX10_tellLaw_53 rfl ?_
                        refine xe_getP dX10_tellLaw_54 flX10_76 (st124 hs) (by decide) rfl (sp124_34 hs) ?_
                        refine xe_aload_n dX10_tellLaw_57 rfl ?_
                        refine xe_getIv dX10_tellLaw_58 flX10_237 (st124 hs) (by decide) rfl (v := nI bb) (h33) ?_
                        refine xe_iconst dX10_tellLaw_61 kc_1 ?_
                        refine xn_zast dX10_tellLaw_62 (st144 hs) (by omega) (by decide) rfl ?_
                        refine xe_aload_n dX10_tellLaw_63 rfl ?_
                        refine xe_getP dX10_tellLaw_64 flX10_80 (st124 hs) (by decide) rfl (sp124_35 hs) ?_
                        refine xe_aload_n dX10_tellLaw_67 rfl ?_
                        refine xe_getIv dX10_tellLaw_68 flX10_237 (st124 hs) (by decide) rfl (v := nI bb) (h33) ?_
                        refine xe_aload_n dX10_tellLaw_71 rfl ?_
                        refine xe_getIv dX10_tellLaw_72 flX10_240 (st124 hs) (by decide) rfl (v := nI cc) (h39) ?_
                        refine xn_iast dX10_tellLaw_75 (st145 hs) (by omega) (by decide) ?_
                        refine xe_aload_n dX10_tellLaw_76 rfl ?_
                        refine xe_callVVq (d' := 3) (y' := mX10_expression) dX10_tellLaw_77 mlX10_289 mvX10_expression rfl (st124 hs) (by decide) rfl (by decide) (by decide) (Nat.le_of_ble_eq_true rfl) (rx_inr u1 (r_expr l g aA)) rfl (fun hx hq => ?_)
                        obtain ⟨fhx, ahx, shx, rhx⟩ := hq
                        have hs : q_Stat hx := ahx.1
                        have hR := ahx.2.1
                        have h11 := hR.2.2.1
                        have h13 := hR.2.2.2
                        have h33 := ahx.2.2.2.2.2.1
                        have h39 := ahx.2.2.2.2.2.2.1
                        have htm := hR.2.1
                        refine xe_aload_n dX10_tellLaw_80 rfl ?_
                        refine xe_bipush dX10_tellLaw_81 kb_13 ?_
                        refine xe_callVV (d' := 2) (y' := mX10_must) dX10_tellLaw_83 mlX10_275 mvX10_must rfl (st124 hs) (by decide) rfl (by decide) (by decide) (Nat.le_of_ble_eq_true rfl) (c_X10_must_t l g _ (by exact hs) (t := x.2) hR (k := 13) k13) rfl ?_
                        refine xe_aload_n dX10_tellLaw_86 rfl ?_
                        refine xe_getP dX10_tellLaw_87 flX10_83 (st124 hs) (by decide) rfl (sp124_36 hs) ?_
                        refine xe_aload_n dX10_tellLaw_90 rfl ?_
                        refine xe_getIv dX10_tellLaw_91 flX10_237 (st124 hs) (by decide) rfl (v := nI bb) (h33) ?_
                        refine xe_aload_n dX10_tellLaw_94 rfl ?_
                        refine xe_getIv dX10_tellLaw_95 flX10_240 (st124 hs) (by decide) rfl (v := nI (cc + x.1.length)) (h39) ?_
                        refine xn_iast dX10_tellLaw_98 (st146 hs) (by omega) (by decide) ?_
                        have aB : q_rs (q_wI (q_wI hx 124 (upd (q_I hx 124) 11 (nI (x.2 + 1)))) 146 (upd (q_I hx 146) bb (nI (cc + x.1.length)))) K m sd (x.2 + 1) (cc + x.1.length) bb := (rs_w (by decide) (by decide) (rs_go ahx (rt_gn hR.1 htm k13 (by decide))))
                        have fB : q_rf sd cc bb h (q_wI (q_wI hx 124 (upd (q_I hx 124) 11 (nI (x.2 + 1)))) 146 (upd (q_I hx 146) bb (nI (cc + x.1.length)))) := (rf_b (rf_o (rf_t fA fhx (Nat.le_refl _) (Nat.le_refl _)) (fun k x1 x2 x3 x4 x5 x6 x7 => pk_un x1)) (by decide) (by decide) (Nat.le_refl _) (by omega))
                        refine xe_aload_n dX10_tellLaw_99 rfl ?_
                        refine xe_getIv dX10_tellLaw_100 flX10_198 (st124 hs) (by decide) rfl (v := nI 0) (h13) ?_
                        refine xn_if_ne (tgt := 110) dX10_tellLaw_103 rfl (by omega) (fun c5 => ?_) (fun c5 => ?_)
                        · omega
                        · refine xe_aload_n dX10_tellLaw_106 rfl ?_
                          refine xe_callVVq (d' := 3) (y' := mX10_expression) dX10_tellLaw_107 mlX10_289 mvX10_expression rfl (st124 hs) (by decide) rfl (by decide) (by decide) (Nat.le_of_ble_eq_true rfl) (rx_inr u2 (r_expr l g aB)) rfl (fun hy hq => ?_)
                          obtain ⟨fhy, ahy, shy, rhy⟩ := hq
                          have hs : q_Stat hy := ahy.1
                          have hR := ahy.2.1
                          have h11 := hR.2.2.1
                          have h13 := hR.2.2.2
                          have h33 := ahy.2.2.2.2.2.1
                          have h39 := ahy.2.2.2.2.2.2.1
                          have htm := hR.2.1
                          refine xe_aload_n dX10_tellLaw_110 rfl ?_
                          refine xe_bipush dX10_tellLaw_111 kb_29 ?_
                          refine xe_callVV (d' := 2) (y' := mX10_must) dX10_tellLaw_113 mlX10_275 mvX10_must rfl (st124 hs) (by decide) rfl (by decide) (by decide) (Nat.le_of_ble_eq_true rfl) (c_X10_must_t l g _ (by exact hs) (t := y.2) hR (k := 29) k29) rfl ?_
                          have aC : q_rs (q_wI hy 124 (upd (q_I hy 124) 11 (nI (y.2 + 1)))) K m sd (y.2 + 1) (cc + x.1.length + y.1.length) bb := (rs_go ahy (rt_gn hR.1 htm k29 (by decide)))
                          have fC : q_rf sd cc bb h (q_wI hy 124 (upd (q_I hy 124) 11 (nI (y.2 + 1)))) := (rf_o (rf_t fB fhy (by omega) (Nat.le_refl _)) (fun k x1 x2 x3 x4 x5 x6 x7 => pk_un x1))
                          refine xe_aload_n dX10_tellLaw_116 rfl ?_
                          refine xe_callVVq (d' := 4) (y' := mX10_term) dX10_tellLaw_117 mlX10_292 mvX10_term rfl (st124 hs) (by decide) rfl (by decide) (by decide) (Nat.le_of_ble_eq_true rfl) (tm_inl u3 (r_term l g _ aC (by omega))) rfl (fun hz hq => ?_)
                          obtain ⟨fhz, ahz, k33⟩ := hq
                          refine xe_locals (L' := [(0, .ref 124), (1, .int kx), (2, .int fx), (3, .int (nI (i + 1)))]) (And.intro rfl (And.intro rfl (And.intro rfl (And.intro rfl trivial)))) ?_
                          exact tl_b120 l g _ ahz k33 (by omega) (fun h1 f3 a3 => K0 er h1 (by show tx_b (tx_ck (tk_T K) 13 x.2) _ = _; rw [k13]; show tx_r (tx_sum K 6 (x.2 + 1)) _ = _; rw [u2]; show tx_b (tx_ck (tk_T K) 29 y.2) _ = _; rw [k29]; show tx_r (tx_sum K 6 (y.2 + 1)) _ = _; rw [u3]; rfl) (rf_t (rf_t fC fhz (by omega) (Nat.le_refl _)) (rf_m f3 (Nat.le_refl _) (Nat.le_refl _)) (by omega) (by omega)) a3)
                      · omega
                    · omega
                | inr z =>
                  obtain ⟨z1, z2, z3, z4, z5⟩ := tx_sum_ok K 6 _ _ u3
                  have wfz := tx_sum_wf u3
                  cases k30 : tx_ck (tk_T K) 30 z.2 with
                  | some er =>
                    have he := ck_15 k30
                    refine xe_aload_n dX10_tellLaw_12 rfl ?_
                    refine xe_getIv dX10_tellLaw_13 flX10_198 (st124 hs) (by decide) rfl (v := nI 0) (h13) ?_
                    refine xn_if_ne (tgt := 129) dX10_tellLaw_16 rfl (by omega) (fun c1 => ?_) (fun c1 => ?_)
                    · omega
                    · refine xe_aload_n dX10_tellLaw_19 rfl ?_
                      refine xe_bipush dX10_tellLaw_20 kb_28 ?_
                      refine xe_callVI (d' := 0) (y' := mX10_is) dX10_tellLaw_22 mlX10_216 mvX10_is rfl (st124 hs) (by decide) rfl (by decide) (by decide) (Nat.le_of_ble_eq_true rfl) (c_X10_is_1 l g _ (by exact hs) hR h28) rfl ?_
                      refine xn_if_eq (tgt := 129) dX10_tellLaw_25 rfl (by omega) (fun c2 => ?_) (fun c2 => ?_)
                      · omega
                      · refine xe_iload_n dX10_tellLaw_28 rfl ?_
                        refine xe_iconst dX10_tellLaw_29 kc_4 ?_
                        refine xn_icmp_ne (tgt := 38) dX10_tellLaw_30 rfl (by omega) (by omega) (fun c3 => ?_) (fun c3 => ?_)
                        · refine xe_aload_n dX10_tellLaw_38 rfl ?_
                          refine xe_getIv dX10_tellLaw_39 flX10_198 (st124 hs) (by decide) rfl (v := nI 0) (h13) ?_
                          refine xn_if_le (tgt := 46) dX10_tellLaw_42 rfl (by omega) (fun c4 => ?_) (fun c4 => ?_)
                          · refine xn_iinc dX10_tellLaw_46 rfl kc_1 ?_
                            refine xe_aload_n dX10_tellLaw_49 rfl ?_
                            refine xe_callVV (d' := 1) (y' := mX10_goesOn) dX10_tellLaw_50 mlX10_219 mvX10_goesOn rfl (st124 hs) (by decide) rfl (by decide) (by decide) (Nat.le_of_ble_eq_true rfl) (c_X10_goesOn_t l g _ (by exact hs) (t := t) (by exact h11) (by omega)) rfl ?_
                            refine xe_aload_n dX10_tellLaw_53 rfl ?_
                            refine xe_getP dX10_tellLaw_54 flX10_76 (st124 hs) (by decide) rfl (sp124_34 hs) ?_
                            refine xe_aload_n dX10_tellLaw_57 rfl ?_
                            refine xe_getIv dX10_tellLaw_58 flX10_237 (st124 hs) (by decide) rfl (v := nI bb) (h33) ?_
                            refine xe_iconst dX10_tellLaw_61 kc_1 ?_
                            refine xn_zast dX10_tellLaw_62 (st144 hs) (by omega) (by decide) rfl ?_
                            refine xe_aload_n dX10_tellLaw_63 rfl ?_
                            refine xe_getP dX10_tellLaw_64 flX10_80 (st124 hs) (by decide) rfl (sp124_35 hs) ?_
                            refine xe_aload_n dX10_tellLaw_67 rfl ?_
                            refine xe_getIv dX10_tellLaw_68 flX10_237 (st124 hs) (by decide) rfl (v := nI bb) (h33) ?_
                            refine xe_aload_n dX10_tellLaw_71 rfl ?_
                            refine xe_getIv dX10_tellLaw_72 flX10_240 (st124 hs) (by decide) rfl (v := nI cc) (h39) ?_
                            refine xn_iast dX10_tellLaw_75 (st145 hs) (by omega) (by decide) ?_
                            refine xe_aload_n dX10_tellLaw_76 rfl ?_
                            refine xe_callVVq (d' := 3) (y' := mX10_expression) dX10_tellLaw_77 mlX10_289 mvX10_expression rfl (st124 hs) (by decide) rfl (by decide) (by decide) (Nat.le_of_ble_eq_true rfl) (rx_inr u1 (r_expr l g aA)) rfl (fun hx hq => ?_)
                            obtain ⟨fhx, ahx, shx, rhx⟩ := hq
                            have hs : q_Stat hx := ahx.1
                            have hR := ahx.2.1
                            have h11 := hR.2.2.1
                            have h13 := hR.2.2.2
                            have h33 := ahx.2.2.2.2.2.1
                            have h39 := ahx.2.2.2.2.2.2.1
                            have htm := hR.2.1
                            refine xe_aload_n dX10_tellLaw_80 rfl ?_
                            refine xe_bipush dX10_tellLaw_81 kb_13 ?_
                            refine xe_callVV (d' := 2) (y' := mX10_must) dX10_tellLaw_83 mlX10_275 mvX10_must rfl (st124 hs) (by decide) rfl (by decide) (by decide) (Nat.le_of_ble_eq_true rfl) (c_X10_must_t l g _ (by exact hs) (t := x.2) hR (k := 13) k13) rfl ?_
                            refine xe_aload_n dX10_tellLaw_86 rfl ?_
                            refine xe_getP dX10_tellLaw_87 flX10_83 (st124 hs) (by decide) rfl (sp124_36 hs) ?_
                            refine xe_aload_n dX10_tellLaw_90 rfl ?_
                            refine xe_getIv dX10_tellLaw_91 flX10_237 (st124 hs) (by decide) rfl (v := nI bb) (h33) ?_
                            refine xe_aload_n dX10_tellLaw_94 rfl ?_
                            refine xe_getIv dX10_tellLaw_95 flX10_240 (st124 hs) (by decide) rfl (v := nI (cc + x.1.length)) (h39) ?_
                            refine xn_iast dX10_tellLaw_98 (st146 hs) (by omega) (by decide) ?_
                            have aB : q_rs (q_wI (q_wI hx 124 (upd (q_I hx 124) 11 (nI (x.2 + 1)))) 146 (upd (q_I hx 146) bb (nI (cc + x.1.length)))) K m sd (x.2 + 1) (cc + x.1.length) bb := (rs_w (by decide) (by decide) (rs_go ahx (rt_gn hR.1 htm k13 (by decide))))
                            have fB : q_rf sd cc bb h (q_wI (q_wI hx 124 (upd (q_I hx 124) 11 (nI (x.2 + 1)))) 146 (upd (q_I hx 146) bb (nI (cc + x.1.length)))) := (rf_b (rf_o (rf_t fA fhx (Nat.le_refl _) (Nat.le_refl _)) (fun k x1 x2 x3 x4 x5 x6 x7 => pk_un x1)) (by decide) (by decide) (Nat.le_refl _) (by omega))
                            refine xe_aload_n dX10_tellLaw_99 rfl ?_
                            refine xe_getIv dX10_tellLaw_100 flX10_198 (st124 hs) (by decide) rfl (v := nI 0) (h13) ?_
                            refine xn_if_ne (tgt := 110) dX10_tellLaw_103 rfl (by omega) (fun c5 => ?_) (fun c5 => ?_)
                            · omega
                            · refine xe_aload_n dX10_tellLaw_106 rfl ?_
                              refine xe_callVVq (d' := 3) (y' := mX10_expression) dX10_tellLaw_107 mlX10_289 mvX10_expression rfl (st124 hs) (by decide) rfl (by decide) (by decide) (Nat.le_of_ble_eq_true rfl) (rx_inr u2 (r_expr l g aB)) rfl (fun hy hq => ?_)
                              obtain ⟨fhy, ahy, shy, rhy⟩ := hq
                              have hs : q_Stat hy := ahy.1
                              have hR := ahy.2.1
                              have h11 := hR.2.2.1
                              have h13 := hR.2.2.2
                              have h33 := ahy.2.2.2.2.2.1
                              have h39 := ahy.2.2.2.2.2.2.1
                              have htm := hR.2.1
                              refine xe_aload_n dX10_tellLaw_110 rfl ?_
                              refine xe_bipush dX10_tellLaw_111 kb_29 ?_
                              refine xe_callVV (d' := 2) (y' := mX10_must) dX10_tellLaw_113 mlX10_275 mvX10_must rfl (st124 hs) (by decide) rfl (by decide) (by decide) (Nat.le_of_ble_eq_true rfl) (c_X10_must_t l g _ (by exact hs) (t := y.2) hR (k := 29) k29) rfl ?_
                              have aC : q_rs (q_wI hy 124 (upd (q_I hy 124) 11 (nI (y.2 + 1)))) K m sd (y.2 + 1) (cc + x.1.length + y.1.length) bb := (rs_go ahy (rt_gn hR.1 htm k29 (by decide)))
                              have fC : q_rf sd cc bb h (q_wI hy 124 (upd (q_I hy 124) 11 (nI (y.2 + 1)))) := (rf_o (rf_t fB fhy (by omega) (Nat.le_refl _)) (fun k x1 x2 x3 x4 x5 x6 x7 => pk_un x1))
                              refine xe_aload_n dX10_tellLaw_116 rfl ?_
                              refine xe_callVVq (d' := 4) (y' := mX10_term) dX10_tellLaw_117 mlX10_292 mvX10_term rfl (st124 hs) (by decide) rfl (by decide) (by decide) (Nat.le_of_ble_eq_true rfl) (tm_inr u3 (r_term l g _ aC (by omega))) rfl (fun hz hq => ?_)
                              obtain ⟨fhz, ahz, shz, e147, e148, e144, e145, e146⟩ := hq
                              have hs : q_Stat hz := ahz.1
                              have hR := ahz.2.1
                              have h11 := hR.2.2.1
                              have h13 := hR.2.2.2
                              have h33 := ahz.2.2.2.2.2.1
                              have h39 := ahz.2.2.2.2.2.2.1
                              have htm := hR.2.1
                              refine xe_aload_n dX10_tellLaw_120 rfl ?_
                              refine xe_bipush dX10_tellLaw_121 kb_30 ?_
                              refine xe_callVV (d' := 2) (y' := mX10_must) dX10_tellLaw_123 mlX10_275 mvX10_must rfl (st124 hs) (by decide) rfl (by decide) (by decide) (Nat.le_of_ble_eq_true rfl) (c_X10_must_f l g _ (by exact hs) (t := z.2) hR (k := 30) (by decide) (f := er.1) (u := er.2) k30) rfl ?_
                              refine xe_goto (tgt := 12) dX10_tellLaw_126 rfl ?_
                              refine xe_locals (L' := [(0, .ref 124), (1, .int kx), (2, .int fx), (3, .int (nI (i + 1)))]) (And.intro rfl (And.intro rfl (And.intro rfl (And.intro rfl trivial)))) ?_
                              exact tl_b12 l g _ (rs_f ahz he.1 he.2) h33 (by omega) (fun h1 f3 a3 => K0 er h1 (by show tx_b (tx_ck (tk_T K) 13 x.2) _ = _; rw [k13]; show tx_r (tx_sum K 6 (x.2 + 1)) _ = _; rw [u2]; show tx_b (tx_ck (tk_T K) 29 y.2) _ = _; rw [k29]; show tx_r (tx_sum K 6 (y.2 + 1)) _ = _; rw [u3]; show tx_b (tx_ck (tk_T K) 30 z.2) _ = _; rw [k30]; rfl) (rf_t (rf_o (rf_t fC fhz (by omega) (Nat.le_refl _)) (fun k x1 x2 x3 x4 x5 x6 x7 => (pk_un x4).trans (pk_un x3))) (rf_m f3 (Nat.le_refl _) (Nat.le_refl _)) (by omega) (by omega)) a3)
                          · omega
                        · omega
                  | none =>
                    refine xe_aload_n dX10_tellLaw_12 rfl ?_
                    refine xe_getIv dX10_tellLaw_13 flX10_198 (st124 hs) (by decide) rfl (v := nI 0) (h13) ?_
                    refine xn_if_ne (tgt := 129) dX10_tellLaw_16 rfl (by omega) (fun c1 => ?_) (fun c1 => ?_)
                    · omega
                    · refine xe_aload_n dX10_tellLaw_19 rfl ?_
                      refine xe_bipush dX10_tellLaw_20 kb_28 ?_
                      refine xe_callVI (d' := 0) (y' := mX10_is) dX10_tellLaw_22 mlX10_216 mvX10_is rfl (st124 hs) (by decide) rfl (by decide) (by decide) (Nat.le_of_ble_eq_true rfl) (c_X10_is_1 l g _ (by exact hs) hR h28) rfl ?_
                      refine xn_if_eq (tgt := 129) dX10_tellLaw_25 rfl (by omega) (fun c2 => ?_) (fun c2 => ?_)
                      · omega
                      · refine xe_iload_n dX10_tellLaw_28 rfl ?_
                        refine xe_iconst dX10_tellLaw_29 kc_4 ?_
                        refine xn_icmp_ne (tgt := 38) dX10_tellLaw_30 rfl (by omega) (by omega) (fun c3 => ?_) (fun c3 => ?_)
                        · refine xe_aload_n dX10_tellLaw_38 rfl ?_
                          refine xe_getIv dX10_tellLaw_39 flX10_198 (st124 hs) (by decide) rfl (v := nI 0) (h13) ?_
                          refine xn_if_le (tgt := 46) dX10_tellLaw_42 rfl (by omega) (fun c4 => ?_) (fun c4 => ?_)
                          · refine xn_iinc dX10_tellLaw_46 rfl kc_1 ?_
                            refine xe_aload_n dX10_tellLaw_49 rfl ?_
                            refine xe_callVV (d' := 1) (y' := mX10_goesOn) dX10_tellLaw_50 mlX10_219 mvX10_goesOn rfl (st124 hs) (by decide) rfl (by decide) (by decide) (Nat.le_of_ble_eq_true rfl) (c_X10_goesOn_t l g _ (by exact hs) (t := t) (by exact h11) (by omega)) rfl ?_
                            refine xe_aload_n dX10_tellLaw_53 rfl ?_
                            refine xe_getP dX10_tellLaw_54 flX10_76 (st124 hs) (by decide) rfl (sp124_34 hs) ?_
                            refine xe_aload_n dX10_tellLaw_57 rfl ?_
                            refine xe_getIv dX10_tellLaw_58 flX10_237 (st124 hs) (by decide) rfl (v := nI bb) (h33) ?_
                            refine xe_iconst dX10_tellLaw_61 kc_1 ?_
                            refine xn_zast dX10_tellLaw_62 (st144 hs) (by omega) (by decide) rfl ?_
                            refine xe_aload_n dX10_tellLaw_63 rfl ?_
                            refine xe_getP dX10_tellLaw_64 flX10_80 (st124 hs) (by decide) rfl (sp124_35 hs) ?_
                            refine xe_aload_n dX10_tellLaw_67 rfl ?_
                            refine xe_getIv dX10_tellLaw_68 flX10_237 (st124 hs) (by decide) rfl (v := nI bb) (h33) ?_
                            refine xe_aload_n dX10_tellLaw_71 rfl ?_
                            refine xe_getIv dX10_tellLaw_72 flX10_240 (st124 hs) (by decide) rfl (v := nI cc) (h39) ?_
                            refine xn_iast dX10_tellLaw_75 (st145 hs) (by omega) (by decide) ?_
                            refine xe_aload_n dX10_tellLaw_76 rfl ?_
                            refine xe_callVVq (d' := 3) (y' := mX10_expression) dX10_tellLaw_77 mlX10_289 mvX10_expression rfl (st124 hs) (by decide) rfl (by decide) (by decide) (Nat.le_of_ble_eq_true rfl) (rx_inr u1 (r_expr l g aA)) rfl (fun hx hq => ?_)
                            obtain ⟨fhx, ahx, shx, rhx⟩ := hq
                            have hs : q_Stat hx := ahx.1
                            have hR := ahx.2.1
                            have h11 := hR.2.2.1
                            have h13 := hR.2.2.2
                            have h33 := ahx.2.2.2.2.2.1
                            have h39 := ahx.2.2.2.2.2.2.1
                            have htm := hR.2.1
                            refine xe_aload_n dX10_tellLaw_80 rfl ?_
                            refine xe_bipush dX10_tellLaw_81 kb_13 ?_
                            refine xe_callVV (d' := 2) (y' := mX10_must) dX10_tellLaw_83 mlX10_275 mvX10_must rfl (st124 hs) (by decide) rfl (by decide) (by decide) (Nat.le_of_ble_eq_true rfl) (c_X10_must_t l g _ (by exact hs) (t := x.2) hR (k := 13) k13) rfl ?_
                            refine xe_aload_n dX10_tellLaw_86 rfl ?_
                            refine xe_getP dX10_tellLaw_87 flX10_83 (st124 hs) (by decide) rfl (sp124_36 hs) ?_
                            refine xe_aload_n dX10_tellLaw_90 rfl ?_
                            refine xe_getIv dX10_tellLaw_91 flX10_237 (st124 hs) (by decide) rfl (v := nI bb) (h33) ?_
                            refine xe_aload_n dX10_tellLaw_94 rfl ?_
                            refine xe_getIv dX10_tellLaw_95 flX10_240 (st124 hs) (by decide) rfl (v := nI (cc + x.1.length)) (h39) ?_
                            refine xn_iast dX10_tellLaw_98 (st146 hs) (by omega) (by decide) ?_
                            have aB : q_rs (q_wI (q_wI hx 124 (upd (q_I hx 124) 11 (nI (x.2 + 1)))) 146 (upd (q_I hx 146) bb (nI (cc + x.1.length)))) K m sd (x.2 + 1) (cc + x.1.length) bb := (rs_w (by decide) (by decide) (rs_go ahx (rt_gn hR.1 htm k13 (by decide))))
                            have fB : q_rf sd cc bb h (q_wI (q_wI hx 124 (upd (q_I hx 124) 11 (nI (x.2 + 1)))) 146 (upd (q_I hx 146) bb (nI (cc + x.1.length)))) := (rf_b (rf_o (rf_t fA fhx (Nat.le_refl _) (Nat.le_refl _)) (fun k x1 x2 x3 x4 x5 x6 x7 => pk_un x1)) (by decide) (by decide) (Nat.le_refl _) (by omega))
                            refine xe_aload_n dX10_tellLaw_99 rfl ?_
                            refine xe_getIv dX10_tellLaw_100 flX10_198 (st124 hs) (by decide) rfl (v := nI 0) (h13) ?_
                            refine xn_if_ne (tgt := 110) dX10_tellLaw_103 rfl (by omega) (fun c5 => ?_) (fun c5 => ?_)
                            · omega
                            · refine xe_aload_n dX10_tellLaw_106 rfl ?_
                              refine xe_callVVq (d' := 3) (y' := mX10_expression) dX10_tellLaw_107 mlX10_289 mvX10_expression rfl (st124 hs) (by decide) rfl (by decide) (by decide) (Nat.le_of_ble_eq_true rfl) (rx_inr u2 (r_expr l g aB)) rfl (fun hy hq => ?_)
                              obtain ⟨fhy, ahy, shy, rhy⟩ := hq
                              have hs : q_Stat hy := ahy.1
                              have hR := ahy.2.1
                              have h11 := hR.2.2.1
                              have h13 := hR.2.2.2
                              have h33 := ahy.2.2.2.2.2.1
                              have h39 := ahy.2.2.2.2.2.2.1
                              have htm := hR.2.1
                              refine xe_aload_n dX10_tellLaw_110 rfl ?_
                              refine xe_bipush dX10_tellLaw_111 kb_29 ?_
                              refine xe_callVV (d' := 2) (y' := mX10_must) dX10_tellLaw_113 mlX10_275 mvX10_must rfl (st124 hs) (by decide) rfl (by decide) (by decide) (Nat.le_of_ble_eq_true rfl) (c_X10_must_t l g _ (by exact hs) (t := y.2) hR (k := 29) k29) rfl ?_
                              have aC : q_rs (q_wI hy 124 (upd (q_I hy 124) 11 (nI (y.2 + 1)))) K m sd (y.2 + 1) (cc + x.1.length + y.1.length) bb := (rs_go ahy (rt_gn hR.1 htm k29 (by decide)))
                              have fC : q_rf sd cc bb h (q_wI hy 124 (upd (q_I hy 124) 11 (nI (y.2 + 1)))) := (rf_o (rf_t fB fhy (by omega) (Nat.le_refl _)) (fun k x1 x2 x3 x4 x5 x6 x7 => pk_un x1))
                              refine xe_aload_n dX10_tellLaw_116 rfl ?_
                              refine xe_callVVq (d' := 4) (y' := mX10_term) dX10_tellLaw_117 mlX10_292 mvX10_term rfl (st124 hs) (by decide) rfl (by decide) (by decide) (Nat.le_of_ble_eq_true rfl) (tm_inr u3 (r_term l g _ aC (by omega))) rfl (fun hz hq => ?_)
                              obtain ⟨fhz, ahz, shz, e147, e148, e144, e145, e146⟩ := hq
                              have hs : q_Stat hz := ahz.1
                              have hR := ahz.2.1
                              have h11 := hR.2.2.1
                              have h13 := hR.2.2.2
                              have h33 := ahz.2.2.2.2.2.1
                              have h39 := ahz.2.2.2.2.2.2.1
                              have htm := hR.2.1
                              refine xe_aload_n dX10_tellLaw_120 rfl ?_
                              refine xe_bipush dX10_tellLaw_121 kb_30 ?_
                              refine xe_callVV (d' := 2) (y' := mX10_must) dX10_tellLaw_123 mlX10_275 mvX10_must rfl (st124 hs) (by decide) rfl (by decide) (by decide) (Nat.le_of_ble_eq_true rfl) (c_X10_must_t l g _ (by exact hs) (t := z.2) hR (k := 30) k30) rfl ?_
                              refine xe_goto (tgt := 12) dX10_tellLaw_126 rfl ?_
                              have hgo4 : z.2 + 1 ≤ m := rt_gn hR.1 htm k30 (by decide)
                              refine xe_locals (L' := [(0, .ref 124), (1, .int kx), (2, .int fx), (3, .int (nI (i + 1)))]) (And.intro rfl (And.intro rfl (And.intro rfl (And.intro rfl trivial)))) ?_
                              have fD : q_rf sd cc bb h (q_wI hz 124 (upd (q_I hz 124) 11 (nI (z.2 + 1)))) := rf_o (rf_t fC fhz (by omega) (Nat.le_refl _)) (fun k x1 x2 x3 x4 x5 x6 x7 => pk_un x1)
                              have aD : q_rs (q_wI hz 124 (upd (q_I hz 124) 11 (nI (z.2 + 1)))) K m sd (z.2 + 1) (cc + x.1.length + y.1.length + z.1.length) (bb + 1) := rs_go ahz hgo4
                              have b144 : q_I hz 144 bb = nI 1 := (congrFun e144 bb).trans ((congrFun (rhy 144 (by decide) (by decide)) bb).trans ((congrFun (rhx 144 (by decide) (by decide)) bb).trans pk_us))
                              have b145 : q_I hz 145 bb = nI cc := (congrFun e145 bb).trans ((congrFun (rhy 145 (by decide) (by decide)) bb).trans ((congrFun (rhx 145 (by decide) (by decide)) bb).trans pk_us))
                              have b146 : q_I hz 146 bb = nI (cc + x.1.length) := (congrFun e146 bb).trans ((congrFun (rhy 146 (by decide) (by decide)) bb).trans pk_us)
                              have sxz : q_sg (q_I hz 149) (q_I hz 150) cc x.1 := q_sg_co (fun i h1 h2 => ⟨((fhz.2.2.2.1 i (by omega)).1).trans ((fhy.2.2.2.1 i (by omega)).1), ((fhz.2.2.2.1 i (by omega)).2).trans ((fhy.2.2.2.1 i (by omega)).2)⟩) shx
                              have syz : q_sg (q_I hz 149) (q_I hz 150) (cc + x.1.length) y.1 := q_sg_co (fun i h1 h2 => ⟨(fhz.2.2.2.1 i (by omega)).1, (fhz.2.2.2.1 i (by omega)).2⟩) shy
                              have eK : ∀ o, tx_ifs K k [] (z.2 + 1) = o → (tx_b (tx_ck (tk_T K) 13 x.2) (tx_r (tx_sum K 6 (x.2 + 1)) fun y => tx_b (tx_ck (tk_T K) 29 y.2) (tx_r (tx_sum K 6 (y.2 + 1)) fun z => tx_b (tx_ck (tk_T K) 30 z.2) (tx_ifs K k [(x.1, y.1, z.1)] (z.2 + 1)))) : (Nat × Nat) ⊕ (q_lawT × Nat)) = tx_pre [(x.1, y.1, z.1)] o := fun o ho => by
                                show tx_b (tx_ck (tk_T K) 13 x.2) _ = _; rw [k13]; show tx_r (tx_sum K 6 (x.2 + 1)) _ = _; rw [u2]; show tx_b (tx_ck (tk_T K) 29 y.2) _ = _; rw [k29]; show tx_r (tx_sum K 6 (y.2 + 1)) _ = _; rw [u3]; show tx_b (tx_ck (tk_T K) 30 z.2) _ = _; rw [k30]
                                show tx_ifs K k [(x.1, y.1, z.1)] (z.2 + 1) = _
                                rw [tx_ifs_acc, ho]
                              refine ih (i + 1) _ (z.2 + 1) _ (bb + 1) Q aD (by omega) (by omega) (fun rows e t' cc' h1 hx f3 a3 hb3 br hcc hz' i' => ?_) (fun er h1 hx f3 a3 => K0 er h1 (eK _ hx) (rf_t fD f3 (by omega) (by omega)) a3)
                              have er1 : bb + 1 + rows.length + 1 = bb + (((x.1, y.1, z.1) :: rows : List q_ROW).length) + 1 := by
                                show _ = bb + (rows.length + 1) + 1
                                omega
                              have kb : ∀ r, 144 ≤ r → r ≤ 148 → q_I h1 r bb = q_I hz r bb := fun r p1 p2 => (f3.2.2.2.2 r p1 p2 bb (Or.inl (Nat.lt_succ_self _))).trans (congrFun (q_Ine (by omega)) bb)
                              refine K1 ((x.1, y.1, z.1) :: rows) e t' cc' h1 (eK _ hx) (rf_t fD f3 (by omega) (by omega)) (by rw [← er1]; exact a3) (by rw [← er1]; exact hb3) ?_ (by omega) (fun j hj => ?_) i'
                              rotate_right
                              · cases j with
                                | zero => exact ⟨⟨_, hcc, (kb 148 (by decide) (by decide)).trans e148⟩, lo_0 hc1 (by omega) ((kb 145 (by decide) (by decide)).trans b145)⟩
                                | succ j =>
                                  obtain ⟨⟨z9, y1, y2⟩, y3⟩ := hz' j (Nat.le_of_succ_le_succ hj)
                                  exact ⟨⟨z9, y1, by rw [show bb + (j + 1) = bb + 1 + j by omega]; exact y2⟩, lo_s y3⟩
                              have kc : ∀ i, i < cc + x.1.length + y.1.length + z.1.length → q_I h1 149 i = q_I hz 149 i ∧ q_I h1 150 i = q_I hz 150 i := fun i p => ⟨(f3.2.2.2.1 i (Or.inl p)).1, (f3.2.2.2.1 i (Or.inl p)).2⟩
                              · exact ⟨⟨(kb 144 (by decide) (by decide)).trans b144, cc, (kb 145 (by decide) (by decide)).trans b145, (kb 146 (by decide) (by decide)).trans b146, (kb 147 (by decide) (by decide)).trans e147, (kb 148 (by decide) (by decide)).trans e148, by omega, q_sg_co (fun i h1 h2 => kc i (by omega)) sxz, q_sg_co (fun i h1 h2 => kc i (by omega)) syz, q_sg_co (fun i h1 h2 => kc i (by omega)) shz, q_wf_up (by decide) _ _ wfx, q_wf_up (by decide) _ _ wfy, q_wf_up (by decide) _ _ wfz⟩, br⟩
                          · omega
                        · omega
    · skip
      rw [if_neg h28] at K1 K0
      have aw : q_rs (q_wI h 144 (upd (q_I h 144) bb (nI 0))) K m sd t cc bb := rs_w (by decide) (by decide) a
      have fw : q_rf sd cc bb h (q_wI h 144 (upd (q_I h 144) bb (nI 0))) := rf_b rf_r (by decide) (by decide) (Nat.le_refl _) (by omega)
      cases hu : tx_sum K 6 t with
      | inl er =>
        refine xe_aload_n dX10_tellLaw_12 rfl ?_
        refine xe_getIv dX10_tellLaw_13 flX10_198 (st124 hs) (by decide) rfl (v := nI 0) (h13) ?_
        refine xn_if_ne (tgt := 129) dX10_tellLaw_16 rfl (by omega) (fun c1 => ?_) (fun c1 => ?_)
        · omega
        · refine xe_aload_n dX10_tellLaw_19 rfl ?_
          refine xe_bipush dX10_tellLaw_20 kb_28 ?_
          refine xe_callVI (d' := 0) (y' := mX10_is) dX10_tellLaw_22 mlX10_216 mvX10_is rfl (st124 hs) (by decide) rfl (by decide) (by decide) (Nat.le_of_ble_eq_true rfl) (c_X10_is_0 l g _ (by exact hs) hR (by decide) (h28)) rfl ?_
          refine xn_if_eq (tgt := 129) dX10_tellLaw_25 rfl (by omega) (fun c2 => ?_) (fun c2 => ?_)
          · refine xe_aload_n dX10_tellLaw_129 rfl ?_
            refine xe_getP dX10_tellLaw_130 flX10_76 (st124 hs) (by decide) rfl (sp124_34 hs) ?_
            refine xe_aload_n dX10_tellLaw_133 rfl ?_
            refine xe_getIv dX10_tellLaw_134 flX10_237 (st124 hs) (by decide) rfl (v := nI bb) (h33) ?_
            refine xe_iconst dX10_tellLaw_137 kc_0 ?_
            refine xn_zast dX10_tellLaw_138 (st144 hs) (by omega) (by decide) rfl ?_
            refine xe_aload_n dX10_tellLaw_139 rfl ?_
            refine xe_callVVq (d' := 4) (y' := mX10_term) dX10_tellLaw_140 mlX10_292 mvX10_term rfl (st124 hs) (by decide) rfl (by decide) (by decide) (Nat.le_of_ble_eq_true rfl) (tm_inl hu (r_term l g _ aw (by omega))) rfl (fun h1 hq => ?_)
            obtain ⟨f1, a1, k33⟩ := hq
            obtain ⟨hs, h19, -, h13, -, he1, he5, -, -, -⟩ := id a1
            refine xe_aload_n dX10_tellLaw_143 rfl ?_
            refine xe_iconst dX10_tellLaw_144 kc_4 ?_
            refine xe_callVV (d' := 2) (y' := mX10_must) dX10_tellLaw_145 mlX10_275 mvX10_must rfl (st124 hs) (by decide) rfl (by decide) (by decide) (Nat.le_of_ble_eq_true rfl) (c_X10_must_b l g _ (by exact hs) (by exact h13) (by omega) he5 _) rfl ?_
            refine xe_aload_n dX10_tellLaw_148 rfl ?_
            refine xe_getIv dX10_tellLaw_149 flX10_198 (st124 hs) (by decide) rfl (v := nI er.1) (h13) ?_
            refine xn_if_gt (tgt := 159) dX10_tellLaw_152 rfl (by omega) (fun c3 => ?_) (fun c3 => ?_)
            · refine xe_return dX10_tellLaw_159 rfl ?_
              exact K0 er h1 (by rw [hu]; rfl) (rf_t fw f1 (Nat.le_refl _) (Nat.le_refl _)) a1
            · omega
          · omega
      | inr x =>
        obtain ⟨g1, g2, g3, g4, g5⟩ := tx_sum_ok K 6 _ _ hu
        have wfx := tx_sum_wf hu
        rw [hu] at K1 K0
        have K1 : ∀ (rows : List q_ROW) (e : List (Nat × Int32)) (t' cc' : Nat) (h1 : q_H), (tx_b (tx_ck (tk_T K) 4 x.2) (.inr (([], x.1), x.2 + 1)) : (Nat × Nat) ⊕ (q_lawT × Nat)) = .inr ((rows, e), t') → q_rf sd cc bb h h1 → q_rs h1 K m sd t' cc' (bb + rows.length + 1) → 4 * (bb + rows.length + 1 - 130 * sd) ≤ t' → q_br h1 bb rows e → cc ≤ cc' → (∀ j, j ≤ rows.length → (∃ z, z ≤ cc' ∧ q_I h1 148 (bb + j) = nI z) ∧ q_lo sd h1 bb rows.length j) → ∀ i', q_Ex l g 5 mX10_tellLaw 148 [(0, .ref 124), (1, .int kx), (2, .int fx), (3, .int (nI i'))] [] h1 Q := K1
        have K0 : ∀ er h1, (tx_b (tx_ck (tk_T K) 4 x.2) (.inr (([], x.1), x.2 + 1)) : (Nat × Nat) ⊕ (q_lawT × Nat)) = .inl er → q_rf sd cc bb h h1 → q_rb h1 K sd er → Q none h1 := K0
        cases hc : tx_ck (tk_T K) 4 x.2 with
        | some er =>
          refine xe_aload_n dX10_tellLaw_12 rfl ?_
          refine xe_getIv dX10_tellLaw_13 flX10_198 (st124 hs) (by decide) rfl (v := nI 0) (h13) ?_
          refine xn_if_ne (tgt := 129) dX10_tellLaw_16 rfl (by omega) (fun c1 => ?_) (fun c1 => ?_)
          · omega
          · refine xe_aload_n dX10_tellLaw_19 rfl ?_
            refine xe_bipush dX10_tellLaw_20 kb_28 ?_
            refine xe_callVI (d' := 0) (y' := mX10_is) dX10_tellLaw_22 mlX10_216 mvX10_is rfl (st124 hs) (by decide) rfl (by decide) (by decide) (Nat.le_of_ble_eq_true rfl) (c_X10_is_0 l g _ (by exact hs) hR (by decide) (h28)) rfl ?_
            refine xn_if_eq (tgt := 129) dX10_tellLaw_25 rfl (by omega) (fun c2 => ?_) (fun c2 => ?_)
            · refine xe_aload_n dX10_tellLaw_129 rfl ?_
              refine xe_getP dX10_tellLaw_130 flX10_76 (st124 hs) (by decide) rfl (sp124_34 hs) ?_
              refine xe_aload_n dX10_tellLaw_133 rfl ?_
              refine xe_getIv dX10_tellLaw_134 flX10_237 (st124 hs) (by decide) rfl (v := nI bb) (h33) ?_
              refine xe_iconst dX10_tellLaw_137 kc_0 ?_
              refine xn_zast dX10_tellLaw_138 (st144 hs) (by omega) (by decide) rfl ?_
              refine xe_aload_n dX10_tellLaw_139 rfl ?_
              refine xe_callVVq (d' := 4) (y' := mX10_term) dX10_tellLaw_140 mlX10_292 mvX10_term rfl (st124 hs) (by decide) rfl (by decide) (by decide) (Nat.le_of_ble_eq_true rfl) (tm_inr hu (r_term l g _ aw (by omega))) rfl (fun h1 hq => ?_)
              obtain ⟨f1, a1, s1, e147, e148, e144, e145, e146⟩ := hq
              have hs : q_Stat h1 := a1.1
              have hR := a1.2.1
              have h11 := hR.2.2.1
              have h13 := hR.2.2.2
              have h33 := a1.2.2.2.2.2.1
              have h39 := a1.2.2.2.2.2.2.1
              have htm := hR.2.1
              refine xe_aload_n dX10_tellLaw_143 rfl ?_
              refine xe_iconst dX10_tellLaw_144 kc_4 ?_
              refine xe_callVV (d' := 2) (y' := mX10_must) dX10_tellLaw_145 mlX10_275 mvX10_must rfl (st124 hs) (by decide) rfl (by decide) (by decide) (Nat.le_of_ble_eq_true rfl) (c_X10_must_f l g _ (by exact hs) (t := x.2) hR (k := 4) (by decide) (f := er.1) (u := er.2) hc) rfl ?_
              refine xe_aload_n dX10_tellLaw_148 rfl ?_
              refine xe_getIv dX10_tellLaw_149 flX10_198 (st124 hs) (by decide) rfl (v := nI er.1) (rfl) ?_
              have he := ck_15 hc
              refine xn_if_gt (tgt := 159) dX10_tellLaw_152 rfl (by omega) (fun c3 => ?_) (fun c3 => ?_)
              · refine xe_return dX10_tellLaw_159 rfl ?_
                exact K0 er _ (by rw [hc]; rfl) (rf_o (rf_t fw f1 (Nat.le_refl _) (Nat.le_refl _)) (fun k x1 x2 x3 x4 x5 x6 x7 => (pk_un x4).trans (pk_un x3))) (rs_f a1 he.1 he.2)
              · omega
            · omega
        | none =>
          refine xe_aload_n dX10_tellLaw_12 rfl ?_
          refine xe_getIv dX10_tellLaw_13 flX10_198 (st124 hs) (by decide) rfl (v := nI 0) (h13) ?_
          refine xn_if_ne (tgt := 129) dX10_tellLaw_16 rfl (by omega) (fun c1 => ?_) (fun c1 => ?_)
          · omega
          · refine xe_aload_n dX10_tellLaw_19 rfl ?_
            refine xe_bipush dX10_tellLaw_20 kb_28 ?_
            refine xe_callVI (d' := 0) (y' := mX10_is) dX10_tellLaw_22 mlX10_216 mvX10_is rfl (st124 hs) (by decide) rfl (by decide) (by decide) (Nat.le_of_ble_eq_true rfl) (c_X10_is_0 l g _ (by exact hs) hR (by decide) (h28)) rfl ?_
            refine xn_if_eq (tgt := 129) dX10_tellLaw_25 rfl (by omega) (fun c2 => ?_) (fun c2 => ?_)
            · refine xe_aload_n dX10_tellLaw_129 rfl ?_
              refine xe_getP dX10_tellLaw_130 flX10_76 (st124 hs) (by decide) rfl (sp124_34 hs) ?_
              refine xe_aload_n dX10_tellLaw_133 rfl ?_
              refine xe_getIv dX10_tellLaw_134 flX10_237 (st124 hs) (by decide) rfl (v := nI bb) (h33) ?_
              refine xe_iconst dX10_tellLaw_137 kc_0 ?_
              refine xn_zast dX10_tellLaw_138 (st144 hs) (by omega) (by decide) rfl ?_
              refine xe_aload_n dX10_tellLaw_139 rfl ?_
              refine xe_callVVq (d' := 4) (y' := mX10_term) dX10_tellLaw_140 mlX10_292 mvX10_term rfl (st124 hs) (by decide) rfl (by decide) (by decide) (Nat.le_of_ble_eq_true rfl) (tm_inr hu (r_term l g _ aw (by omega))) rfl (fun h1 hq => ?_)
              obtain ⟨f1, a1, s1, e147, e148, e144, e145, e146⟩ := hq
              have hs : q_Stat h1 := a1.1
              have hR := a1.2.1
              have h11 := hR.2.2.1
              have h13 := hR.2.2.2
              have h33 := a1.2.2.2.2.2.1
              have h39 := a1.2.2.2.2.2.2.1
              have htm := hR.2.1
              refine xe_aload_n dX10_tellLaw_143 rfl ?_
              refine xe_iconst dX10_tellLaw_144 kc_4 ?_
              refine xe_callVV (d' := 2) (y' := mX10_must) dX10_tellLaw_145 mlX10_275 mvX10_must rfl (st124 hs) (by decide) rfl (by decide) (by decide) (Nat.le_of_ble_eq_true rfl) (c_X10_must_t l g _ (by exact hs) (t := x.2) hR (k := 4) hc) rfl ?_
              have hgo : x.2 + 1 ≤ m := rt_gn hR.1 htm hc (by decide)
              refine xe_locals (L' := [(0, .ref 124), (1, .int kx), (2, .int fx), (3, .int (nI i))]) (And.intro rfl (And.intro rfl (And.intro rfl (And.intro rfl trivial)))) ?_
              refine K1 [] x.1 (x.2 + 1) (cc + x.1.length) _ (by rw [hc]; rfl) (rf_o (rf_t fw f1 (Nat.le_refl _) (Nat.le_refl _)) (fun k x1 x2 x3 x4 x5 x6 x7 => pk_un x1)) (rs_go a1 hgo) (by show 4 * (bb + 0 + 1 - 130 * sd) ≤ x.2 + 1; omega) ⟨?_, cc, e147, e148, by omega, s1, q_wf_up (by decide) _ _ wfx⟩ (Nat.le_add_right _ _) (fun j hj => by rw [show j = 0 from Nat.le_zero.mp hj]; exact ⟨⟨_, Nat.le_refl _, e148⟩, lo_e hc1 (by omega) e147⟩) i
              exact (congrFun e144 bb).trans pk_us
            · omega
