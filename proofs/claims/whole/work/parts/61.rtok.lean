/-! the reference: its tokens, faults, codes -/
/-- letters as one number, 27 to a place -/
def q_f27 : Nat → List Nat → Nat
  | a, [] => a
  | a, c :: l => q_f27 (27 * a + c) l
def q_n27 (l : List Nat) : Nat := q_f27 0 l
def q_e27 (l : List Nat) : Int64 := Int64.ofNat (q_n27 l)
theorem q_f27_lt : ∀ (l : List Nat) (a : Nat), (∀ c ∈ l, 1 ≤ c ∧ c ≤ 26) → q_f27 a l < (a + 1) * 27 ^ l.length
  | [], a, _ => by
    show a < (a + 1) * 1
    omega
  | c :: l, a, h => by
    have h1 := h c List.mem_cons_self
    have ih := q_f27_lt l (27 * a + c) (fun x hx => h x (List.mem_cons_of_mem _ hx))
    have e : 27 ^ (c :: l).length = 27 * 27 ^ l.length := by
      rw [List.length_cons, Nat.pow_succ, Nat.mul_comm]
    show q_f27 (27 * a + c) l < (a + 1) * 27 ^ (c :: l).length
    rw [e, ← Nat.mul_assoc]
    refine Nat.lt_of_lt_of_le ih (Nat.mul_le_mul_right _ ?_)
    omega
theorem q_n27_lt {l : List Nat} (h : nm_ok l) : q_n27 l < 2 ^ 40 := by
  have h1 := q_f27_lt l 0 h.2
  have h2 : (27 : Nat) ^ l.length ≤ 27 ^ 8 := Nat.pow_le_pow_right (by decide) h.1
  have h3 : (27 : Nat) ^ 8 ≤ 2 ^ 40 := by decide
  unfold q_n27
  omega
theorem q_f27_app (l : List Nat) (c : Nat) : ∀ a, q_f27 a (l ++ [c]) = 27 * q_f27 a l + c := by
  induction l with
  | nil => intro a; rfl
  | cons x l ih => intro a; exact ih (27 * a + x)
theorem q_n27_inj : ∀ (n : Nat) (a b : List Nat), a.length ≤ n → (∀ c ∈ a, 1 ≤ c ∧ c ≤ 26) → (∀ c ∈ b, 1 ≤ c ∧ c ≤ 26) → q_n27 a = q_n27 b → a = b := by
  intro n
  induction n with
  | zero =>
    intro a b ha h1 h2 e
    have : a = [] := List.length_eq_zero_iff.mp (by omega)
    subst this
    rcases q_snoc_or b with rfl | ⟨i, x, rfl⟩
    · rfl
    · have e2 : (0 : Nat) = 27 * q_f27 0 i + x := (show q_n27 [] = q_n27 (i ++ [x]) from e).trans (q_f27_app i x 0)
      have := h2 x (by simp)
      omega
  | succ n ih =>
    intro a b ha h1 h2 e
    rcases q_snoc_or a with rfl | ⟨i, x, rfl⟩
    · rcases q_snoc_or b with rfl | ⟨j, y, rfl⟩
      · rfl
      · have e2 : (0 : Nat) = 27 * q_f27 0 j + y := (show q_n27 [] = q_n27 (j ++ [y]) from e).trans (q_f27_app j y 0)
        have := h2 y (by simp)
        omega
    · have hx := h1 x (by simp)
      rcases q_snoc_or b with rfl | ⟨j, y, rfl⟩
      · have e2 : 27 * q_f27 0 i + x = (0 : Nat) := (q_f27_app i x 0).symm.trans (show q_n27 (i ++ [x]) = q_n27 [] from e)
        omega
      · have hy := h2 y (by simp)
        have e2 : 27 * q_f27 0 i + x = 27 * q_f27 0 j + y := ((q_f27_app i x 0).symm.trans e).trans (q_f27_app j y 0)
        have e3 : q_n27 i = q_n27 j := by
          show q_f27 0 i = q_f27 0 j
          omega
        have e4 : x = y := by
          have : q_f27 0 i = q_f27 0 j := e3
          omega
        rw [List.length_append] at ha
        have ha : i.length + 1 ≤ n + 1 := ha
        rw [ih i j (by omega) (fun c hc => h1 c (by simp [hc])) (fun c hc => h2 c (by simp [hc])) e3, e4]
theorem q_e27_inj {a b : List Nat} (ha : nm_ok a) (hb : nm_ok b) : q_e27 a = q_e27 b ↔ a = b := by
  have h1 := q_n27_lt ha
  have h2 := q_n27_lt hb
  unfold q_e27
  rw [q_o64 (by omega) (by omega)]
  exact ⟨fun e => q_n27_inj _ a b (Nat.le_refl _) ha.2 hb.2 e, fun e => by rw [e]⟩
/-- the tokens stand in the reference's rows, up to the m-th -/
def rt_T (h : q_H) (K : q_TK) (m : Nat) : Prop := m ≤ 400 ∧ (m = 400 ∨ tk_T K m = 0) ∧ ∀ i, i ≤ m → tk_T K i ≤ 36 ∧ tk_P K i < 2 ^ 20 ∧ q_I h 127 i = nI (tk_T K i) ∧ q_I h 128 i = nI (tk_P K i) ∧ (tk_T K i = 1 → q_J h 130 i = q_e27 (tk_N K i) ∧ nm_ok (tk_N K i)) ∧ (tk_T K i = 2 → q_I h 129 i = nI (tk_V K i) ∧ tk_V K i ≤ 9999)
/-- at token t, no fault -/
def rt_R (h : q_H) (K : q_TK) (m t : Nat) : Prop := rt_T h K m ∧ t ≤ m ∧ q_I h 124 11 = nI t ∧ q_I h 124 13 = nI 0
theorem rt_go {h : q_H} {K : q_TK} {m t : Nat} (hT : rt_T h K m) (ht : t ≤ m) (h4 : t < 400) (h0 : ¬ tk_T K t = 0) : t + 1 ≤ m := by
  rcases hT.2.1 with q | q
  · omega
  · rcases Nat.lt_or_ge t m with z | z
    · exact z
    · rw [show m = t by omega] at q
      exact absurd q h0
theorem rt_gn {h : q_H} {K : q_TK} {m t k : Nat} (hT : rt_T h K m) (ht : t ≤ m) (hc : tx_ck (tk_T K) k t = none) (h0 : ¬ k = 0) : t + 1 ≤ m := by
  obtain ⟨hk, h4⟩ := tx_ck_none hc
  exact rt_go hT ht h4 (by rw [hk]; exact h0)
theorem rt_Tc {h h1 : q_H} {K : q_TK} {m : Nat} (hT : rt_T h K m) (e7 : q_I h1 127 = q_I h 127) (e8 : q_I h1 128 = q_I h 128) (e9 : q_I h1 129 = q_I h 129) (eJ : q_J h1 130 = q_J h 130) : rt_T h1 K m := by
  unfold rt_T
  rw [e7, e8, e9, eJ]
  exact hT
theorem c_X10_is_1 (l : Launch) (g : q_GP) (h : q_H) (hs : q_Stat h) {K : q_TK} {m t : Nat} (hR : rt_R h K m t) {k : Nat} (hk : tk_T K t = k) : q_Cd l g 0 mX10_is [.ref 124, .int (nI k)] h (some (.int (nI 1))) h := by
  obtain ⟨hT, ht, h11, h13⟩ := id hR
  obtain ⟨hm4, hme, hti⟩ := id hT
  obtain ⟨z1, z2, z3, z4, z5, z6⟩ := hti t ht
  refine q_CdV mvX10_is (Nat.le_of_ble_eq_true rfl) ?_
  refine xe_aload_n dX10_is_0 rfl ?_
  refine xe_getIv dX10_is_1 flX10_198 (st124 hs) (by decide) rfl (v := nI 0) (h13) ?_
  refine xn_if_ne (tgt := 24) dX10_is_4 rfl (by omega) (fun c1 => ?_) (fun c1 => ?_)
  · omega
  · refine xe_aload_n dX10_is_7 rfl ?_
    refine xe_getP dX10_is_8 flX10_20 (st124 hs) (by decide) rfl (sp124_5 hs) ?_
    refine xe_aload_n dX10_is_11 rfl ?_
    refine xe_getIv dX10_is_12 flX10_201 (st124 hs) (by decide) rfl (v := nI t) (h11) ?_
    refine xn_ialdv dX10_is_15 (st127 hs) (by omega) (by decide) (v := nI (tk_T K t)) (z3) ?_
    refine xe_iload_n dX10_is_16 rfl ?_
    refine xn_icmp_ne (tgt := 24) dX10_is_17 rfl (by omega) (by omega) (fun c2 => ?_) (fun c2 => ?_)
    · omega
    · refine xe_iconst dX10_is_20 kc_1 ?_
      refine xe_goto (tgt := 25) dX10_is_21 rfl ?_
      refine xe_ireturn dX10_is_25 rfl (by first | rfl | decide +kernel) ?_
      exact ⟨rfl, rfl⟩
theorem c_X10_is_0 (l : Launch) (g : q_GP) (h : q_H) (hs : q_Stat h) {K : q_TK} {m t : Nat} (hR : rt_R h K m t) {k : Nat} (hk9 : k < 100) (hk : ¬ tk_T K t = k) : q_Cd l g 0 mX10_is [.ref 124, .int (nI k)] h (some (.int (nI 0))) h := by
  obtain ⟨hT, ht, h11, h13⟩ := id hR
  obtain ⟨hm4, hme, hti⟩ := id hT
  obtain ⟨z1, z2, z3, z4, z5, z6⟩ := hti t ht
  refine q_CdV mvX10_is (Nat.le_of_ble_eq_true rfl) ?_
  refine xe_aload_n dX10_is_0 rfl ?_
  refine xe_getIv dX10_is_1 flX10_198 (st124 hs) (by decide) rfl (v := nI 0) (h13) ?_
  refine xn_if_ne (tgt := 24) dX10_is_4 rfl (by omega) (fun c1 => ?_) (fun c1 => ?_)
  · omega
  · refine xe_aload_n dX10_is_7 rfl ?_
    refine xe_getP dX10_is_8 flX10_20 (st124 hs) (by decide) rfl (sp124_5 hs) ?_
    refine xe_aload_n dX10_is_11 rfl ?_
    refine xe_getIv dX10_is_12 flX10_201 (st124 hs) (by decide) rfl (v := nI t) (h11) ?_
    refine xn_ialdv dX10_is_15 (st127 hs) (by omega) (by decide) (v := nI (tk_T K t)) (z3) ?_
    refine xe_iload_n dX10_is_16 rfl ?_
    refine xn_icmp_ne (tgt := 24) dX10_is_17 rfl (by omega) (by omega) (fun c2 => ?_) (fun c2 => ?_)
    · refine xe_iconst dX10_is_24 kc_0 ?_
      refine xe_ireturn dX10_is_25 rfl (by first | rfl | decide +kernel) ?_
      exact ⟨rfl, rfl⟩
    · omega
theorem c_X10_is_f (l : Launch) (g : q_GP) (h : q_H) (hs : q_Stat h) {f : Nat} (h13 : q_I h 124 13 = nI f) (hf : 0 < f) (hf5 : f ≤ 5) (k : Int32) : q_Cd l g 0 mX10_is [.ref 124, .int k] h (some (.int (nI 0))) h := by
  refine q_CdV mvX10_is (Nat.le_of_ble_eq_true rfl) ?_
  refine xe_aload_n dX10_is_0 rfl ?_
  refine xe_getIv dX10_is_1 flX10_198 (st124 hs) (by decide) rfl (v := nI f) (h13) ?_
  refine xn_if_ne (tgt := 24) dX10_is_4 rfl (by omega) (fun c1 => ?_) (fun c1 => ?_)
  · refine xe_iconst dX10_is_24 kc_0 ?_
    refine xe_ireturn dX10_is_25 rfl (by first | rfl | decide +kernel) ?_
    exact ⟨rfl, rfl⟩
  · omega
theorem c_X10_fail_f (l : Launch) (g : q_GP) (h : q_H) (hs : q_Stat h) {f : Nat} (h13 : q_I h 124 13 = nI f) (hf : 0 < f) (hf5 : f ≤ 5) (k : Int32) : q_Cd l g 0 mX10_fail [.ref 124, .int k] h none h := by
  refine q_CdV mvX10_fail (Nat.le_of_ble_eq_true rfl) ?_
  refine xe_aload_n dX10_fail_0 rfl ?_
  refine xe_getIv dX10_fail_1 flX10_198 (st124 hs) (by decide) rfl (v := nI f) (h13) ?_
  refine xn_if_le (tgt := 8) dX10_fail_4 rfl (by omega) (fun c1 => ?_) (fun c1 => ?_)
  · omega
  · refine xe_return dX10_fail_7 rfl ?_
    exact ⟨rfl, rfl⟩
theorem c_X10_fail_0 (l : Launch) (g : q_GP) (h : q_H) (hs : q_Stat h) {K : q_TK} {m t : Nat} (hR : rt_R h K m t) (k : Int32) : q_Cd l g 0 mX10_fail [.ref 124, .int k] h none (q_wI h 124 (upd (upd (q_I h 124) 13 k) 14 (nI (tk_P K t)))) := by
  obtain ⟨hT, ht, h11, h13⟩ := id hR
  obtain ⟨hm4, hme, hti⟩ := id hT
  obtain ⟨z1, z2, z3, z4, z5, z6⟩ := hti t ht
  refine q_CdV mvX10_fail (Nat.le_of_ble_eq_true rfl) ?_
  refine xe_aload_n dX10_fail_0 rfl ?_
  refine xe_getIv dX10_fail_1 flX10_198 (st124 hs) (by decide) rfl (v := nI 0) (h13) ?_
  refine xn_if_le (tgt := 8) dX10_fail_4 rfl (by omega) (fun c1 => ?_) (fun c1 => ?_)
  · refine xe_aload_n dX10_fail_8 rfl ?_
    refine xe_iload_n dX10_fail_9 rfl ?_
    refine xe_putI dX10_fail_10 flX10_198 (st124 hs) (by decide) rfl (Or.inl rfl) rfl rfl ?_
    refine xe_aload_n dX10_fail_13 rfl ?_
    refine xe_aload_n dX10_fail_14 rfl ?_
    refine xe_getP dX10_fail_15 flX10_24 (st124 hs) (by decide) rfl (sp124_6 hs) ?_
    refine xe_aload_n dX10_fail_18 rfl ?_
    refine xe_getIv dX10_fail_19 flX10_201 (st124 hs) (by decide) rfl (v := nI t) (h11) ?_
    refine xn_ialdv dX10_fail_22 (st128 hs) (by omega) (by decide) (v := nI (tk_P K t)) (z4) ?_
    refine xe_putI dX10_fail_23 flX10_204 (st124 hs) (by decide) rfl (Or.inl rfl) rfl rfl ?_
    refine xe_return dX10_fail_26 rfl ?_
    exact ⟨rfl, (q_heq [124] (H := h) (by repeat (first | exact q_out_r | refine q_out_w rfl ?_)) (by repeat (first | exact q_out_r | refine q_out_w rfl ?_)) (And.intro (q_feq [13, 14] (f := q_I h 124) (by repeat (first | exact q_fout_r | refine q_fout_w rfl ?_)) (by repeat (first | exact q_fout_r | refine q_fout_w rfl ?_)) (And.intro rfl (And.intro rfl trivial))) trivial))⟩
  · omega
theorem c_X10_goesOn_t (l : Launch) (g : q_GP) (h : q_H) (hs : q_Stat h) {t : Nat} (h11 : q_I h 124 11 = nI t) (ht4 : t < 400) : q_Cd l g 1 mX10_goesOn [.ref 124] h none (q_wI h 124 (upd (q_I h 124) 11 (nI (t + 1)))) := by
  refine q_CdV mvX10_goesOn (Nat.le_of_ble_eq_true rfl) ?_
  refine xe_aload_n dX10_goesOn_0 rfl ?_
  refine xe_getIv dX10_goesOn_1 flX10_201 (st124 hs) (by decide) rfl (v := nI t) (h11) ?_
  refine xe_sipush dX10_goesOn_4 ks_400 ?_
  refine xn_icmp_ne (tgt := 18) dX10_goesOn_7 rfl (by omega) (by omega) (fun c1 => ?_) (fun c1 => ?_)
  · refine xe_aload_n dX10_goesOn_18 rfl ?_
    refine xe_dup dX10_goesOn_19 rfl ?_
    refine xe_getIv dX10_goesOn_20 flX10_201 (st124 hs) (by decide) rfl (v := nI t) (h11) ?_
    refine xe_iconst dX10_goesOn_23 kc_1 ?_
    refine xn_iadd dX10_goesOn_24 ?_
    refine xe_putI dX10_goesOn_25 flX10_201 (st124 hs) (by decide) rfl (Or.inl rfl) rfl rfl ?_
    refine xe_return dX10_goesOn_28 rfl ?_
    exact ⟨rfl, (q_heq [124] (H := h) (by repeat (first | exact q_out_r | refine q_out_w rfl ?_)) (by repeat (first | exact q_out_r | refine q_out_w rfl ?_)) (And.intro (q_feq [11] (f := q_I h 124) (by repeat (first | exact q_fout_r | refine q_fout_w rfl ?_)) (by repeat (first | exact q_fout_r | refine q_fout_w rfl ?_)) (And.intro rfl trivial)) trivial))⟩
  · omega
theorem c_X10_goesOn_f (l : Launch) (g : q_GP) (h : q_H) (hs : q_Stat h) {K : q_TK} {m t : Nat} (hR : rt_R h K m t) (ht4 : 400 ≤ t) : q_Cd l g 1 mX10_goesOn [.ref 124] h none (q_wI h 124 (upd (upd (q_I h 124) 13 (nI 2)) 14 (nI (tk_P K t)))) := by
  obtain ⟨hT, ht, h11, h13⟩ := id hR
  obtain ⟨hm4, hme, hti⟩ := id hT
  obtain ⟨z1, z2, z3, z4, z5, z6⟩ := hti t ht
  refine q_CdV mvX10_goesOn (Nat.le_of_ble_eq_true rfl) ?_
  refine xe_aload_n dX10_goesOn_0 rfl ?_
  refine xe_getIv dX10_goesOn_1 flX10_201 (st124 hs) (by decide) rfl (v := nI t) (h11) ?_
  refine xe_sipush dX10_goesOn_4 ks_400 ?_
  refine xn_icmp_ne (tgt := 18) dX10_goesOn_7 rfl (by omega) (by omega) (fun c1 => ?_) (fun c1 => ?_)
  · omega
  · refine xe_aload_n dX10_goesOn_10 rfl ?_
    refine xe_iconst dX10_goesOn_11 kc_2 ?_
    refine xe_callVV (d' := 0) (y' := mX10_fail) dX10_goesOn_12 mlX10_213 mvX10_fail rfl (st124 hs) (by decide) rfl (by decide) (by decide) (Nat.le_of_ble_eq_true rfl) (c_X10_fail_0 l g _ (by exact hs) hR _) rfl ?_
    refine xe_goto (tgt := 28) dX10_goesOn_15 rfl ?_
    refine xe_return dX10_goesOn_28 rfl ?_
    exact ⟨rfl, (q_heq [124] (H := h) (by repeat (first | exact q_out_r | refine q_out_w rfl ?_)) (by repeat (first | exact q_out_r | refine q_out_w rfl ?_)) (And.intro (q_feq [13, 14] (f := q_I h 124) (by repeat (first | exact q_fout_r | refine q_fout_w rfl ?_)) (by repeat (first | exact q_fout_r | refine q_fout_w rfl ?_)) (And.intro rfl (And.intro rfl trivial))) trivial))⟩
theorem c_X10_goesOn_b (l : Launch) (g : q_GP) (h : q_H) (hs : q_Stat h) {f : Nat} (h13 : q_I h 124 13 = nI f) (hf : 0 < f) (hf5 : f ≤ 5) {t : Nat} (h11 : q_I h 124 11 = nI t) (ht4 : t ≤ 400) : q_Ct l g 1 mX10_goesOn [.ref 124] h (fun r h1 => r = none ∧ ∃ t1, t1 ≤ 400 ∧ h1 = q_wI h 124 (upd (q_I h 124) 11 (nI t1))) := by
  rcases Nat.lt_or_ge t 400 with q4 | q4
  · refine q_Ct_post (fun r h1 q => ?_) (c_X10_goesOn_t l g h hs h11 q4)
    obtain ⟨rfl, rfl⟩ := q
    exact ⟨rfl, t + 1, q4, rfl⟩
  · refine q_CtV mvX10_goesOn (Nat.le_of_ble_eq_true rfl) ?_
    refine xe_aload_n dX10_goesOn_0 rfl ?_
    refine xe_getIv dX10_goesOn_1 flX10_201 (st124 hs) (by decide) rfl (v := nI t) (h11) ?_
    refine xe_sipush dX10_goesOn_4 ks_400 ?_
    refine xn_icmp_ne (tgt := 18) dX10_goesOn_7 rfl (by omega) (by omega) (fun c1 => ?_) (fun c1 => ?_)
    · omega
    · refine xe_aload_n dX10_goesOn_10 rfl ?_
      refine xe_iconst dX10_goesOn_11 kc_2 ?_
      refine xe_callVV (d' := 0) (y' := mX10_fail) dX10_goesOn_12 mlX10_213 mvX10_fail rfl (st124 hs) (by decide) rfl (by decide) (by decide) (Nat.le_of_ble_eq_true rfl) (c_X10_fail_f l g _ (by exact hs) (by exact h13) hf hf5 _) rfl ?_
      refine xe_goto (tgt := 28) dX10_goesOn_15 rfl ?_
      refine xe_return dX10_goesOn_28 rfl ?_
      exact ⟨rfl, t, ht4, by rw [q_upd_s h11, q_wsI]⟩
theorem c_X10_must_t (l : Launch) (g : q_GP) (h : q_H) (hs : q_Stat h) {K : q_TK} {m t : Nat} (hR : rt_R h K m t) {k : Nat} (hck : tx_ck (tk_T K) k t = none) : q_Cd l g 2 mX10_must [.ref 124, .int (nI k)] h none (q_wI h 124 (upd (q_I h 124) 11 (nI (t + 1)))) := by
  obtain ⟨hT, ht, h11, h13⟩ := id hR
  obtain ⟨hm4, hme, hti⟩ := id hT
  obtain ⟨z1, z2, z3, z4, z5, z6⟩ := hti t ht
  obtain ⟨hk, ht4⟩ := tx_ck_none hck
  refine q_CdV mvX10_must (Nat.le_of_ble_eq_true rfl) ?_
  refine xe_aload_n dX10_must_0 rfl ?_
  refine xe_iload_n dX10_must_1 rfl ?_
  refine xe_callVI (d' := 0) (y' := mX10_is) dX10_must_2 mlX10_216 mvX10_is rfl (st124 hs) (by decide) rfl (by decide) (by decide) (Nat.le_of_ble_eq_true rfl) (c_X10_is_1 l g _ (by exact hs) hR hk) rfl ?_
  refine xn_if_eq (tgt := 15) dX10_must_5 rfl (by omega) (fun c1 => ?_) (fun c1 => ?_)
  · omega
  · refine xe_aload_n dX10_must_8 rfl ?_
    refine xe_callVV (d' := 1) (y' := mX10_goesOn) dX10_must_9 mlX10_219 mvX10_goesOn rfl (st124 hs) (by decide) rfl (by decide) (by decide) (Nat.le_of_ble_eq_true rfl) (c_X10_goesOn_t l g _ (by exact hs) h11 ht4) rfl ?_
    refine xe_goto (tgt := 20) dX10_must_12 rfl ?_
    refine xe_return dX10_must_20 rfl ?_
    exact ⟨rfl, (q_heq [124] (H := h) (by repeat (first | exact q_out_r | refine q_out_w rfl ?_)) (by repeat (first | exact q_out_r | refine q_out_w rfl ?_)) (And.intro (q_feq [11] (f := q_I h 124) (by repeat (first | exact q_fout_r | refine q_fout_w rfl ?_)) (by repeat (first | exact q_fout_r | refine q_fout_w rfl ?_)) (And.intro rfl trivial)) trivial))⟩
theorem c_X10_must_f (l : Launch) (g : q_GP) (h : q_H) (hs : q_Stat h) {K : q_TK} {m t : Nat} (hR : rt_R h K m t) {k : Nat} (hk9 : k < 100) {f u : Nat} (hck : tx_ck (tk_T K) k t = some (f, u)) : q_Cd l g 2 mX10_must [.ref 124, .int (nI k)] h none (q_wI h 124 (upd (upd (q_I h 124) 13 (nI f)) 14 (nI (tk_P K u)))) := by
  obtain ⟨hT, ht, h11, h13⟩ := id hR
  obtain ⟨hm4, hme, hti⟩ := id hT
  obtain ⟨z1, z2, z3, z4, z5, z6⟩ := hti t ht
  by_cases hk : tk_T K t = k
  · rcases Nat.lt_or_ge t 400 with q4 | q4
    · rw [tx_ck_0 hk q4] at hck
      cases hck
    · rw [tx_ck_2 hk q4] at hck
      cases hck
      refine q_CdV mvX10_must (Nat.le_of_ble_eq_true rfl) ?_
      refine xe_aload_n dX10_must_0 rfl ?_
      refine xe_iload_n dX10_must_1 rfl ?_
      refine xe_callVI (d' := 0) (y' := mX10_is) dX10_must_2 mlX10_216 mvX10_is rfl (st124 hs) (by decide) rfl (by decide) (by decide) (Nat.le_of_ble_eq_true rfl) (c_X10_is_1 l g _ (by exact hs) hR hk) rfl ?_
      refine xn_if_eq (tgt := 15) dX10_must_5 rfl (by omega) (fun c1 => ?_) (fun c1 => ?_)
      · omega
      · refine xe_aload_n dX10_must_8 rfl ?_
        refine xe_callVV (d' := 1) (y' := mX10_goesOn) dX10_must_9 mlX10_219 mvX10_goesOn rfl (st124 hs) (by decide) rfl (by decide) (by decide) (Nat.le_of_ble_eq_true rfl) (c_X10_goesOn_f l g _ (by exact hs) hR q4) rfl ?_
        refine xe_goto (tgt := 20) dX10_must_12 rfl ?_
        refine xe_return dX10_must_20 rfl ?_
        exact ⟨rfl, (q_heq [124] (H := h) (by repeat (first | exact q_out_r | refine q_out_w rfl ?_)) (by repeat (first | exact q_out_r | refine q_out_w rfl ?_)) (And.intro (q_feq [13, 14] (f := q_I h 124) (by repeat (first | exact q_fout_r | refine q_fout_w rfl ?_)) (by repeat (first | exact q_fout_r | refine q_fout_w rfl ?_)) (And.intro rfl (And.intro rfl trivial))) trivial))⟩
  · rw [tx_ck_1 hk] at hck
    cases hck
    refine q_CdV mvX10_must (Nat.le_of_ble_eq_true rfl) ?_
    refine xe_aload_n dX10_must_0 rfl ?_
    refine xe_iload_n dX10_must_1 rfl ?_
    refine xe_callVI (d' := 0) (y' := mX10_is) dX10_must_2 mlX10_216 mvX10_is rfl (st124 hs) (by decide) rfl (by decide) (by decide) (Nat.le_of_ble_eq_true rfl) (c_X10_is_0 l g _ (by exact hs) hR hk9 hk) rfl ?_
    refine xn_if_eq (tgt := 15) dX10_must_5 rfl (by omega) (fun c1 => ?_) (fun c1 => ?_)
    · refine xe_aload_n dX10_must_15 rfl ?_
      refine xe_iconst dX10_must_16 kc_1 ?_
      refine xe_callVV (d' := 0) (y' := mX10_fail) dX10_must_17 mlX10_213 mvX10_fail rfl (st124 hs) (by decide) rfl (by decide) (by decide) (Nat.le_of_ble_eq_true rfl) (c_X10_fail_0 l g _ (by exact hs) hR _) rfl ?_
      refine xe_return dX10_must_20 rfl ?_
      exact ⟨rfl, (q_heq [124] (H := h) (by repeat (first | exact q_out_r | refine q_out_w rfl ?_)) (by repeat (first | exact q_out_r | refine q_out_w rfl ?_)) (And.intro (q_feq [13, 14] (f := q_I h 124) (by repeat (first | exact q_fout_r | refine q_fout_w rfl ?_)) (by repeat (first | exact q_fout_r | refine q_fout_w rfl ?_)) (And.intro rfl (And.intro rfl trivial))) trivial))⟩
    · omega
theorem c_X10_must_b (l : Launch) (g : q_GP) (h : q_H) (hs : q_Stat h) {f : Nat} (h13 : q_I h 124 13 = nI f) (hf : 0 < f) (hf5 : f ≤ 5) (k : Int32) : q_Cd l g 2 mX10_must [.ref 124, .int k] h none h := by
  refine q_CdV mvX10_must (Nat.le_of_ble_eq_true rfl) ?_
  refine xe_aload_n dX10_must_0 rfl ?_
  refine xe_iload_n dX10_must_1 rfl ?_
  refine xe_callVI (d' := 0) (y' := mX10_is) dX10_must_2 mlX10_216 mvX10_is rfl (st124 hs) (by decide) rfl (by decide) (by decide) (Nat.le_of_ble_eq_true rfl) (c_X10_is_f l g _ (by exact hs) h13 hf hf5 _) rfl ?_
  refine xn_if_eq (tgt := 15) dX10_must_5 rfl (by omega) (fun c1 => ?_) (fun c1 => ?_)
  · refine xe_aload_n dX10_must_15 rfl ?_
    refine xe_iconst dX10_must_16 kc_1 ?_
    refine xe_callVV (d' := 0) (y' := mX10_fail) dX10_must_17 mlX10_213 mvX10_fail rfl (st124 hs) (by decide) rfl (by decide) (by decide) (Nat.le_of_ble_eq_true rfl) (c_X10_fail_f l g _ (by exact hs) (by exact h13) hf hf5 _) rfl ?_
    refine xe_return dX10_must_20 rfl ?_
    exact ⟨rfl, rfl⟩
  · omega
theorem c_X10_emit (l : Launch) (g : q_GP) (h : q_H) (hs : q_Stat h) {n : Nat} (hn : q_I h 124 39 = nI n) (hn2 : n < 840) (k v : Int32) : q_Cd l g 0 mX10_emit [.ref 124, .int k, .int v] h none (q_wI (q_wI (q_wI h 124 (upd (q_I h 124) 39 (nI (n + 1)))) 149 (upd (q_I h 149) n k)) 150 (upd (q_I h 150) n v)) := by
  refine q_CdV mvX10_emit (Nat.le_of_ble_eq_true rfl) ?_
  refine xe_aload_n dX10_emit_0 rfl ?_
  refine xe_getP dX10_emit_1 flX10_92 (st124 hs) (by decide) rfl (sp124_40 hs) ?_
  refine xe_aload_n dX10_emit_4 rfl ?_
  refine xe_getIv dX10_emit_5 flX10_240 (st124 hs) (by decide) rfl (v := nI n) (hn) ?_
  refine xe_iload_n dX10_emit_8 rfl ?_
  refine xn_iast dX10_emit_9 (st149 hs) (by omega) (by decide) ?_
  refine xe_aload_n dX10_emit_10 rfl ?_
  refine xe_getP dX10_emit_11 flX10_95 (st124 hs) (by decide) rfl (sp124_41 hs) ?_
  refine xe_aload_n dX10_emit_14 rfl ?_
  refine xe_getIv dX10_emit_15 flX10_240 (st124 hs) (by decide) rfl (v := nI n) (hn) ?_
  refine xe_iload_n dX10_emit_18 rfl ?_
  refine xn_iast dX10_emit_19 (st150 hs) (by omega) (by decide) ?_
  refine xe_aload_n dX10_emit_20 rfl ?_
  refine xe_dup dX10_emit_21 rfl ?_
  refine xe_getIv dX10_emit_22 flX10_240 (st124 hs) (by decide) rfl (v := nI n) (hn) ?_
  refine xe_iconst dX10_emit_25 kc_1 ?_
  refine xn_iadd dX10_emit_26 ?_
  refine xe_putI dX10_emit_27 flX10_240 (st124 hs) (by decide) rfl (Or.inl rfl) rfl rfl ?_
  refine xe_return dX10_emit_30 rfl ?_
  exact ⟨rfl, (q_heq [124, 149, 150] (H := h) (by repeat (first | exact q_out_r | refine q_out_w rfl ?_)) (by repeat (first | exact q_out_r | refine q_out_w rfl ?_)) (And.intro (q_feq [39] (f := q_I h 124) (by repeat (first | exact q_fout_r | refine q_fout_w rfl ?_)) (by repeat (first | exact q_fout_r | refine q_fout_w rfl ?_)) (And.intro rfl trivial)) (And.intro rfl (And.intro rfl trivial))))⟩
/-- what waits, its top first -/
def q_wk (p : Nat → Int32) : List Nat → Prop
  | [] => True
  | x :: w => p w.length = nI x ∧ q_wk p w
def q_ops : List Nat → Nat
  | [] => 0
  | x :: w => (if x = 6 then 0 else 1) + q_ops w
def q_emo (P : List Nat) : List (Nat × Int32) := P.map (fun k => (tx_op k, nI 0))
theorem q_wk_up {p : Nat → Int32} {v : Int32} : ∀ {w : List Nat} {n : Nat}, q_wk p w → w.length ≤ n → q_wk (upd p n v) w
  | [], _, _, _ => trivial
  | x :: w, n, h, hn => by
    have hl : w.length + 1 ≤ n := hn
    exact ⟨(pk_un (by omega)).trans h.1, q_wk_up h.2 (by omega)⟩
theorem q_wk_tl {p : Nat → Int32} : ∀ {P w : List Nat}, q_wk p (P ++ w) → q_wk p w
  | [], _, h => h
  | _ :: _, _, h => q_wk_tl h.2
theorem q_ops_app : ∀ (P w : List Nat), (∀ x ∈ P, x ≠ 6) → q_ops (P ++ w) = P.length + q_ops w
  | [], w, _ => by
    show q_ops w = 0 + q_ops w
    omega
  | x :: P, w, h => by
    show (if x = 6 then 0 else 1) + q_ops (P ++ w) = P.length + 1 + q_ops w
    rw [if_neg (h x List.mem_cons_self), q_ops_app P w (fun y hy => h y (List.mem_cons_of_mem _ hy))]
    omega
theorem q_sg_co {C V C' V' : Nat → Int32} : ∀ {c : List (Nat × Int32)} {a : Nat}, (∀ i, a ≤ i → i < a + c.length → C' i = C i ∧ V' i = V i) → q_sg C V a c → q_sg C' V' a c
  | [], _, _, _ => trivial
  | x :: c, a, h, hc => by
    have h0 := h a (Nat.le_refl _) (by show a < a + (c.length + 1); omega)
    exact ⟨h0.1.trans hc.1, h0.2.trans hc.2.1, q_sg_co (fun i h1 h2 => h i (by omega) (by show i < a + (c.length + 1); omega)) hc.2.2⟩
theorem q_sg_app {C V : Nat → Int32} : ∀ {c c' : List (Nat × Int32)} {a : Nat}, q_sg C V a c → q_sg C V (a + c.length) c' → q_sg C V a (c ++ c')
  | [], _, _, _, h => h
  | x :: c, c', a, h, h' => ⟨h.1, h.2.1, q_sg_app h.2.2 (by rw [show a + 1 + c.length = a + (c.length + 1) by omega]; exact h')⟩
/-- codes c have come behind the n-th, w wait -/
def q_ce (h : q_H) (n : Nat) (c : List (Nat × Int32)) (w : Nat) (h1 : q_H) : Prop := h1.2 = h.2 ∧ (∀ r, r ≠ 124 → r ≠ 149 → r ≠ 150 → q_I h1 r = q_I h r) ∧ (∀ k, k ≠ 39 → k ≠ 43 → q_I h1 124 k = q_I h 124 k) ∧ q_I h1 124 39 = nI (n + c.length) ∧ q_I h1 124 43 = nI w ∧ (∀ i, i < n ∨ n + c.length ≤ i → q_I h1 149 i = q_I h 149 i ∧ q_I h1 150 i = q_I h 150 i) ∧ q_sg (q_I h1 149) (q_I h1 150) n c
theorem ce_r {h : q_H} {n w : Nat} (hn : q_I h 124 39 = nI n) (hw : q_I h 124 43 = nI w) : q_ce h n [] w h := ⟨rfl, fun _ _ _ _ => rfl, fun _ _ _ => rfl, hn, hw, fun _ _ => ⟨rfl, rfl⟩, trivial⟩
theorem ce_t {h h1 h2 : q_H} {n w w2 : Nat} {c c2 : List (Nat × Int32)} (a : q_ce h n c w h1) (b : q_ce h1 (n + c.length) c2 w2 h2) : q_ce h n (c ++ c2) w2 h2 := by
  obtain ⟨a1, a2, a3, a4, a5, a6, a7⟩ := a
  obtain ⟨b1, b2, b3, b4, b5, b6, b7⟩ := b
  refine ⟨b1.trans a1, fun r x y z => (b2 r x y z).trans (a2 r x y z), fun k x y => (b3 k x y).trans (a3 k x y), ?_, b5, fun i hi => ?_, q_sg_app (q_sg_co (fun i h1 h2 => b6 i (Or.inl h2)) a7) b7⟩
  · rw [b4, List.length_append, Nat.add_assoc]
  · rw [List.length_append] at hi
    exact ⟨((b6 i (by omega)).1).trans (a6 i (by omega)).1, ((b6 i (by omega)).2).trans (a6 i (by omega)).2⟩
/-- what comes out when it is weak (s = 0) or strong (s = 1) -/
def q_out1 (s x : Nat) : Prop := if s = 0 then (x = 8 ∨ x = 9 ∨ x = 10 ∨ x = 15) else (x = 10 ∨ x = 15)
def q_stay (s : Nat) (w : List Nat) : Prop := match w with
  | [] => True
  | x :: _ => x = 6 ∨ (s = 1 ∧ (x = 8 ∨ x = 9))
theorem co_end (l : Launch) (g : q_GP) (h : q_H) (hs : q_Stat h) {d s : Nat} (hs1 : s < 2) {w : List Nat} (hw43 : q_I h 124 43 = nI w.length) (hw : q_wk (q_I h 151) w) (hw6 : w.length ≤ 64) (hst : q_stay s w) {Q : Option Value → q_H → Prop} (q : Q none h) : q_Ex l g d mX10_comesOut 0 [(0, .ref 124), (1, .int (nI s))] [] h Q := by
  match w, hw43, hw, hst, hw6 with
  | [], hw43, hw, hst, hw6 =>
    have hw43 : q_I h 124 43 = nI 0 := hw43
    refine xe_aload_n dX10_comesOut_0 rfl ?_
    refine xe_getIv dX10_comesOut_1 flX10_295 (st124 hs) (by decide) rfl (v := nI 0) (hw43) ?_
    refine xn_if_le (tgt := 91) dX10_comesOut_4 rfl (by omega) (fun c1 => ?_) (fun c1 => ?_)
    · refine xe_return dX10_comesOut_91 rfl ?_
      exact q
    · omega
  | x :: w, hw43, hw, hst, hw6 =>
    have hw43 : q_I h 124 43 = nI (w.length + 1) := hw43
    have hw6 : w.length + 1 ≤ 64 := hw6
    rcases hst with hx | ⟨rfl, hx⟩
    · have hx36 : x < 100 := by omega
      refine xe_aload_n dX10_comesOut_0 rfl ?_
      refine xe_getIv dX10_comesOut_1 flX10_295 (st124 hs) (by decide) rfl (v := nI (w.length + 1)) (hw43) ?_
      refine xn_if_le (tgt := 91) dX10_comesOut_4 rfl (by omega) (fun c1 => ?_) (fun c1 => ?_)
      · omega
      · refine xe_aload_n dX10_comesOut_7 rfl ?_
        refine xe_getP dX10_comesOut_8 flX10_98 (st124 hs) (by decide) rfl (sp124_42 hs) ?_
        refine xe_aload_n dX10_comesOut_11 rfl ?_
        refine xe_getIv dX10_comesOut_12 flX10_295 (st124 hs) (by decide) rfl (v := nI (w.length + 1)) (hw43) ?_
        refine xe_iconst dX10_comesOut_15 kc_1 ?_
        refine xn_isub dX10_comesOut_16 (by omega) ?_
        refine xn_ialdv dX10_comesOut_17 (st151 hs) (by omega) (by decide) (v := nI x) ((by rw [show w.length + 1 - 1 = w.length by omega]; exact hw.1)) ?_
        refine xe_istore_n (i := 2) dX10_comesOut_18 rfl (by decide) rfl ?_
        refine xe_iload_n dX10_comesOut_19 rfl ?_
        refine xe_bipush dX10_comesOut_20 kb_6 ?_
        refine xn_icmp_eq (tgt := 41) dX10_comesOut_22 rfl (by omega) (by omega) (fun c2 => ?_) (fun c2 => ?_)
        · refine xe_return dX10_comesOut_41 rfl ?_
          exact q
        · omega
    · have hx36 : x < 100 := by omega
      refine xe_aload_n dX10_comesOut_0 rfl ?_
      refine xe_getIv dX10_comesOut_1 flX10_295 (st124 hs) (by decide) rfl (v := nI (w.length + 1)) (hw43) ?_
      refine xn_if_le (tgt := 91) dX10_comesOut_4 rfl (by omega) (fun c1 => ?_) (fun c1 => ?_)
      · omega
      · refine xe_aload_n dX10_comesOut_7 rfl ?_
        refine xe_getP dX10_comesOut_8 flX10_98 (st124 hs) (by decide) rfl (sp124_42 hs) ?_
        refine xe_aload_n dX10_comesOut_11 rfl ?_
        refine xe_getIv dX10_comesOut_12 flX10_295 (st124 hs) (by decide) rfl (v := nI (w.length + 1)) (hw43) ?_
        refine xe_iconst dX10_comesOut_15 kc_1 ?_
        refine xn_isub dX10_comesOut_16 (by omega) ?_
        refine xn_ialdv dX10_comesOut_17 (st151 hs) (by omega) (by decide) (v := nI x) ((by rw [show w.length + 1 - 1 = w.length by omega]; exact hw.1)) ?_
        refine xe_istore_n (i := 2) dX10_comesOut_18 rfl (by decide) rfl ?_
        refine xe_iload_n dX10_comesOut_19 rfl ?_
        refine xe_bipush dX10_comesOut_20 kb_6 ?_
        refine xn_icmp_eq (tgt := 41) dX10_comesOut_22 rfl (by omega) (by omega) (fun c2 => ?_) (fun c2 => ?_)
        · omega
        · refine xe_iload_n dX10_comesOut_25 rfl ?_
          refine xn_if_eq (tgt := 42) dX10_comesOut_26 rfl (by omega) (fun c3 => ?_) (fun c3 => ?_)
          · omega
          · refine xe_iload_n dX10_comesOut_29 rfl ?_
            refine xe_bipush dX10_comesOut_30 kb_8 ?_
            refine xn_icmp_eq (tgt := 41) dX10_comesOut_32 rfl (by omega) (by omega) (fun c4 => ?_) (fun c4 => ?_)
            · refine xe_return dX10_comesOut_41 rfl ?_
              exact q
            · refine xe_iload_n dX10_comesOut_35 rfl ?_
              refine xe_bipush dX10_comesOut_36 kb_9 ?_
              refine xn_icmp_ne (tgt := 42) dX10_comesOut_38 rfl (by omega) (by omega) (fun c5 => ?_) (fun c5 => ?_)
              · omega
              · refine xe_return dX10_comesOut_41 rfl ?_
                exact q
theorem co_loop (l : Launch) (g : q_GP) {d s : Nat} (hs1 : s < 2) (hd : 1 ≤ d) {w : List Nat} (hst : q_stay s w) {Q : Option Value → q_H → Prop} : ∀ (P : List Nat) (h : q_H) (n : Nat), q_Stat h → (∀ x ∈ P, q_out1 s x) → q_I h 124 43 = nI (P ++ w).length → q_wk (q_I h 151) (P ++ w) → (P ++ w).length ≤ 64 → q_I h 124 39 = nI n → n + P.length ≤ 840 → (∀ h1, q_ce h n (q_emo P) w.length h1 → Q none h1) → q_Ex l g d mX10_comesOut 0 [(0, .ref 124), (1, .int (nI s))] [] h Q := by
  intro P
  induction P with
  | nil =>
    intro h n hs hP hw43 hw hw6 hn hn8 K
    exact co_end l g h hs hs1 hw43 hw hw6 hst (K h (ce_r hn hw43))
  | cons x P ih =>
    intro h n hs hP hw43 hw hw6 hn hn8 K
    have hw43 : q_I h 124 43 = nI ((P ++ w).length + 1) := hw43
    have hw6 : (P ++ w).length + 1 ≤ 64 := hw6
    have hn8 : n + (P.length + 1) ≤ 840 := hn8
    have hx := hP x List.mem_cons_self
    have fin : ∀ o : Nat, tx_op x = o → q_Ex l g d mX10_comesOut 0 [(0, .ref 124), (1, .int (nI s))] [] (q_wI (q_wI (q_wI (q_wI h 124 (upd (q_I h 124) 43 (nI ((P ++ w).length + 1 - 1)))) 124 (upd (q_I (q_wI h 124 (upd (q_I h 124) 43 (nI ((P ++ w).length + 1 - 1)))) 124) 39 (nI (n + 1)))) 149 (upd (q_I h 149) n (nI o))) 150 (upd (q_I h 150) n (nI 0))) Q := fun o ho => by
      have c1 : q_ce h n [(tx_op x, nI 0)] (P ++ w).length (q_wI (q_wI (q_wI (q_wI h 124 (upd (q_I h 124) 43 (nI ((P ++ w).length + 1 - 1)))) 124 (upd (q_I (q_wI h 124 (upd (q_I h 124) 43 (nI ((P ++ w).length + 1 - 1)))) 124) 39 (nI (n + 1)))) 149 (upd (q_I h 149) n (nI o))) 150 (upd (q_I h 150) n (nI 0))) := by
        refine ⟨rfl, fun r a1 a2 a3 => (q_Ine a3).trans ((q_Ine a2).trans ((q_Ine a1).trans (q_Ine a1))), fun k a1 a2 => (pk_un a1).trans (pk_un a2), rfl, rfl, fun i hi => ⟨?_, ?_⟩, ⟨?_, ?_, trivial⟩⟩
        · have hi : i < n ∨ n + 1 ≤ i := hi
          exact pk_un (by omega)
        · have hi : i < n ∨ n + 1 ≤ i := hi
          exact pk_un (by omega)
        · rw [ho]
          exact pk_us
        · exact pk_us
      refine ih _ (n + 1) (by exact hs) (fun y hy => hP y (List.mem_cons_of_mem _ hy)) rfl ?_ (by omega) rfl (by omega) (fun h1 q => K h1 (ce_t c1 q))
      exact hw.2
    have hx36 : x < 100 := by
      unfold q_out1 at hx
      split at hx <;> omega
    rcases (show s = 0 ∨ s = 1 by omega) with rfl | rfl
    · have hx : x = 8 ∨ x = 9 ∨ x = 10 ∨ x = 15 := hx
      rcases hx with rfl | rfl | rfl | rfl
      · refine xe_aload_n dX10_comesOut_0 rfl ?_
        refine xe_getIv dX10_comesOut_1 flX10_295 (st124 hs) (by decide) rfl (v := nI ((P ++ w).length + 1)) (hw43) ?_
        refine xn_if_le (tgt := 91) dX10_comesOut_4 rfl (by omega) (fun c1 => ?_) (fun c1 => ?_)
        · omega
        · refine xe_aload_n dX10_comesOut_7 rfl ?_
          refine xe_getP dX10_comesOut_8 flX10_98 (st124 hs) (by decide) rfl (sp124_42 hs) ?_
          refine xe_aload_n dX10_comesOut_11 rfl ?_
          refine xe_getIv dX10_comesOut_12 flX10_295 (st124 hs) (by decide) rfl (v := nI ((P ++ w).length + 1)) (hw43) ?_
          refine xe_iconst dX10_comesOut_15 kc_1 ?_
          refine xn_isub dX10_comesOut_16 (by omega) ?_
          refine xn_ialdv dX10_comesOut_17 (st151 hs) (by omega) (by decide) (v := nI 8) ((by rw [show (P ++ w).length + 1 - 1 = (P ++ w).length by omega]; exact hw.1)) ?_
          refine xe_istore_n (i := 2) dX10_comesOut_18 rfl (by decide) rfl ?_
          refine xe_iload_n dX10_comesOut_19 rfl ?_
          refine xe_bipush dX10_comesOut_20 kb_6 ?_
          refine xn_icmp_eq (tgt := 41) dX10_comesOut_22 rfl (by omega) (by omega) (fun c2 => ?_) (fun c2 => ?_)
          · omega
          · refine xe_iload_n dX10_comesOut_25 rfl ?_
            refine xn_if_eq (tgt := 42) dX10_comesOut_26 rfl (by omega) (fun c3 => ?_) (fun c3 => ?_)
            · refine xe_aload_n dX10_comesOut_42 rfl ?_
              refine xe_dup dX10_comesOut_43 rfl ?_
              refine xe_getIv dX10_comesOut_44 flX10_295 (st124 hs) (by decide) rfl (v := nI ((P ++ w).length + 1)) (hw43) ?_
              refine xe_iconst dX10_comesOut_47 kc_1 ?_
              refine xn_isub dX10_comesOut_48 (by omega) ?_
              refine xe_putI dX10_comesOut_49 flX10_295 (st124 hs) (by decide) rfl (Or.inl rfl) rfl rfl ?_
              refine xe_aload_n dX10_comesOut_52 rfl ?_
              refine xe_iload_n dX10_comesOut_53 rfl ?_
              refine xe_bipush dX10_comesOut_54 kb_8 ?_
              refine xn_icmp_ne (tgt := 63) dX10_comesOut_56 rfl (by omega) (by omega) (fun c4 => ?_) (fun c4 => ?_)
              · omega
              · refine xe_iconst dX10_comesOut_59 kc_2 ?_
                refine xe_goto (tgt := 84) dX10_comesOut_60 rfl ?_
                refine xe_iconst dX10_comesOut_84 kc_0 ?_
                refine xe_callVV (d' := 0) (y' := mX10_emit) dX10_comesOut_85 mlX10_298 mvX10_emit rfl (st124 hs) (by decide) rfl (by omega) (by decide) (Nat.le_of_ble_eq_true rfl) (c_X10_emit l g _ (by exact hs) (n := n) (by exact hn) (by omega) _ _) rfl ?_
                refine xe_goto (tgt := 0) dX10_comesOut_88 rfl ?_
                refine xe_locals (L' := [(0, .ref 124), (1, .int (nI 0))]) (And.intro rfl (And.intro rfl trivial)) ?_
                exact fin 2 rfl
            · omega
      · refine xe_aload_n dX10_comesOut_0 rfl ?_
        refine xe_getIv dX10_comesOut_1 flX10_295 (st124 hs) (by decide) rfl (v := nI ((P ++ w).length + 1)) (hw43) ?_
        refine xn_if_le (tgt := 91) dX10_comesOut_4 rfl (by omega) (fun c1 => ?_) (fun c1 => ?_)
        · omega
        · refine xe_aload_n dX10_comesOut_7 rfl ?_
          refine xe_getP dX10_comesOut_8 flX10_98 (st124 hs) (by decide) rfl (sp124_42 hs) ?_
          refine xe_aload_n dX10_comesOut_11 rfl ?_
          refine xe_getIv dX10_comesOut_12 flX10_295 (st124 hs) (by decide) rfl (v := nI ((P ++ w).length + 1)) (hw43) ?_
          refine xe_iconst dX10_comesOut_15 kc_1 ?_
          refine xn_isub dX10_comesOut_16 (by omega) ?_
          refine xn_ialdv dX10_comesOut_17 (st151 hs) (by omega) (by decide) (v := nI 9) ((by rw [show (P ++ w).length + 1 - 1 = (P ++ w).length by omega]; exact hw.1)) ?_
          refine xe_istore_n (i := 2) dX10_comesOut_18 rfl (by decide) rfl ?_
          refine xe_iload_n dX10_comesOut_19 rfl ?_
          refine xe_bipush dX10_comesOut_20 kb_6 ?_
          refine xn_icmp_eq (tgt := 41) dX10_comesOut_22 rfl (by omega) (by omega) (fun c2 => ?_) (fun c2 => ?_)
          · omega
          · refine xe_iload_n dX10_comesOut_25 rfl ?_
            refine xn_if_eq (tgt := 42) dX10_comesOut_26 rfl (by omega) (fun c3 => ?_) (fun c3 => ?_)
            · refine xe_aload_n dX10_comesOut_42 rfl ?_
              refine xe_dup dX10_comesOut_43 rfl ?_
              refine xe_getIv dX10_comesOut_44 flX10_295 (st124 hs) (by decide) rfl (v := nI ((P ++ w).length + 1)) (hw43) ?_
              refine xe_iconst dX10_comesOut_47 kc_1 ?_
              refine xn_isub dX10_comesOut_48 (by omega) ?_
              refine xe_putI dX10_comesOut_49 flX10_295 (st124 hs) (by decide) rfl (Or.inl rfl) rfl rfl ?_
              refine xe_aload_n dX10_comesOut_52 rfl ?_
              refine xe_iload_n dX10_comesOut_53 rfl ?_
              refine xe_bipush dX10_comesOut_54 kb_8 ?_
              refine xn_icmp_ne (tgt := 63) dX10_comesOut_56 rfl (by omega) (by omega) (fun c4 => ?_) (fun c4 => ?_)
              · refine xe_iload_n dX10_comesOut_63 rfl ?_
                refine xe_bipush dX10_comesOut_64 kb_9 ?_
                refine xn_icmp_ne (tgt := 73) dX10_comesOut_66 rfl (by omega) (by omega) (fun c5 => ?_) (fun c5 => ?_)
                · omega
                · refine xe_iconst dX10_comesOut_69 kc_3 ?_
                  refine xe_goto (tgt := 84) dX10_comesOut_70 rfl ?_
                  refine xe_iconst dX10_comesOut_84 kc_0 ?_
                  refine xe_callVV (d' := 0) (y' := mX10_emit) dX10_comesOut_85 mlX10_298 mvX10_emit rfl (st124 hs) (by decide) rfl (by omega) (by decide) (Nat.le_of_ble_eq_true rfl) (c_X10_emit l g _ (by exact hs) (n := n) (by exact hn) (by omega) _ _) rfl ?_
                  refine xe_goto (tgt := 0) dX10_comesOut_88 rfl ?_
                  refine xe_locals (L' := [(0, .ref 124), (1, .int (nI 0))]) (And.intro rfl (And.intro rfl trivial)) ?_
                  exact fin 3 rfl
              · omega
            · omega
      · refine xe_aload_n dX10_comesOut_0 rfl ?_
        refine xe_getIv dX10_comesOut_1 flX10_295 (st124 hs) (by decide) rfl (v := nI ((P ++ w).length + 1)) (hw43) ?_
        refine xn_if_le (tgt := 91) dX10_comesOut_4 rfl (by omega) (fun c1 => ?_) (fun c1 => ?_)
        · omega
        · refine xe_aload_n dX10_comesOut_7 rfl ?_
          refine xe_getP dX10_comesOut_8 flX10_98 (st124 hs) (by decide) rfl (sp124_42 hs) ?_
          refine xe_aload_n dX10_comesOut_11 rfl ?_
          refine xe_getIv dX10_comesOut_12 flX10_295 (st124 hs) (by decide) rfl (v := nI ((P ++ w).length + 1)) (hw43) ?_
          refine xe_iconst dX10_comesOut_15 kc_1 ?_
          refine xn_isub dX10_comesOut_16 (by omega) ?_
          refine xn_ialdv dX10_comesOut_17 (st151 hs) (by omega) (by decide) (v := nI 10) ((by rw [show (P ++ w).length + 1 - 1 = (P ++ w).length by omega]; exact hw.1)) ?_
          refine xe_istore_n (i := 2) dX10_comesOut_18 rfl (by decide) rfl ?_
          refine xe_iload_n dX10_comesOut_19 rfl ?_
          refine xe_bipush dX10_comesOut_20 kb_6 ?_
          refine xn_icmp_eq (tgt := 41) dX10_comesOut_22 rfl (by omega) (by omega) (fun c2 => ?_) (fun c2 => ?_)
          · omega
          · refine xe_iload_n dX10_comesOut_25 rfl ?_
            refine xn_if_eq (tgt := 42) dX10_comesOut_26 rfl (by omega) (fun c3 => ?_) (fun c3 => ?_)
            · refine xe_aload_n dX10_comesOut_42 rfl ?_
              refine xe_dup dX10_comesOut_43 rfl ?_
              refine xe_getIv dX10_comesOut_44 flX10_295 (st124 hs) (by decide) rfl (v := nI ((P ++ w).length + 1)) (hw43) ?_
              refine xe_iconst dX10_comesOut_47 kc_1 ?_
              refine xn_isub dX10_comesOut_48 (by omega) ?_
              refine xe_putI dX10_comesOut_49 flX10_295 (st124 hs) (by decide) rfl (Or.inl rfl) rfl rfl ?_
              refine xe_aload_n dX10_comesOut_52 rfl ?_
              refine xe_iload_n dX10_comesOut_53 rfl ?_
              refine xe_bipush dX10_comesOut_54 kb_8 ?_
              refine xn_icmp_ne (tgt := 63) dX10_comesOut_56 rfl (by omega) (by omega) (fun c4 => ?_) (fun c4 => ?_)
              · refine xe_iload_n dX10_comesOut_63 rfl ?_
                refine xe_bipush dX10_comesOut_64 kb_9 ?_
                refine xn_icmp_ne (tgt := 73) dX10_comesOut_66 rfl (by omega) (by omega) (fun c5 => ?_) (fun c5 => ?_)
                · refine xe_iload_n dX10_comesOut_73 rfl ?_
                  refine xe_bipush dX10_comesOut_74 kb_10 ?_
                  refine xn_icmp_ne (tgt := 83) dX10_comesOut_76 rfl (by omega) (by omega) (fun c6 => ?_) (fun c6 => ?_)
                  · omega
                  · refine xe_iconst dX10_comesOut_79 kc_4 ?_
                    refine xe_goto (tgt := 84) dX10_comesOut_80 rfl ?_
                    refine xe_iconst dX10_comesOut_84 kc_0 ?_
                    refine xe_callVV (d' := 0) (y' := mX10_emit) dX10_comesOut_85 mlX10_298 mvX10_emit rfl (st124 hs) (by decide) rfl (by omega) (by decide) (Nat.le_of_ble_eq_true rfl) (c_X10_emit l g _ (by exact hs) (n := n) (by exact hn) (by omega) _ _) rfl ?_
                    refine xe_goto (tgt := 0) dX10_comesOut_88 rfl ?_
                    refine xe_locals (L' := [(0, .ref 124), (1, .int (nI 0))]) (And.intro rfl (And.intro rfl trivial)) ?_
                    exact fin 4 rfl
                · omega
              · omega
            · omega
      · refine xe_aload_n dX10_comesOut_0 rfl ?_
        refine xe_getIv dX10_comesOut_1 flX10_295 (st124 hs) (by decide) rfl (v := nI ((P ++ w).length + 1)) (hw43) ?_
        refine xn_if_le (tgt := 91) dX10_comesOut_4 rfl (by omega) (fun c1 => ?_) (fun c1 => ?_)
        · omega
        · refine xe_aload_n dX10_comesOut_7 rfl ?_
          refine xe_getP dX10_comesOut_8 flX10_98 (st124 hs) (by decide) rfl (sp124_42 hs) ?_
          refine xe_aload_n dX10_comesOut_11 rfl ?_
          refine xe_getIv dX10_comesOut_12 flX10_295 (st124 hs) (by decide) rfl (v := nI ((P ++ w).length + 1)) (hw43) ?_
          refine xe_iconst dX10_comesOut_15 kc_1 ?_
          refine xn_isub dX10_comesOut_16 (by omega) ?_
          refine xn_ialdv dX10_comesOut_17 (st151 hs) (by omega) (by decide) (v := nI 15) ((by rw [show (P ++ w).length + 1 - 1 = (P ++ w).length by omega]; exact hw.1)) ?_
          refine xe_istore_n (i := 2) dX10_comesOut_18 rfl (by decide) rfl ?_
          refine xe_iload_n dX10_comesOut_19 rfl ?_
          refine xe_bipush dX10_comesOut_20 kb_6 ?_
          refine xn_icmp_eq (tgt := 41) dX10_comesOut_22 rfl (by omega) (by omega) (fun c2 => ?_) (fun c2 => ?_)
          · omega
          · refine xe_iload_n dX10_comesOut_25 rfl ?_
            refine xn_if_eq (tgt := 42) dX10_comesOut_26 rfl (by omega) (fun c3 => ?_) (fun c3 => ?_)
            · refine xe_aload_n dX10_comesOut_42 rfl ?_
              refine xe_dup dX10_comesOut_43 rfl ?_
              refine xe_getIv dX10_comesOut_44 flX10_295 (st124 hs) (by decide) rfl (v := nI ((P ++ w).length + 1)) (hw43) ?_
              refine xe_iconst dX10_comesOut_47 kc_1 ?_
              refine xn_isub dX10_comesOut_48 (by omega) ?_
              refine xe_putI dX10_comesOut_49 flX10_295 (st124 hs) (by decide) rfl (Or.inl rfl) rfl rfl ?_
              refine xe_aload_n dX10_comesOut_52 rfl ?_
              refine xe_iload_n dX10_comesOut_53 rfl ?_
              refine xe_bipush dX10_comesOut_54 kb_8 ?_
              refine xn_icmp_ne (tgt := 63) dX10_comesOut_56 rfl (by omega) (by omega) (fun c4 => ?_) (fun c4 => ?_)
              · refine xe_iload_n dX10_comesOut_63 rfl ?_
                refine xe_bipush dX10_comesOut_64 kb_9 ?_
                refine xn_icmp_ne (tgt := 73) dX10_comesOut_66 rfl (by omega) (by omega) (fun c5 => ?_) (fun c5 => ?_)
                · refine xe_iload_n dX10_comesOut_73 rfl ?_
                  refine xe_bipush dX10_comesOut_74 kb_10 ?_
                  refine xn_icmp_ne (tgt := 83) dX10_comesOut_76 rfl (by omega) (by omega) (fun c6 => ?_) (fun c6 => ?_)
                  · refine xe_iconst dX10_comesOut_83 kc_5 ?_
                    refine xe_iconst dX10_comesOut_84 kc_0 ?_
                    refine xe_callVV (d' := 0) (y' := mX10_emit) dX10_comesOut_85 mlX10_298 mvX10_emit rfl (st124 hs) (by decide) rfl (by omega) (by decide) (Nat.le_of_ble_eq_true rfl) (c_X10_emit l g _ (by exact hs) (n := n) (by exact hn) (by omega) _ _) rfl ?_
                    refine xe_goto (tgt := 0) dX10_comesOut_88 rfl ?_
                    refine xe_locals (L' := [(0, .ref 124), (1, .int (nI 0))]) (And.intro rfl (And.intro rfl trivial)) ?_
                    exact fin 5 rfl
                  · omega
                · omega
              · omega
            · omega
    · have hx : x = 10 ∨ x = 15 := hx
      rcases hx with rfl | rfl
      · refine xe_aload_n dX10_comesOut_0 rfl ?_
        refine xe_getIv dX10_comesOut_1 flX10_295 (st124 hs) (by decide) rfl (v := nI ((P ++ w).length + 1)) (hw43) ?_
        refine xn_if_le (tgt := 91) dX10_comesOut_4 rfl (by omega) (fun c1 => ?_) (fun c1 => ?_)
        · omega
        · refine xe_aload_n dX10_comesOut_7 rfl ?_
          refine xe_getP dX10_comesOut_8 flX10_98 (st124 hs) (by decide) rfl (sp124_42 hs) ?_
          refine xe_aload_n dX10_comesOut_11 rfl ?_
          refine xe_getIv dX10_comesOut_12 flX10_295 (st124 hs) (by decide) rfl (v := nI ((P ++ w).length + 1)) (hw43) ?_
          refine xe_iconst dX10_comesOut_15 kc_1 ?_
          refine xn_isub dX10_comesOut_16 (by omega) ?_
          refine xn_ialdv dX10_comesOut_17 (st151 hs) (by omega) (by decide) (v := nI 10) ((by rw [show (P ++ w).length + 1 - 1 = (P ++ w).length by omega]; exact hw.1)) ?_
          refine xe_istore_n (i := 2) dX10_comesOut_18 rfl (by decide) rfl ?_
          refine xe_iload_n dX10_comesOut_19 rfl ?_
          refine xe_bipush dX10_comesOut_20 kb_6 ?_
          refine xn_icmp_eq (tgt := 41) dX10_comesOut_22 rfl (by omega) (by omega) (fun c2 => ?_) (fun c2 => ?_)
          · omega
          · refine xe_iload_n dX10_comesOut_25 rfl ?_
            refine xn_if_eq (tgt := 42) dX10_comesOut_26 rfl (by omega) (fun c3 => ?_) (fun c3 => ?_)
            · omega
            · refine xe_iload_n dX10_comesOut_29 rfl ?_
              refine xe_bipush dX10_comesOut_30 kb_8 ?_
              refine xn_icmp_eq (tgt := 41) dX10_comesOut_32 rfl (by omega) (by omega) (fun c4 => ?_) (fun c4 => ?_)
              · omega
              · refine xe_iload_n dX10_comesOut_35 rfl ?_
                refine xe_bipush dX10_comesOut_36 kb_9 ?_
                refine xn_icmp_ne (tgt := 42) dX10_comesOut_38 rfl (by omega) (by omega) (fun c5 => ?_) (fun c5 => ?_)
                · refine xe_aload_n dX10_comesOut_42 rfl ?_
                  refine xe_dup dX10_comesOut_43 rfl ?_
                  refine xe_getIv dX10_comesOut_44 flX10_295 (st124 hs) (by decide) rfl (v := nI ((P ++ w).length + 1)) (hw43) ?_
                  refine xe_iconst dX10_comesOut_47 kc_1 ?_
                  refine xn_isub dX10_comesOut_48 (by omega) ?_
                  refine xe_putI dX10_comesOut_49 flX10_295 (st124 hs) (by decide) rfl (Or.inl rfl) rfl rfl ?_
                  refine xe_aload_n dX10_comesOut_52 rfl ?_
                  refine xe_iload_n dX10_comesOut_53 rfl ?_
                  refine xe_bipush dX10_comesOut_54 kb_8 ?_
                  refine xn_icmp_ne (tgt := 63) dX10_comesOut_56 rfl (by omega) (by omega) (fun c6 => ?_) (fun c6 => ?_)
                  · refine xe_iload_n dX10_comesOut_63 rfl ?_
                    refine xe_bipush dX10_comesOut_64 kb_9 ?_
                    refine xn_icmp_ne (tgt := 73) dX10_comesOut_66 rfl (by omega) (by omega) (fun c7 => ?_) (fun c7 => ?_)
                    · refine xe_iload_n dX10_comesOut_73 rfl ?_
                      refine xe_bipush dX10_comesOut_74 kb_10 ?_
                      refine xn_icmp_ne (tgt := 83) dX10_comesOut_76 rfl (by omega) (by omega) (fun c8 => ?_) (fun c8 => ?_)
                      · omega
                      · refine xe_iconst dX10_comesOut_79 kc_4 ?_
                        refine xe_goto (tgt := 84) dX10_comesOut_80 rfl ?_
                        refine xe_iconst dX10_comesOut_84 kc_0 ?_
                        refine xe_callVV (d' := 0) (y' := mX10_emit) dX10_comesOut_85 mlX10_298 mvX10_emit rfl (st124 hs) (by decide) rfl (by omega) (by decide) (Nat.le_of_ble_eq_true rfl) (c_X10_emit l g _ (by exact hs) (n := n) (by exact hn) (by omega) _ _) rfl ?_
                        refine xe_goto (tgt := 0) dX10_comesOut_88 rfl ?_
                        refine xe_locals (L' := [(0, .ref 124), (1, .int (nI 1))]) (And.intro rfl (And.intro rfl trivial)) ?_
                        exact fin 4 rfl
                    · omega
                  · omega
                · omega
      · refine xe_aload_n dX10_comesOut_0 rfl ?_
        refine xe_getIv dX10_comesOut_1 flX10_295 (st124 hs) (by decide) rfl (v := nI ((P ++ w).length + 1)) (hw43) ?_
        refine xn_if_le (tgt := 91) dX10_comesOut_4 rfl (by omega) (fun c1 => ?_) (fun c1 => ?_)
        · omega
        · refine xe_aload_n dX10_comesOut_7 rfl ?_
          refine xe_getP dX10_comesOut_8 flX10_98 (st124 hs) (by decide) rfl (sp124_42 hs) ?_
          refine xe_aload_n dX10_comesOut_11 rfl ?_
          refine xe_getIv dX10_comesOut_12 flX10_295 (st124 hs) (by decide) rfl (v := nI ((P ++ w).length + 1)) (hw43) ?_
          refine xe_iconst dX10_comesOut_15 kc_1 ?_
          refine xn_isub dX10_comesOut_16 (by omega) ?_
          refine xn_ialdv dX10_comesOut_17 (st151 hs) (by omega) (by decide) (v := nI 15) ((by rw [show (P ++ w).length + 1 - 1 = (P ++ w).length by omega]; exact hw.1)) ?_
          refine xe_istore_n (i := 2) dX10_comesOut_18 rfl (by decide) rfl ?_
          refine xe_iload_n dX10_comesOut_19 rfl ?_
          refine xe_bipush dX10_comesOut_20 kb_6 ?_
          refine xn_icmp_eq (tgt := 41) dX10_comesOut_22 rfl (by omega) (by omega) (fun c2 => ?_) (fun c2 => ?_)
          · omega
          · refine xe_iload_n dX10_comesOut_25 rfl ?_
            refine xn_if_eq (tgt := 42) dX10_comesOut_26 rfl (by omega) (fun c3 => ?_) (fun c3 => ?_)
            · omega
            · refine xe_iload_n dX10_comesOut_29 rfl ?_
              refine xe_bipush dX10_comesOut_30 kb_8 ?_
              refine xn_icmp_eq (tgt := 41) dX10_comesOut_32 rfl (by omega) (by omega) (fun c4 => ?_) (fun c4 => ?_)
              · omega
              · refine xe_iload_n dX10_comesOut_35 rfl ?_
                refine xe_bipush dX10_comesOut_36 kb_9 ?_
                refine xn_icmp_ne (tgt := 42) dX10_comesOut_38 rfl (by omega) (by omega) (fun c5 => ?_) (fun c5 => ?_)
                · refine xe_aload_n dX10_comesOut_42 rfl ?_
                  refine xe_dup dX10_comesOut_43 rfl ?_
                  refine xe_getIv dX10_comesOut_44 flX10_295 (st124 hs) (by decide) rfl (v := nI ((P ++ w).length + 1)) (hw43) ?_
                  refine xe_iconst dX10_comesOut_47 kc_1 ?_
                  refine xn_isub dX10_comesOut_48 (by omega) ?_
                  refine xe_putI dX10_comesOut_49 flX10_295 (st124 hs) (by decide) rfl (Or.inl rfl) rfl rfl ?_
                  refine xe_aload_n dX10_comesOut_52 rfl ?_
                  refine xe_iload_n dX10_comesOut_53 rfl ?_
                  refine xe_bipush dX10_comesOut_54 kb_8 ?_
                  refine xn_icmp_ne (tgt := 63) dX10_comesOut_56 rfl (by omega) (by omega) (fun c6 => ?_) (fun c6 => ?_)
                  · refine xe_iload_n dX10_comesOut_63 rfl ?_
                    refine xe_bipush dX10_comesOut_64 kb_9 ?_
                    refine xn_icmp_ne (tgt := 73) dX10_comesOut_66 rfl (by omega) (by omega) (fun c7 => ?_) (fun c7 => ?_)
                    · refine xe_iload_n dX10_comesOut_73 rfl ?_
                      refine xe_bipush dX10_comesOut_74 kb_10 ?_
                      refine xn_icmp_ne (tgt := 83) dX10_comesOut_76 rfl (by omega) (by omega) (fun c8 => ?_) (fun c8 => ?_)
                      · refine xe_iconst dX10_comesOut_83 kc_5 ?_
                        refine xe_iconst dX10_comesOut_84 kc_0 ?_
                        refine xe_callVV (d' := 0) (y' := mX10_emit) dX10_comesOut_85 mlX10_298 mvX10_emit rfl (st124 hs) (by decide) rfl (by omega) (by decide) (Nat.le_of_ble_eq_true rfl) (c_X10_emit l g _ (by exact hs) (n := n) (by exact hn) (by omega) _ _) rfl ?_
                        refine xe_goto (tgt := 0) dX10_comesOut_88 rfl ?_
                        refine xe_locals (L' := [(0, .ref 124), (1, .int (nI 1))]) (And.intro rfl (And.intro rfl trivial)) ?_
                        exact fin 5 rfl
                      · omega
                    · omega
                  · omega
                · omega
theorem c_X10_comesOut (l : Launch) (g : q_GP) (h : q_H) (hs : q_Stat h) {s n : Nat} (hs1 : s < 2) {P w : List Nat} (hP : ∀ x ∈ P, q_out1 s x) (hst : q_stay s w) (hw43 : q_I h 124 43 = nI (P ++ w).length) (hw : q_wk (q_I h 151) (P ++ w)) (hw6 : (P ++ w).length ≤ 64) (hn : q_I h 124 39 = nI n) (hn8 : n + P.length ≤ 840) : q_Ct l g 1 mX10_comesOut [.ref 124, .int (nI s)] h (fun r h1 => r = none ∧ q_ce h n (q_emo P) w.length h1) := by
  refine q_CtV mvX10_comesOut (Nat.le_of_ble_eq_true rfl) ?_
  refine xe_locals (L' := [(0, .ref 124), (1, .int (nI s))]) (And.intro rfl (And.intro rfl trivial)) ?_
  exact co_loop l g hs1 (by decide) hst P h n hs hP hw43 hw hw6 hn hn8 (fun h1 q => ⟨rfl, q⟩)
