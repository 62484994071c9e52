/-! the class: payments; what one did -/
theorem q_Stat_2 {h X : q_H} (e : X.2 = h.2) (hs : q_Stat h) : q_Stat X := by
  have e := congrArg (fun z => z.2) e
  have eT : q_T X = q_T h := congrArg (fun z => z.2.1) e
  have eL : q_L X = q_L h := congrArg (fun z => z.2.2.1) e
  have eN : q_N X = q_N h := congrArg (fun z => z.2.2.2.1) e
  have eP : q_P X = q_P h := congrArg (fun z => z.1) e
  refine ⟨fun r t n h1 => ?_, fun r k a h1 => ?_⟩
  · have := hs.1 r t n h1
    unfold q_Sh at this ⊢
    rw [eN, eT, eL]
    exact this
  · rw [eP]
    exact hs.2 r k a h1
theorem q_Stat_out {h X : q_H} {ks : List Nat} (a : q_out ks h X) (hs : q_Stat h) : q_Stat X := q_Stat_2 a.2 hs
def q_kag2 (h h1 : q_H) : Prop := q_out (111 :: 112 :: 122 :: 123 :: q_ksl) h h1 ∧ q_I h1 111 0 = q_I h 111 0 ∧ q_I h1 112 0 = q_I h 112 0 ∧ q_I h1 122 0 = q_I h 122 0 ∧ q_I h1 123 0 = q_I h 123 0
theorem q_kag_2 {h h1 : q_H} (a : q_kag h h1) : q_kag2 h h1 := by
  have e : ∀ r, r ∈ [111, 112, 122, 123] → q_I h1 r = q_I h r := fun r hr => by
    refine a.1 r ?_
    simp only [List.mem_cons, List.not_mem_nil, or_false] at hr
    rcases hr with rfl | rfl | rfl | rfl <;> rfl
  refine ⟨⟨fun r hr => a.1 r ?_, a.2⟩, ?_, ?_, ?_, ?_⟩
  · rw [← Bool.not_eq_true] at hr ⊢
    intro q
    refine hr (List.contains_iff_mem.mpr ?_)
    have := List.contains_iff_mem.mp q
    simp only [List.mem_cons]
    exact Or.inr (Or.inr (Or.inr (Or.inr this)))
  all_goals exact congrFun (e _ (by decide)) 0
theorem q_ss_co {f : Nat → Int32} {s t : Nat} (hs : s < 256) (ht : t < 256) : ∀ n, n ≤ 8 → (∀ k, k < n → s.testBit k = t.testBit k) → q_ss f s n = q_ss f t n
  | 0, _, _ => rfl
  | n + 1, hn, h => by
    have ih := q_ss_co (f := f) hs ht n (by omega) (fun k hk => h k (by omega))
    have hb : q_bit (nI s) n = q_bit (nI t) n := by
      have e1 := q_tb hs (show n < 8 by omega)
      have e2 := q_tb ht (show n < 8 by omega)
      exact decide_eq_decide.mpr (e1.trans ((by rw [h n (by omega)] : (s.testBit n = true) ↔ (t.testBit n = true)).trans e2.symm))
    unfold q_ss
    rw [hb, ih]
theorem q_ss_lo {f : Nat → Int32} {s m : Nat} (hs : s < 2 ^ m) (hm : m < 8) : q_ss f s (m + 1) = q_ss f s m := by
  have hs2 : s < 256 := Nat.lt_of_lt_of_le hs (q_pow_le (by omega))
  have hb : ¬ q_bit (nI s) m = true := fun q => by
    have := (q_tb hs2 hm).mp (of_decide_eq_true q)
    rw [Nat.testBit_lt_two_pow hs] at this
    cases this
  exact if_neg hb
theorem q_pow_two {m : Nat} (hm : m < 8) : 2 ^ m + 2 ^ m ≤ 256 := by
  have := q_pow_le (k := m + 1) (by omega)
  rw [Nat.pow_succ] at this
  omega
theorem q_ss_hi {f : Nat → Int32} {s m : Nat} (hs : s < 2 ^ m) (hm : m < 8) : q_ss f (s + 2 ^ m) (m + 1) = q_ss f s m + f m := by
  have hp := q_pow_two hm
  have hs2 : s + 2 ^ m < 256 := by omega
  have hb : q_bit (nI (s + 2 ^ m)) m = true := by
    refine decide_eq_true ((q_tb hs2 hm).mpr ?_)
    rw [Nat.add_comm, Nat.testBit_two_pow_add_eq, Nat.testBit_lt_two_pow hs]
    rfl
  show (if q_bit (nI (s + 2 ^ m)) m then q_ss f (s + 2 ^ m) m + f m else _) = _
  rw [if_pos hb, q_ss_co (t := s) hs2 (by omega) m (by omega) (fun k hk => by rw [Nat.add_comm, Nat.testBit_two_pow_add_gt hk])]
theorem q_or_f : ∀ (m : Fin 8) (s : Fin 128), s.1 < 2 ^ m.1 → nI s.1 ||| nI 1 <<< (nI m.1 &&& 31) = nI (s.1 + 2 ^ m.1) := by decide +kernel
theorem q_or {m s : Nat} (hm : m < 8) (hs : s < 2 ^ m) : nI s ||| nI 1 <<< (nI m &&& 31) = nI (s + 2 ^ m) := q_or_f ⟨m, hm⟩ ⟨s, Nat.lt_of_lt_of_le hs (Nat.le_trans (Nat.pow_le_pow_right (by decide) (show m ≤ 7 by omega)) (by decide))⟩ hs
theorem q_xor_f : ∀ (s : Fin 256) (k : Fin 8), q_bit (nI s.1) k.1 = true → nI s.1 ^^^ nI 1 <<< (nI k.1 &&& 31) = nI (q_del s.1 k.1) ∧ q_del s.1 k.1 < s.1 := by decide +kernel
theorem q_xor {s k : Nat} (hs : s < 256) (hk : k < 8) (h : q_bit (nI s) k = true) : nI s ^^^ nI 1 <<< (nI k &&& 31) = nI (q_del s k) ∧ q_del s k < s := q_xor_f ⟨s, hs⟩ ⟨k, hk⟩ h
theorem q_sm_n {G : Nat → Int32} {s n : Nat} (h : ¬ q_bit (nI s) n = true) : q_sm G s (n + 1) = q_sm G s n := if_neg (fun q => h q.1)
theorem q_sm_y {G : Nat → Int32} {s n : Nat} (h : q_bit (nI s) n = true) : q_sm G s (n + 1) = if q_sm G s n < G (q_del s n) then G (q_del s n) else q_sm G s n := by
  show (if q_bit (nI s) n = true ∧ q_sm G s n < G (q_del s n) then _ else _) = _
  by_cases h2 : q_sm G s n < G (q_del s n)
  · rw [if_pos ⟨h, h2⟩, if_pos h2]
  · rw [if_neg (fun q => h2 q.2), if_neg h2]
theorem q_sm_co {G G' : Nat → Int32} {s : Nat} (hs : s < 256) : ∀ n, n ≤ 8 → (∀ t, t < s → G t = G' t) → q_sm G s n = q_sm G' s n
  | 0, _, _ => rfl
  | n + 1, hn, h => by
    have ih := q_sm_co hs n (by omega) h
    by_cases hb : q_bit (nI s) n = true
    · rw [q_sm_y hb, q_sm_y hb, ih, h _ (q_xor hs (by omega) hb).2]
    · rw [q_sm_n hb, q_sm_n hb, ih]
/-- the most groups: what a row of them keeps -/
def q_gok (f : Nat → Int32) (nm : Nat) (G : Nat → Int32) (n : Nat) : Prop := G 0 = nI 0 ∧ ∀ s, 0 < s → s < n → G s = if q_ss f s nm = 0 then q_sm G s nm + nI 1 else q_sm G s nm + nI 0
theorem c_X9_mostGroupsWithin (l : Launch) (g : q_GP) (h : q_H) (hs : q_Stat h) {p nm nd nc mo n : Nat} (hp : rk_P h p nm nd nc mo n) {s : Nat} (hs2 : s < 2 ^ nm) : q_Cd l g 1 mX9_mostGroupsWithin [.ref 0, .int (nI s)] h (some (.int (q_sm (q_I h 123) s nm))) h := by
  obtain ⟨P0, P1, P2, P2b, P3, P3b, P4, P4b, P5, P5b, P6, P6b⟩ := id hp
  rcases P1 with rfl | rfl
  · refine q_CdV mvX9_mostGroupsWithin (Nat.le_of_ble_eq_true rfl) ?_
    have hpw := q_pow_le P3b
    refine xe_iconst dX9_mostGroupsWithin_0 kc_0 ?_
    refine xe_istore_n (i := 2) dX9_mostGroupsWithin_1 rfl (by decide) rfl ?_
    refine xe_iconst dX9_mostGroupsWithin_2 kc_0 ?_
    refine xe_istore_n (i := 3) dX9_mostGroupsWithin_3 rfl (by decide) rfl ?_
    refine xe_fin (L' := (fun (k_ : Nat) (s1 : Int32) => [(0, .ref 0), (1, .int (nI s)), (2, .int s1), (3, .int (nI k_))]) 0 (nI 0)) (h' := (fun (_ : Nat) (_ : Int32) => h) 0 (nI 0)) ?_ (And.intro rfl (And.intro rfl (And.intro rfl (And.intro rfl trivial)))) rfl
    refine xe_loopI (σ := Int32) (nm) (fun i x => x = q_sm (q_I h 123) s i) (fun (k_ : Nat) (s1 : Int32) => [(0, .ref 0), (1, .int (nI s)), (2, .int s1), (3, .int (nI k_))]) (fun (_ : Nat) (_ : Int32) => h) (nI 0) (rfl) (fun k_ hk_ s1 e1 K1 => ?_) (fun s1 e1 => ?_)
    · refine xe_iload_n dX9_mostGroupsWithin_4 rfl ?_
      refine xe_aload_n dX9_mostGroupsWithin_5 rfl ?_
      refine xe_getP dX9_mostGroupsWithin_6 flX9_26 (st0 hs) (by decide) rfl P0 ?_
      refine xe_getIv dX9_mostGroupsWithin_9 flX9_117 (st10 hs) (by decide) rfl (v := nI nm) (P3) ?_
      refine xn_icmp_ge (tgt := 45) dX9_mostGroupsWithin_12 rfl (by omega) (by omega) (fun c2 => ?_) (fun c2 => ?_)
      · omega
      · refine xe_iload_n dX9_mostGroupsWithin_15 rfl ?_
        refine xe_iload_n dX9_mostGroupsWithin_16 rfl ?_
        refine xe_ishr dX9_mostGroupsWithin_17 ?_
        refine xe_iconst dX9_mostGroupsWithin_18 kc_1 ?_
        refine xe_iand dX9_mostGroupsWithin_19 ?_
        refine xe_iconst dX9_mostGroupsWithin_20 kc_1 ?_
        refine xe_icmp_ne (tgt := 39) dX9_mostGroupsWithin_21 rfl (fun c3 => ?_) (fun c3 => ?_)
        · have hb : ¬ q_bit (nI s) k_ = true := fun q => c3 (of_decide_eq_true q)
          refine xn_iinc dX9_mostGroupsWithin_39 rfl kc_1 ?_
          refine xe_goto (tgt := 4) dX9_mostGroupsWithin_42 rfl ?_
          exact xe_fin (K1 s1 (by rw [e1]; exact (q_sm_n hb).symm)) (And.intro rfl (And.intro rfl (And.intro rfl (And.intro rfl trivial)))) rfl
        · have hb : q_bit (nI s) k_ = true := decide_eq_true c3
          have hx := q_xor (by omega) (by omega) hb
          refine xe_iload_n dX9_mostGroupsWithin_24 rfl ?_
          refine xe_aload_n dX9_mostGroupsWithin_25 rfl ?_
          refine xe_getP dX9_mostGroupsWithin_26 flX9_86 (st0 hs) (by decide) rfl (sp0_14 hs) ?_
          refine xe_iload_n dX9_mostGroupsWithin_29 rfl ?_
          refine xe_iconst dX9_mostGroupsWithin_30 kc_1 ?_
          refine xe_iload_n dX9_mostGroupsWithin_31 rfl ?_
          refine xe_ishl dX9_mostGroupsWithin_32 ?_
          refine xe_ixor dX9_mostGroupsWithin_33 ?_
          refine xe_top (v' := nI (q_del s k_)) ((q_xor (by omega) (by omega) hb).1) ?_
          refine xn_ialdv dX9_mostGroupsWithin_34 (st123 hs) (by omega) (by decide) (v := ((q_I h 123) (q_del s k_))) (rfl) ?_
          refine xe_max dX9_mostGroupsWithin_35 mlX9_202 q_mmax (by decide) (Nat.le_of_ble_eq_true rfl) ?_
          refine xe_istore_n (i := 2) dX9_mostGroupsWithin_38 rfl (by decide) rfl ?_
          refine xn_iinc dX9_mostGroupsWithin_39 rfl kc_1 ?_
          refine xe_goto (tgt := 4) dX9_mostGroupsWithin_42 rfl ?_
          exact xe_fin (K1 (if s1 < ((q_I h 123) (q_del s k_)) then ((q_I h 123) (q_del s k_)) else s1) (by rw [e1]; exact (q_sm_y hb).symm)) (And.intro rfl (And.intro rfl (And.intro rfl (And.intro rfl trivial)))) rfl
    · refine xe_iload_n dX9_mostGroupsWithin_4 rfl ?_
      refine xe_aload_n dX9_mostGroupsWithin_5 rfl ?_
      refine xe_getP dX9_mostGroupsWithin_6 flX9_26 (st0 hs) (by decide) rfl P0 ?_
      refine xe_getIv dX9_mostGroupsWithin_9 flX9_117 (st10 hs) (by decide) rfl (v := nI nm) (P3) ?_
      refine xn_icmp_ge (tgt := 45) dX9_mostGroupsWithin_12 rfl (by omega) (by omega) (fun c4 => ?_) (fun c4 => ?_)
      · refine xe_iload_n dX9_mostGroupsWithin_45 rfl ?_
        refine xe_ireturn dX9_mostGroupsWithin_46 rfl (by first | rfl | decide +kernel) ?_
        exact ⟨congrArg (fun v => some (Value.int v)) e1, rfl⟩
      · omega
  · refine q_CdV mvX9_mostGroupsWithin (Nat.le_of_ble_eq_true rfl) ?_
    have hpw := q_pow_le P3b
    refine xe_iconst dX9_mostGroupsWithin_0 kc_0 ?_
    refine xe_istore_n (i := 2) dX9_mostGroupsWithin_1 rfl (by decide) rfl ?_
    refine xe_iconst dX9_mostGroupsWithin_2 kc_0 ?_
    refine xe_istore_n (i := 3) dX9_mostGroupsWithin_3 rfl (by decide) rfl ?_
    refine xe_fin (L' := (fun (k_ : Nat) (s1 : Int32) => [(0, .ref 0), (1, .int (nI s)), (2, .int s1), (3, .int (nI k_))]) 0 (nI 0)) (h' := (fun (_ : Nat) (_ : Int32) => h) 0 (nI 0)) ?_ (And.intro rfl (And.intro rfl (And.intro rfl (And.intro rfl trivial)))) rfl
    refine xe_loopI (σ := Int32) (nm) (fun i x => x = q_sm (q_I h 123) s i) (fun (k_ : Nat) (s1 : Int32) => [(0, .ref 0), (1, .int (nI s)), (2, .int s1), (3, .int (nI k_))]) (fun (_ : Nat) (_ : Int32) => h) (nI 0) (rfl) (fun k_ hk_ s1 e1 K1 => ?_) (fun s1 e1 => ?_)
    · refine xe_iload_n dX9_mostGroupsWithin_4 rfl ?_
      refine xe_aload_n dX9_mostGroupsWithin_5 rfl ?_
      refine xe_getP dX9_mostGroupsWithin_6 flX9_26 (st0 hs) (by decide) rfl P0 ?_
      refine xe_getIv dX9_mostGroupsWithin_9 flX9_117 (st22 hs) (by decide) rfl (v := nI nm) (P3) ?_
      refine xn_icmp_ge (tgt := 45) dX9_mostGroupsWithin_12 rfl (by omega) (by omega) (fun c2 => ?_) (fun c2 => ?_)
      · omega
      · refine xe_iload_n dX9_mostGroupsWithin_15 rfl ?_
        refine xe_iload_n dX9_mostGroupsWithin_16 rfl ?_
        refine xe_ishr dX9_mostGroupsWithin_17 ?_
        refine xe_iconst dX9_mostGroupsWithin_18 kc_1 ?_
        refine xe_iand dX9_mostGroupsWithin_19 ?_
        refine xe_iconst dX9_mostGroupsWithin_20 kc_1 ?_
        refine xe_icmp_ne (tgt := 39) dX9_mostGroupsWithin_21 rfl (fun c3 => ?_) (fun c3 => ?_)
        · have hb : ¬ q_bit (nI s) k_ = true := fun q => c3 (of_decide_eq_true q)
          refine xn_iinc dX9_mostGroupsWithin_39 rfl kc_1 ?_
          refine xe_goto (tgt := 4) dX9_mostGroupsWithin_42 rfl ?_
          exact xe_fin (K1 s1 (by rw [e1]; exact (q_sm_n hb).symm)) (And.intro rfl (And.intro rfl (And.intro rfl (And.intro rfl trivial)))) rfl
        · have hb : q_bit (nI s) k_ = true := decide_eq_true c3
          have hx := q_xor (by omega) (by omega) hb
          refine xe_iload_n dX9_mostGroupsWithin_24 rfl ?_
          refine xe_aload_n dX9_mostGroupsWithin_25 rfl ?_
          refine xe_getP dX9_mostGroupsWithin_26 flX9_86 (st0 hs) (by decide) rfl (sp0_14 hs) ?_
          refine xe_iload_n dX9_mostGroupsWithin_29 rfl ?_
          refine xe_iconst dX9_mostGroupsWithin_30 kc_1 ?_
          refine xe_iload_n dX9_mostGroupsWithin_31 rfl ?_
          refine xe_ishl dX9_mostGroupsWithin_32 ?_
          refine xe_ixor dX9_mostGroupsWithin_33 ?_
          refine xe_top (v' := nI (q_del s k_)) ((q_xor (by omega) (by omega) hb).1) ?_
          refine xn_ialdv dX9_mostGroupsWithin_34 (st123 hs) (by omega) (by decide) (v := ((q_I h 123) (q_del s k_))) (rfl) ?_
          refine xe_max dX9_mostGroupsWithin_35 mlX9_202 q_mmax (by decide) (Nat.le_of_ble_eq_true rfl) ?_
          refine xe_istore_n (i := 2) dX9_mostGroupsWithin_38 rfl (by decide) rfl ?_
          refine xn_iinc dX9_mostGroupsWithin_39 rfl kc_1 ?_
          refine xe_goto (tgt := 4) dX9_mostGroupsWithin_42 rfl ?_
          exact xe_fin (K1 (if s1 < ((q_I h 123) (q_del s k_)) then ((q_I h 123) (q_del s k_)) else s1) (by rw [e1]; exact (q_sm_y hb).symm)) (And.intro rfl (And.intro rfl (And.intro rfl (And.intro rfl trivial)))) rfl
    · refine xe_iload_n dX9_mostGroupsWithin_4 rfl ?_
      refine xe_aload_n dX9_mostGroupsWithin_5 rfl ?_
      refine xe_getP dX9_mostGroupsWithin_6 flX9_26 (st0 hs) (by decide) rfl P0 ?_
      refine xe_getIv dX9_mostGroupsWithin_9 flX9_117 (st22 hs) (by decide) rfl (v := nI nm) (P3) ?_
      refine xn_icmp_ge (tgt := 45) dX9_mostGroupsWithin_12 rfl (by omega) (by omega) (fun c4 => ?_) (fun c4 => ?_)
      · refine xe_iload_n dX9_mostGroupsWithin_45 rfl ?_
        refine xe_ireturn dX9_mostGroupsWithin_46 rfl (by first | rfl | decide +kernel) ?_
        exact ⟨congrArg (fun v => some (Value.int v)) e1, rfl⟩
      · omega
theorem q_gok_s {f : Nat → Int32} {nm n : Nat} {G : Nat → Int32} {v : Int32} (h : q_gok f nm G n) (hn : 0 < n) (hn2 : n < 256) (hnm : nm ≤ 8) (hv : v = if q_ss f n nm = 0 then q_sm G n nm + nI 1 else q_sm G n nm + nI 0) : q_gok f nm (upd G n v) (n + 1) := by
  have e : ∀ s, s < 256 → s ≤ n → q_sm (upd G n v) s nm = q_sm G s nm := fun s h1 h2 => q_sm_co h1 nm hnm (fun t ht => pk_un (by omega))
  refine ⟨(pk_un (by omega)).trans h.1, fun s h1 h2 => ?_⟩
  rw [e s (by omega) (by omega)]
  by_cases q : s = n
  · rw [q, pk_us, hv]
  · rw [pk_un q]
    exact h.2 s h1 (by omega)
theorem c_X9_payments (l : Launch) (g : q_GP) (h : q_H) (hs : q_Stat h) {p nm nd nc mo n : Nat} (hp : rk_P h p nm nd nc mo n) (hz2 : q_I h 122 0 = nI 0) (hz3 : q_I h 123 0 = nI 0) : q_Ct l g 2 mX9_payments [.ref 0] h (fun r h1 => ∃ G, q_gok (fun m => q_sum (fun k => q_cr h (72 + 8 * k + m) - q_cr h (72 + 8 * m + k)) 8) nm G (2 ^ nm) ∧ r = some (.int (nI nm - G (2 ^ nm - 1))) ∧ q_kag2 h h1) := by
  obtain ⟨P0, P1, P2, P2b, P3, P3b, P4, P4b, P5, P5b, P6, P6b⟩ := id hp
  rcases P1 with rfl | rfl
  · refine q_CtV mvX9_payments (Nat.le_of_ble_eq_true rfl) ?_
    have hpw := q_pow_le P3b
    have hpw0 : 0 < 2 ^ nm := Nat.pow_pos (by decide)
    refine xe_iconst dX9_payments_0 kc_1 ?_
    refine xe_aload_n dX9_payments_1 rfl ?_
    refine xe_getP dX9_payments_2 flX9_26 (st0 hs) (by decide) rfl P0 ?_
    refine xe_getIv dX9_payments_5 flX9_117 (st10 hs) (by decide) rfl (v := nI nm) (P3) ?_
    refine xe_ishl dX9_payments_8 ?_
    refine xe_top (v' := nI (2 ^ nm)) (q_pow_nm nm P3b) ?_
    refine xe_istore_n (i := 1) dX9_payments_9 rfl (by decide) rfl ?_
    refine xe_iconst dX9_payments_10 kc_0 ?_
    refine xe_istore_n (i := 2) dX9_payments_11 rfl (by decide) rfl ?_
    refine xe_fin (L' := (fun (m_ : Nat) (s1 : (Nat → Int32)) => [(0, .ref 0), (1, .int (nI (2 ^ nm))), (2, .int (nI m_))]) 0 (q_I h 122)) (h' := (fun (m_ : Nat) (s1 : (Nat → Int32)) => (q_wI h 122 s1)) 0 (q_I h 122)) ?_ (And.intro rfl (And.intro rfl (And.intro rfl trivial))) (q_heq [122] (H := h) (by repeat (first | exact q_out_r | refine q_out_w rfl ?_)) (by repeat (first | exact q_out_r | refine q_out_w rfl ?_)) (And.intro rfl trivial))
    refine xe_loopI (σ := (Nat → Int32)) (nm) (fun m s => s 0 = nI 0 ∧ ∀ t, t < 2 ^ m → s t = q_ss (fun m => q_sum (fun k => q_cr h (72 + 8 * k + m) - q_cr h (72 + 8 * m + k)) 8) t m) (fun (m_ : Nat) (s1 : (Nat → Int32)) => [(0, .ref 0), (1, .int (nI (2 ^ nm))), (2, .int (nI m_))]) (fun (m_ : Nat) (s1 : (Nat → Int32)) => (q_wI h 122 s1)) (q_I h 122) (⟨hz2, fun t ht => by obtain rfl : t = 0 := (by have ht : t < 1 := ht; omega); exact hz2⟩) (fun m_ hm_ s1 e1 K1 => ?_) (fun s1 e1 => ?_)
    · have hp2 := q_pow_two (m := m_) (by omega)
      have hp3 : 0 < 2 ^ m_ := Nat.pow_pos (by decide)
      refine xe_iload_n dX9_payments_12 rfl ?_
      refine xe_aload_n dX9_payments_13 rfl ?_
      refine xe_getP dX9_payments_14 flX9_26 (st0 hs) (by decide) rfl P0 ?_
      refine xe_getIv dX9_payments_17 flX9_117 (st10 hs) (by decide) rfl (v := nI nm) (P3) ?_
      refine xn_icmp_ge (tgt := 75) dX9_payments_20 rfl (by omega) (by omega) (fun c2 => ?_) (fun c2 => ?_)
      · omega
      · refine xe_aload_n dX9_payments_23 rfl ?_
        refine xe_getP dX9_payments_24 flX9_36 (st0 hs) (by decide) rfl (sp0_4 hs) ?_
        refine xe_iload_n dX9_payments_27 rfl ?_
        refine xe_callVI (d' := 0) (y' := mX6_net) dX9_payments_28 mlX9_147 mvX6_net rfl (st34 hs) (by decide) rfl (by decide) (by decide) (Nat.le_of_ble_eq_true rfl) (c_X6_net l g _ (by exact hs) _ (by omega)) rfl ?_
        refine xe_top (v' := (q_sum (fun k => q_cr h (72 + 8 * k + m_) - q_cr h (72 + 8 * m_ + k)) 8)) (q_cr_net h (by omega)) ?_
        refine xe_istore_n (i := 3) dX9_payments_31 rfl (by decide) rfl ?_
        refine xe_iconst dX9_payments_32 kc_0 ?_
        refine xe_istore dX9_payments_33 (by decide) rfl ?_
        refine xe_fin (L' := (fun (j_ : Nat) (s3 : (Nat → Int32)) => [(0, .ref 0), (1, .int (nI (2 ^ nm))), (2, .int (nI m_)), (3, .int (q_sum (fun k => q_cr h (72 + 8 * k + m_) - q_cr h (72 + 8 * m_ + k)) 8)), (4, .int (nI j_))]) 0 s1) (h' := (fun (j_ : Nat) (s3 : (Nat → Int32)) => (q_wI h 122 s3)) 0 s1) ?_ (And.intro rfl (And.intro rfl (And.intro rfl (And.intro rfl (And.intro rfl trivial))))) (q_heq [122] (H := h) (by repeat (first | exact q_out_r | refine q_out_w rfl ?_)) (by repeat (first | exact q_out_r | refine q_out_w rfl ?_)) (And.intro rfl trivial))
        refine xe_loopI (σ := (Nat → Int32)) (2 ^ m_) (fun j s => s 0 = nI 0 ∧ (∀ t, t < 2 ^ m_ → s t = q_ss (fun m => q_sum (fun k => q_cr h (72 + 8 * k + m) - q_cr h (72 + 8 * m + k)) 8) t m_) ∧ ∀ t, t < j → s (t + 2 ^ m_) = q_ss (fun m => q_sum (fun k => q_cr h (72 + 8 * k + m) - q_cr h (72 + 8 * m + k)) 8) (t + 2 ^ m_) (m_ + 1)) (fun (j_ : Nat) (s3 : (Nat → Int32)) => [(0, .ref 0), (1, .int (nI (2 ^ nm))), (2, .int (nI m_)), (3, .int (q_sum (fun k => q_cr h (72 + 8 * k + m_) - q_cr h (72 + 8 * m_ + k)) 8)), (4, .int (nI j_))]) (fun (j_ : Nat) (s3 : (Nat → Int32)) => (q_wI h 122 s3)) s1 (⟨e1.1, e1.2, fun _ q => absurd q (Nat.not_lt_zero _)⟩) (fun j_ hj_ s3 e3 K3 => ?_) (fun s3 e3 => ?_)
        · refine xe_iload dX9_payments_35 rfl ?_
          refine xe_iconst dX9_payments_37 kc_1 ?_
          refine xe_iload_n dX9_payments_38 rfl ?_
          refine xe_ishl dX9_payments_39 ?_
          refine xe_top (v' := nI (2 ^ m_)) (q_pow_nm m_ (by omega)) ?_
          refine xn_icmp_ge (tgt := 69) dX9_payments_40 rfl (by omega) (by omega) (fun c4 => ?_) (fun c4 => ?_)
          · omega
          · refine xe_aload_n dX9_payments_43 rfl ?_
            refine xe_getP dX9_payments_44 flX9_83 (st0 hs) (by decide) rfl (sp0_13 hs) ?_
            refine xe_iload dX9_payments_47 rfl ?_
            refine xe_iconst dX9_payments_49 kc_1 ?_
            refine xe_iload_n dX9_payments_50 rfl ?_
            refine xe_ishl dX9_payments_51 ?_
            refine xe_ior dX9_payments_52 ?_
            refine xe_top (v' := nI (j_ + 2 ^ m_)) (q_or (by omega) (by omega)) ?_
            refine xe_aload_n dX9_payments_53 rfl ?_
            refine xe_getP dX9_payments_54 flX9_83 (st0 hs) (by decide) rfl (sp0_13 hs) ?_
            refine xe_iload dX9_payments_57 rfl ?_
            refine xn_ialdv dX9_payments_59 (st122 hs) (by omega) (by decide) (v := (q_ss (fun m => q_sum (fun k => q_cr h (72 + 8 * k + m) - q_cr h (72 + 8 * m + k)) 8) j_ m_)) (e3.2.1 j_ hj_) ?_
            refine xe_iload_n dX9_payments_60 rfl ?_
            refine xe_iadd dX9_payments_61 ?_
            refine xn_iast dX9_payments_62 (st122 hs) (by omega) (by decide) ?_
            refine xn_iinc dX9_payments_63 rfl kc_1 ?_
            refine xe_goto (tgt := 35) dX9_payments_66 rfl ?_
            exact xe_fin (K3 (upd s3 (j_ + 2 ^ m_) ((q_ss (fun m => q_sum (fun k => q_cr h (72 + 8 * k + m) - q_cr h (72 + 8 * m + k)) 8) j_ m_) + (q_sum (fun k => q_cr h (72 + 8 * k + m_) - q_cr h (72 + 8 * m_ + k)) 8))) (⟨(pk_un (by omega)).trans e3.1, fun t q => (pk_un (by omega)).trans (e3.2.1 t q), fun t q => q_updw (fun e => by obtain rfl : t = j_ := (by omega); rw [q_ss_hi (by omega) (by omega)]) (fun e => e3.2.2 t (by omega))⟩)) (And.intro rfl (And.intro rfl (And.intro rfl (And.intro rfl (And.intro rfl trivial))))) (q_heq [122] (H := h) (by repeat (first | exact q_out_r | refine q_out_w rfl ?_)) (by repeat (first | exact q_out_r | refine q_out_w rfl ?_)) (And.intro rfl trivial))
        · refine xe_iload dX9_payments_35 rfl ?_
          refine xe_iconst dX9_payments_37 kc_1 ?_
          refine xe_iload_n dX9_payments_38 rfl ?_
          refine xe_ishl dX9_payments_39 ?_
          refine xe_top (v' := nI (2 ^ m_)) (q_pow_nm m_ (by omega)) ?_
          refine xn_icmp_ge (tgt := 69) dX9_payments_40 rfl (by omega) (by omega) (fun c5 => ?_) (fun c5 => ?_)
          · refine xn_iinc dX9_payments_69 rfl kc_1 ?_
            refine xe_goto (tgt := 12) dX9_payments_72 rfl ?_
            exact xe_fin (K1 s3 (⟨e3.1, fun t ht => by rw [Nat.pow_succ] at ht; exact if q : t < 2 ^ m_ then (e3.2.1 t q).trans (q_ss_lo q (by omega)).symm else by have q2 := e3.2.2 (t - 2 ^ m_) (by omega); rwa [Nat.sub_add_cancel (by omega)] at q2⟩)) (And.intro rfl (And.intro rfl (And.intro rfl trivial))) (q_heq [122] (H := h) (by repeat (first | exact q_out_r | refine q_out_w rfl ?_)) (by repeat (first | exact q_out_r | refine q_out_w rfl ?_)) (And.intro rfl trivial))
          · omega
    · refine xe_iload_n dX9_payments_12 rfl ?_
      refine xe_aload_n dX9_payments_13 rfl ?_
      refine xe_getP dX9_payments_14 flX9_26 (st0 hs) (by decide) rfl P0 ?_
      refine xe_getIv dX9_payments_17 flX9_117 (st10 hs) (by decide) rfl (v := nI nm) (P3) ?_
      refine xn_icmp_ge (tgt := 75) dX9_payments_20 rfl (by omega) (by omega) (fun c6 => ?_) (fun c6 => ?_)
      · refine xe_iconst dX9_payments_75 kc_1 ?_
        refine xe_istore_n (i := 2) dX9_payments_76 rfl (by decide) rfl ?_
        refine xe_fin (L' := (fun (i_ : Nat) (s7 : (Nat → Int32)) => [(0, .ref 0), (1, .int (nI (2 ^ nm))), (2, .int (nI (1 + i_)))]) 0 (q_I h 123)) (h' := (fun (i_ : Nat) (s7 : (Nat → Int32)) => (q_wI (q_wI h 122 s1) 123 s7)) 0 (q_I h 123)) ?_ (And.intro rfl (And.intro rfl (And.intro rfl trivial))) (q_heq [122, 123] (H := h) (by repeat (first | exact q_out_r | refine q_out_w rfl ?_)) (by repeat (first | exact q_out_r | refine q_out_w rfl ?_)) (And.intro rfl (And.intro rfl trivial)))
        refine xe_loopI (σ := (Nat → Int32)) (2 ^ nm - 1) (fun i s => q_gok (fun m => q_sum (fun k => q_cr h (72 + 8 * k + m) - q_cr h (72 + 8 * m + k)) 8) nm s (1 + i)) (fun (i_ : Nat) (s7 : (Nat → Int32)) => [(0, .ref 0), (1, .int (nI (2 ^ nm))), (2, .int (nI (1 + i_)))]) (fun (i_ : Nat) (s7 : (Nat → Int32)) => (q_wI (q_wI h 122 s1) 123 s7)) (q_I h 123) (⟨hz3, fun s h1 h2 => absurd h2 (by omega)⟩) (fun i_ hi_ s7 e7 K7 => ?_) (fun s7 e7 => ?_)
        · refine xe_iload_n dX9_payments_77 rfl ?_
          refine xe_iload_n dX9_payments_78 rfl ?_
          refine xn_icmp_ge (tgt := 114) dX9_payments_79 rfl (by omega) (by omega) (fun c8 => ?_) (fun c8 => ?_)
          · omega
          · refine xe_aload_n dX9_payments_82 rfl ?_
            refine xe_getP dX9_payments_83 flX9_86 (st0 hs) (by decide) rfl (sp0_14 hs) ?_
            refine xe_iload_n dX9_payments_86 rfl ?_
            refine xe_aload_n dX9_payments_87 rfl ?_
            refine xe_iload_n dX9_payments_88 rfl ?_
            refine xe_callVI (d' := 1) (y' := mX9_mostGroupsWithin) dX9_payments_89 mlX9_299 mvX9_mostGroupsWithin rfl (st0 hs) (by decide) rfl (by decide) (by decide) (Nat.le_of_ble_eq_true rfl) (c_X9_mostGroupsWithin l g _ (by exact hs) (by exact hp) (by omega)) rfl ?_
            refine xe_top (v' := (q_sm s7 (1 + i_) nm)) rfl ?_
            refine xe_aload_n dX9_payments_92 rfl ?_
            refine xe_getP dX9_payments_93 flX9_83 (st0 hs) (by decide) rfl (sp0_13 hs) ?_
            refine xe_iload_n dX9_payments_96 rfl ?_
            refine xn_ialdv dX9_payments_97 (st122 hs) (by omega) (by decide) (v := (q_ss (fun m => q_sum (fun k => q_cr h (72 + 8 * k + m) - q_cr h (72 + 8 * m + k)) 8) (1 + i_) nm)) (e1.2 _ (by omega)) ?_
            refine xe_if_ne (tgt := 105) dX9_payments_98 rfl (fun c_98 => ?_) (fun c_98 => ?_)
            · refine xe_iconst dX9_payments_105 kc_0 ?_
              refine xe_iadd dX9_payments_106 ?_
              refine xn_iast dX9_payments_107 (st123 hs) (by omega) (by decide) ?_
              refine xn_iinc dX9_payments_108 rfl kc_1 ?_
              refine xe_goto (tgt := 77) dX9_payments_111 rfl ?_
              exact xe_fin (K7 (upd s7 (1 + i_) ((q_sm s7 (1 + i_) nm) + (nI 0))) (q_gok_s e7 (by omega) (by omega) P3b (if_neg c_98).symm)) (And.intro rfl (And.intro rfl (And.intro rfl trivial))) (q_heq [122, 123] (H := h) (by repeat (first | exact q_out_r | refine q_out_w rfl ?_)) (by repeat (first | exact q_out_r | refine q_out_w rfl ?_)) (And.intro rfl (And.intro rfl trivial)))
            · refine xe_iconst dX9_payments_101 kc_1 ?_
              refine xe_goto (tgt := 106) dX9_payments_102 rfl ?_
              refine xe_iadd dX9_payments_106 ?_
              refine xn_iast dX9_payments_107 (st123 hs) (by omega) (by decide) ?_
              refine xn_iinc dX9_payments_108 rfl kc_1 ?_
              refine xe_goto (tgt := 77) dX9_payments_111 rfl ?_
              exact xe_fin (K7 (upd s7 (1 + i_) ((q_sm s7 (1 + i_) nm) + (nI 1))) (q_gok_s e7 (by omega) (by omega) P3b (if_pos c_98).symm)) (And.intro rfl (And.intro rfl (And.intro rfl trivial))) (q_heq [122, 123] (H := h) (by repeat (first | exact q_out_r | refine q_out_w rfl ?_)) (by repeat (first | exact q_out_r | refine q_out_w rfl ?_)) (And.intro rfl (And.intro rfl trivial)))
        · refine xe_iload_n dX9_payments_77 rfl ?_
          refine xe_iload_n dX9_payments_78 rfl ?_
          refine xn_icmp_ge (tgt := 114) dX9_payments_79 rfl (by omega) (by omega) (fun c9 => ?_) (fun c9 => ?_)
          · refine xe_aload_n dX9_payments_114 rfl ?_
            refine xe_getP dX9_payments_115 flX9_26 (st0 hs) (by decide) rfl P0 ?_
            refine xe_getIv dX9_payments_118 flX9_117 (st10 hs) (by decide) rfl (v := nI nm) (P3) ?_
            refine xe_aload_n dX9_payments_121 rfl ?_
            refine xe_getP dX9_payments_122 flX9_86 (st0 hs) (by decide) rfl (sp0_14 hs) ?_
            refine xe_iload_n dX9_payments_125 rfl ?_
            refine xe_iconst dX9_payments_126 kc_1 ?_
            refine xn_isub dX9_payments_127 (by omega) ?_
            refine xn_ialdv dX9_payments_128 (st123 hs) (by omega) (by decide) (v := (s7 ((2 ^ nm) - 1))) (rfl) ?_
            refine xe_isub dX9_payments_129 ?_
            refine xe_ireturn dX9_payments_130 rfl (by first | rfl | decide +kernel) ?_
            exact ⟨s7, by rw [show 1 + (2 ^ nm - 1) = 2 ^ nm by omega] at e7; exact e7, rfl, ⟨by repeat (first | exact q_out_r | refine q_out_w rfl ?_), rfl, rfl, e1.1.trans hz2.symm, e7.1.trans hz3.symm⟩⟩
          · omega
      · omega
  · refine q_CtV mvX9_payments (Nat.le_of_ble_eq_true rfl) ?_
    have hpw := q_pow_le P3b
    have hpw0 : 0 < 2 ^ nm := Nat.pow_pos (by decide)
    refine xe_iconst dX9_payments_0 kc_1 ?_
    refine xe_aload_n dX9_payments_1 rfl ?_
    refine xe_getP dX9_payments_2 flX9_26 (st0 hs) (by decide) rfl P0 ?_
    refine xe_getIv dX9_payments_5 flX9_117 (st22 hs) (by decide) rfl (v := nI nm) (P3) ?_
    refine xe_ishl dX9_payments_8 ?_
    refine xe_top (v' := nI (2 ^ nm)) (q_pow_nm nm P3b) ?_
    refine xe_istore_n (i := 1) dX9_payments_9 rfl (by decide) rfl ?_
    refine xe_iconst dX9_payments_10 kc_0 ?_
    refine xe_istore_n (i := 2) dX9_payments_11 rfl (by decide) rfl ?_
    refine xe_fin (L' := (fun (m_ : Nat) (s1 : (Nat → Int32)) => [(0, .ref 0), (1, .int (nI (2 ^ nm))), (2, .int (nI m_))]) 0 (q_I h 122)) (h' := (fun (m_ : Nat) (s1 : (Nat → Int32)) => (q_wI h 122 s1)) 0 (q_I h 122)) ?_ (And.intro rfl (And.intro rfl (And.intro rfl trivial))) (q_heq [122] (H := h) (by repeat (first | exact q_out_r | refine q_out_w rfl ?_)) (by repeat (first | exact q_out_r | refine q_out_w rfl ?_)) (And.intro rfl trivial))
    refine xe_loopI (σ := (Nat → Int32)) (nm) (fun m s => s 0 = nI 0 ∧ ∀ t, t < 2 ^ m → s t = q_ss (fun m => q_sum (fun k => q_cr h (72 + 8 * k + m) - q_cr h (72 + 8 * m + k)) 8) t m) (fun (m_ : Nat) (s1 : (Nat → Int32)) => [(0, .ref 0), (1, .int (nI (2 ^ nm))), (2, .int (nI m_))]) (fun (m_ : Nat) (s1 : (Nat → Int32)) => (q_wI h 122 s1)) (q_I h 122) (⟨hz2, fun t ht => by obtain rfl : t = 0 := (by have ht : t < 1 := ht; omega); exact hz2⟩) (fun m_ hm_ s1 e1 K1 => ?_) (fun s1 e1 => ?_)
    · have hp2 := q_pow_two (m := m_) (by omega)
      have hp3 : 0 < 2 ^ m_ := Nat.pow_pos (by decide)
      refine xe_iload_n dX9_payments_12 rfl ?_
      refine xe_aload_n dX9_payments_13 rfl ?_
      refine xe_getP dX9_payments_14 flX9_26 (st0 hs) (by decide) rfl P0 ?_
      refine xe_getIv dX9_payments_17 flX9_117 (st22 hs) (by decide) rfl (v := nI nm) (P3) ?_
      refine xn_icmp_ge (tgt := 75) dX9_payments_20 rfl (by omega) (by omega) (fun c2 => ?_) (fun c2 => ?_)
      · omega
      · refine xe_aload_n dX9_payments_23 rfl ?_
        refine xe_getP dX9_payments_24 flX9_36 (st0 hs) (by decide) rfl (sp0_4 hs) ?_
        refine xe_iload_n dX9_payments_27 rfl ?_
        refine xe_callVI (d' := 0) (y' := mX6_net) dX9_payments_28 mlX9_147 mvX6_net rfl (st34 hs) (by decide) rfl (by decide) (by decide) (Nat.le_of_ble_eq_true rfl) (c_X6_net l g _ (by exact hs) _ (by omega)) rfl ?_
        refine xe_top (v' := (q_sum (fun k => q_cr h (72 + 8 * k + m_) - q_cr h (72 + 8 * m_ + k)) 8)) (q_cr_net h (by omega)) ?_
        refine xe_istore_n (i := 3) dX9_payments_31 rfl (by decide) rfl ?_
        refine xe_iconst dX9_payments_32 kc_0 ?_
        refine xe_istore dX9_payments_33 (by decide) rfl ?_
        refine xe_fin (L' := (fun (j_ : Nat) (s3 : (Nat → Int32)) => [(0, .ref 0), (1, .int (nI (2 ^ nm))), (2, .int (nI m_)), (3, .int (q_sum (fun k => q_cr h (72 + 8 * k + m_) - q_cr h (72 + 8 * m_ + k)) 8)), (4, .int (nI j_))]) 0 s1) (h' := (fun (j_ : Nat) (s3 : (Nat → Int32)) => (q_wI h 122 s3)) 0 s1) ?_ (And.intro rfl (And.intro rfl (And.intro rfl (And.intro rfl (And.intro rfl trivial))))) (q_heq [122] (H := h) (by repeat (first | exact q_out_r | refine q_out_w rfl ?_)) (by repeat (first | exact q_out_r | refine q_out_w rfl ?_)) (And.intro rfl trivial))
        refine xe_loopI (σ := (Nat → Int32)) (2 ^ m_) (fun j s => s 0 = nI 0 ∧ (∀ t, t < 2 ^ m_ → s t = q_ss (fun m => q_sum (fun k => q_cr h (72 + 8 * k + m) - q_cr h (72 + 8 * m + k)) 8) t m_) ∧ ∀ t, t < j → s (t + 2 ^ m_) = q_ss (fun m => q_sum (fun k => q_cr h (72 + 8 * k + m) - q_cr h (72 + 8 * m + k)) 8) (t + 2 ^ m_) (m_ + 1)) (fun (j_ : Nat) (s3 : (Nat → Int32)) => [(0, .ref 0), (1, .int (nI (2 ^ nm))), (2, .int (nI m_)), (3, .int (q_sum (fun k => q_cr h (72 + 8 * k + m_) - q_cr h (72 + 8 * m_ + k)) 8)), (4, .int (nI j_))]) (fun (j_ : Nat) (s3 : (Nat → Int32)) => (q_wI h 122 s3)) s1 (⟨e1.1, e1.2, fun _ q => absurd q (Nat.not_lt_zero _)⟩) (fun j_ hj_ s3 e3 K3 => ?_) (fun s3 e3 => ?_)
        · refine xe_iload dX9_payments_35 rfl ?_
          refine xe_iconst dX9_payments_37 kc_1 ?_
          refine xe_iload_n dX9_payments_38 rfl ?_
          refine xe_ishl dX9_payments_39 ?_
          refine xe_top (v' := nI (2 ^ m_)) (q_pow_nm m_ (by omega)) ?_
          refine xn_icmp_ge (tgt := 69) dX9_payments_40 rfl (by omega) (by omega) (fun c4 => ?_) (fun c4 => ?_)
          · omega
          · refine xe_aload_n dX9_payments_43 rfl ?_
            refine xe_getP dX9_payments_44 flX9_83 (st0 hs) (by decide) rfl (sp0_13 hs) ?_
            refine xe_iload dX9_payments_47 rfl ?_
            refine xe_iconst dX9_payments_49 kc_1 ?_
            refine xe_iload_n dX9_payments_50 rfl ?_
            refine xe_ishl dX9_payments_51 ?_
            refine xe_ior dX9_payments_52 ?_
            refine xe_top (v' := nI (j_ + 2 ^ m_)) (q_or (by omega) (by omega)) ?_
            refine xe_aload_n dX9_payments_53 rfl ?_
            refine xe_getP dX9_payments_54 flX9_83 (st0 hs) (by decide) rfl (sp0_13 hs) ?_
            refine xe_iload dX9_payments_57 rfl ?_
            refine xn_ialdv dX9_payments_59 (st122 hs) (by omega) (by decide) (v := (q_ss (fun m => q_sum (fun k => q_cr h (72 + 8 * k + m) - q_cr h (72 + 8 * m + k)) 8) j_ m_)) (e3.2.1 j_ hj_) ?_
            refine xe_iload_n dX9_payments_60 rfl ?_
            refine xe_iadd dX9_payments_61 ?_
            refine xn_iast dX9_payments_62 (st122 hs) (by omega) (by decide) ?_
            refine xn_iinc dX9_payments_63 rfl kc_1 ?_
            refine xe_goto (tgt := 35) dX9_payments_66 rfl ?_
            exact xe_fin (K3 (upd s3 (j_ + 2 ^ m_) ((q_ss (fun m => q_sum (fun k => q_cr h (72 + 8 * k + m) - q_cr h (72 + 8 * m + k)) 8) j_ m_) + (q_sum (fun k => q_cr h (72 + 8 * k + m_) - q_cr h (72 + 8 * m_ + k)) 8))) (⟨(pk_un (by omega)).trans e3.1, fun t q => (pk_un (by omega)).trans (e3.2.1 t q), fun t q => q_updw (fun e => by obtain rfl : t = j_ := (by omega); rw [q_ss_hi (by omega) (by omega)]) (fun e => e3.2.2 t (by omega))⟩)) (And.intro rfl (And.intro rfl (And.intro rfl (And.intro rfl (And.intro rfl trivial))))) (q_heq [122] (H := h) (by repeat (first | exact q_out_r | refine q_out_w rfl ?_)) (by repeat (first | exact q_out_r | refine q_out_w rfl ?_)) (And.intro rfl trivial))
        · refine xe_iload dX9_payments_35 rfl ?_
          refine xe_iconst dX9_payments_37 kc_1 ?_
          refine xe_iload_n dX9_payments_38 rfl ?_
          refine xe_ishl dX9_payments_39 ?_
          refine xe_top (v' := nI (2 ^ m_)) (q_pow_nm m_ (by omega)) ?_
          refine xn_icmp_ge (tgt := 69) dX9_payments_40 rfl (by omega) (by omega) (fun c5 => ?_) (fun c5 => ?_)
          · refine xn_iinc dX9_payments_69 rfl kc_1 ?_
            refine xe_goto (tgt := 12) dX9_payments_72 rfl ?_
            exact xe_fin (K1 s3 (⟨e3.1, fun t ht => by rw [Nat.pow_succ] at ht; exact if q : t < 2 ^ m_ then (e3.2.1 t q).trans (q_ss_lo q (by omega)).symm else by have q2 := e3.2.2 (t - 2 ^ m_) (by omega); rwa [Nat.sub_add_cancel (by omega)] at q2⟩)) (And.intro rfl (And.intro rfl (And.intro rfl trivial))) (q_heq [122] (H := h) (by repeat (first | exact q_out_r | refine q_out_w rfl ?_)) (by repeat (first | exact q_out_r | refine q_out_w rfl ?_)) (And.intro rfl trivial))
          · omega
    · refine xe_iload_n dX9_payments_12 rfl ?_
      refine xe_aload_n dX9_payments_13 rfl ?_
      refine xe_getP dX9_payments_14 flX9_26 (st0 hs) (by decide) rfl P0 ?_
      refine xe_getIv dX9_payments_17 flX9_117 (st22 hs) (by decide) rfl (v := nI nm) (P3) ?_
      refine xn_icmp_ge (tgt := 75) dX9_payments_20 rfl (by omega) (by omega) (fun c6 => ?_) (fun c6 => ?_)
      · refine xe_iconst dX9_payments_75 kc_1 ?_
        refine xe_istore_n (i := 2) dX9_payments_76 rfl (by decide) rfl ?_
        refine xe_fin (L' := (fun (i_ : Nat) (s7 : (Nat → Int32)) => [(0, .ref 0), (1, .int (nI (2 ^ nm))), (2, .int (nI (1 + i_)))]) 0 (q_I h 123)) (h' := (fun (i_ : Nat) (s7 : (Nat → Int32)) => (q_wI (q_wI h 122 s1) 123 s7)) 0 (q_I h 123)) ?_ (And.intro rfl (And.intro rfl (And.intro rfl trivial))) (q_heq [122, 123] (H := h) (by repeat (first | exact q_out_r | refine q_out_w rfl ?_)) (by repeat (first | exact q_out_r | refine q_out_w rfl ?_)) (And.intro rfl (And.intro rfl trivial)))
        refine xe_loopI (σ := (Nat → Int32)) (2 ^ nm - 1) (fun i s => q_gok (fun m => q_sum (fun k => q_cr h (72 + 8 * k + m) - q_cr h (72 + 8 * m + k)) 8) nm s (1 + i)) (fun (i_ : Nat) (s7 : (Nat → Int32)) => [(0, .ref 0), (1, .int (nI (2 ^ nm))), (2, .int (nI (1 + i_)))]) (fun (i_ : Nat) (s7 : (Nat → Int32)) => (q_wI (q_wI h 122 s1) 123 s7)) (q_I h 123) (⟨hz3, fun s h1 h2 => absurd h2 (by omega)⟩) (fun i_ hi_ s7 e7 K7 => ?_) (fun s7 e7 => ?_)
        · refine xe_iload_n dX9_payments_77 rfl ?_
          refine xe_iload_n dX9_payments_78 rfl ?_
          refine xn_icmp_ge (tgt := 114) dX9_payments_79 rfl (by omega) (by omega) (fun c8 => ?_) (fun c8 => ?_)
          · omega
          · refine xe_aload_n dX9_payments_82 rfl ?_
            refine xe_getP dX9_payments_83 flX9_86 (st0 hs) (by decide) rfl (sp0_14 hs) ?_
            refine xe_iload_n dX9_payments_86 rfl ?_
            refine xe_aload_n dX9_payments_87 rfl ?_
            refine xe_iload_n dX9_payments_88 rfl ?_
            refine xe_callVI (d' := 1) (y' := mX9_mostGroupsWithin) dX9_payments_89 mlX9_299 mvX9_mostGroupsWithin rfl (st0 hs) (by decide) rfl (by decide) (by decide) (Nat.le_of_ble_eq_true rfl) (c_X9_mostGroupsWithin l g _ (by exact hs) (by exact hp) (by omega)) rfl ?_
            refine xe_top (v' := (q_sm s7 (1 + i_) nm)) rfl ?_
            refine xe_aload_n dX9_payments_92 rfl ?_
            refine xe_getP dX9_payments_93 flX9_83 (st0 hs) (by decide) rfl (sp0_13 hs) ?_
            refine xe_iload_n dX9_payments_96 rfl ?_
            refine xn_ialdv dX9_payments_97 (st122 hs) (by omega) (by decide) (v := (q_ss (fun m => q_sum (fun k => q_cr h (72 + 8 * k + m) - q_cr h (72 + 8 * m + k)) 8) (1 + i_) nm)) (e1.2 _ (by omega)) ?_
            refine xe_if_ne (tgt := 105) dX9_payments_98 rfl (fun c_98 => ?_) (fun c_98 => ?_)
            · refine xe_iconst dX9_payments_105 kc_0 ?_
              refine xe_iadd dX9_payments_106 ?_
              refine xn_iast dX9_payments_107 (st123 hs) (by omega) (by decide) ?_
              refine xn_iinc dX9_payments_108 rfl kc_1 ?_
              refine xe_goto (tgt := 77) dX9_payments_111 rfl ?_
              exact xe_fin (K7 (upd s7 (1 + i_) ((q_sm s7 (1 + i_) nm) + (nI 0))) (q_gok_s e7 (by omega) (by omega) P3b (if_neg c_98).symm)) (And.intro rfl (And.intro rfl (And.intro rfl trivial))) (q_heq [122, 123] (H := h) (by repeat (first | exact q_out_r | refine q_out_w rfl ?_)) (by repeat (first | exact q_out_r | refine q_out_w rfl ?_)) (And.intro rfl (And.intro rfl trivial)))
            · refine xe_iconst dX9_payments_101 kc_1 ?_
              refine xe_goto (tgt := 106) dX9_payments_102 rfl ?_
              refine xe_iadd dX9_payments_106 ?_
              refine xn_iast dX9_payments_107 (st123 hs) (by omega) (by decide) ?_
              refine xn_iinc dX9_payments_108 rfl kc_1 ?_
              refine xe_goto (tgt := 77) dX9_payments_111 rfl ?_
              exact xe_fin (K7 (upd s7 (1 + i_) ((q_sm s7 (1 + i_) nm) + (nI 1))) (q_gok_s e7 (by omega) (by omega) P3b (if_pos c_98).symm)) (And.intro rfl (And.intro rfl (And.intro rfl trivial))) (q_heq [122, 123] (H := h) (by repeat (first | exact q_out_r | refine q_out_w rfl ?_)) (by repeat (first | exact q_out_r | refine q_out_w rfl ?_)) (And.intro rfl (And.intro rfl trivial)))
        · refine xe_iload_n dX9_payments_77 rfl ?_
          refine xe_iload_n dX9_payments_78 rfl ?_
          refine xn_icmp_ge (tgt := 114) dX9_payments_79 rfl (by omega) (by omega) (fun c9 => ?_) (fun c9 => ?_)
          · refine xe_aload_n dX9_payments_114 rfl ?_
            refine xe_getP dX9_payments_115 flX9_26 (st0 hs) (by decide) rfl P0 ?_
            refine xe_getIv dX9_payments_118 flX9_117 (st22 hs) (by decide) rfl (v := nI nm) (P3) ?_
            refine xe_aload_n dX9_payments_121 rfl ?_
            refine xe_getP dX9_payments_122 flX9_86 (st0 hs) (by decide) rfl (sp0_14 hs) ?_
            refine xe_iload_n dX9_payments_125 rfl ?_
            refine xe_iconst dX9_payments_126 kc_1 ?_
            refine xn_isub dX9_payments_127 (by omega) ?_
            refine xn_ialdv dX9_payments_128 (st123 hs) (by omega) (by decide) (v := (s7 ((2 ^ nm) - 1))) (rfl) ?_
            refine xe_isub dX9_payments_129 ?_
            refine xe_ireturn dX9_payments_130 rfl (by first | rfl | decide +kernel) ?_
            exact ⟨s7, by rw [show 1 + (2 ^ nm - 1) = 2 ^ nm by omega] at e7; exact e7, rfl, ⟨by repeat (first | exact q_out_r | refine q_out_w rfl ?_), rfl, rfl, e1.1.trans hz2.symm, e7.1.trans hz3.symm⟩⟩
          · omega
      · omega
def q_dgo (n : Nat) (f : Nat → Nat) (left : Nat) (r : Nat → Int32 → Nat × Int32) : Nat → Nat × Int32 → Nat × Int32 := match n with
  | 0 => fun _ s => s
  | n + 1 => fun t s => if f t ≤ left then q_dgo n f left r (t + 1) (s.1 + (r t s.2).1, (r t s.2).2) else s
/-- rows of the last j deeds that make up what is left, and what all of them did -/
def q_dr (F : Nat → Nat) (nd : Nat) : Nat → Nat → Int32 → Int32 → Nat × Int32
  | 0, left, done_, acc => if left = 0 then (1, acc &&& done_) else (0, acc)
  | j + 1, left, done_, acc => q_dgo 3 (fun t => t * F (nd - (j + 1))) left (fun t a => q_dr F nd j (left - t * F (nd - (j + 1))) (done_ ||| nI 1 <<< (nI (nd - (j + 1)) &&& 31)) a) 1 (q_dr F nd j left done_ acc)
theorem q_dgo_y {n left t : Nat} {f : Nat → Nat} {r : Nat → Int32 → Nat × Int32} {s : Nat × Int32} (h : f t ≤ left) : q_dgo (n + 1) f left r t s = q_dgo n f left r (t + 1) (s.1 + (r t s.2).1, (r t s.2).2) := if_pos h
theorem q_dgo_n {n left t : Nat} {f : Nat → Nat} {r : Nat → Int32 → Nat × Int32} {s : Nat × Int32} (h : ¬ f t ≤ left) : q_dgo n f left r t s = s := by
  cases n with
  | zero => rfl
  | succ n => exact if_neg h
theorem c_X9_countRows (l : Launch) (g : q_GP) {F : Nat → Nat} {nd : Nat} (hnd : nd ≤ 8) (hFb : ∀ d, F d ≤ 999) : ∀ (j : Nat) (h : q_H) (hs : q_Stat h) (hF : ∀ d, d < nd → q_I h 120 d = nI (F d)) (hj : j ≤ nd) (left : Nat) (done_ : Int32) (hl : left ≤ 9999), q_Cd l g (j + 1) mX9_countRows [.ref 120, .int (nI nd), .int (nI (nd - j)), .int (nI left), .int done_, .ref 121] h (some (.int (nI (q_dr F nd j left done_ (q_I h 121 0)).1))) (q_wI h 121 (upd (q_I h 121) 0 (q_dr F nd j left done_ (q_I h 121 0)).2)) := by
  intro j
  induction j with
  | zero =>
    intro h hs hF hj left done_ hl
    refine q_CdS msX9_countRows (Nat.le_of_ble_eq_true rfl) ?_
    refine xe_iload_n dX9_countRows_0 rfl ?_
    refine xe_iload_n dX9_countRows_1 rfl ?_
    refine xn_icmp_ge (tgt := 11) dX9_countRows_2 rfl (by omega) (by omega) (fun c1 => ?_) (fun c1 => ?_)
    · refine xe_iload_n dX9_countRows_11 rfl ?_
      refine xn_if_eq (tgt := 17) dX9_countRows_12 rfl (by omega) (fun c2 => ?_) (fun c2 => ?_)
      · refine xe_aload dX9_countRows_17 rfl ?_
        refine xe_iconst dX9_countRows_19 kc_0 ?_
        refine xe_dup2 dX9_countRows_20 rfl rfl ?_
        refine xn_ialdv dX9_countRows_21 (st121 hs) (by omega) (by decide) (v := ((q_I h 121) 0)) (rfl) ?_
        refine xe_iload dX9_countRows_22 rfl ?_
        refine xe_iand dX9_countRows_24 ?_
        refine xn_iast dX9_countRows_25 (st121 hs) (by omega) (by decide) ?_
        refine xe_iconst dX9_countRows_26 kc_1 ?_
        refine xe_ireturn dX9_countRows_27 rfl (by first | rfl | decide +kernel) ?_
        have e : q_dr F nd 0 left done_ (q_I h 121 0) = (1, (q_I h 121 0) &&& done_) := if_pos c2
        rw [e]
        exact ⟨rfl, rfl⟩
      · refine xe_iconst dX9_countRows_15 kc_0 ?_
        refine xe_ireturn dX9_countRows_16 rfl (by first | rfl | decide +kernel) ?_
        have e : q_dr F nd 0 left done_ (q_I h 121 0) = (0, (q_I h 121 0)) := if_neg c2
        rw [e]
        exact ⟨rfl, (q_heq [121] (H := h) (by repeat (first | exact q_out_r | refine q_out_w rfl ?_)) (by repeat (first | exact q_out_r | refine q_out_w rfl ?_)) (And.intro (q_upd_same rfl).symm trivial))⟩
    · omega
  | succ j ih =>
    intro h hs hF hj left done_ hl
    have hfd := hFb (nd - (j + 1))
    refine q_CdS msX9_countRows (Nat.le_of_ble_eq_true rfl) ?_
    refine xe_iload_n dX9_countRows_0 rfl ?_
    refine xe_iload_n dX9_countRows_1 rfl ?_
    refine xn_icmp_ge (tgt := 11) dX9_countRows_2 rfl (by omega) (by omega) (fun c1 => ?_) (fun c1 => ?_)
    · omega
    · refine xe_iload_n dX9_countRows_5 rfl ?_
      refine xe_aload_n dX9_countRows_6 rfl ?_
      refine xe_alen dX9_countRows_7 (st120 hs) (by decide) ⟨0, _, rfl⟩ (v := nI 8) rfl ?_
      refine xn_icmp_lt (tgt := 28) dX9_countRows_8 rfl (by omega) (by omega) (fun c2 => ?_) (fun c2 => ?_)
      · refine xe_aload_n dX9_countRows_28 rfl ?_
        refine xe_iload_n dX9_countRows_29 rfl ?_
        refine xe_iload_n dX9_countRows_30 rfl ?_
        refine xe_iconst dX9_countRows_31 kc_1 ?_
        refine xn_iadd dX9_countRows_32 ?_
        refine xe_top (v' := nI (nd - j)) (congrArg nI (by omega)) ?_
        refine xe_iload_n dX9_countRows_33 rfl ?_
        refine xe_iload dX9_countRows_34 rfl ?_
        refine xe_aload dX9_countRows_36 rfl ?_
        skip
        refine xe_callSI (d' := j + 1) (y' := mX9_countRows) dX9_countRows_38 mlX9_347 msX9_countRows rfl (Nat.le_refl _) (by decide) (Nat.le_of_ble_eq_true rfl) (ih _ (by exact hs) (by exact hF) (by omega) left done_ (by omega)) rfl ?_
        refine xe_istore dX9_countRows_41 (by decide) rfl ?_
        refine xe_iconst dX9_countRows_43 kc_1 ?_
        refine xe_istore dX9_countRows_44 (by decide) rfl ?_
        refine xe_fin (L' := (fun (t_ : Nat) (s3 : Nat × (Nat → Int32)) => [(0, .ref 120), (1, .int (nI nd)), (2, .int (nI (nd - (j + 1)))), (3, .int (nI left)), (4, .int done_), (5, .ref 121), (6, .int (nI s3.1)), (7, .int (nI (1 + t_)))]) 0 ((q_dr F nd j left done_ ((q_I h 121) 0)).1, upd (q_I h 121) 0 (q_dr F nd j left done_ ((q_I h 121) 0)).2)) (h' := (fun (t_ : Nat) (s3 : Nat × (Nat → Int32)) => (q_wI h 121 s3.2)) 0 ((q_dr F nd j left done_ ((q_I h 121) 0)).1, upd (q_I h 121) 0 (q_dr F nd j left done_ ((q_I h 121) 0)).2)) ?_ (And.intro rfl (And.intro rfl (And.intro rfl (And.intro rfl (And.intro rfl (And.intro rfl (And.intro rfl (And.intro rfl trivial)))))))) (q_heq [121] (H := h) (by repeat (first | exact q_out_r | refine q_out_w rfl ?_)) (by repeat (first | exact q_out_r | refine q_out_w rfl ?_)) (And.intro rfl trivial))
        refine xe_loopW (σ := Nat × (Nat → Int32)) (3) (fun i s => q_dr F nd (j + 1) left done_ (q_I h 121 0) = q_dgo (3 - i) (fun t => t * F (nd - (j + 1))) left (fun t a => q_dr F nd j (left - t * F (nd - (j + 1))) (done_ ||| nI 1 <<< (nI (nd - (j + 1)) &&& 31)) a) (1 + i) (s.1, s.2 0) ∧ s.2 = upd (q_I h 121) 0 (s.2 0)) (fun (t_ : Nat) (s3 : Nat × (Nat → Int32)) => [(0, .ref 120), (1, .int (nI nd)), (2, .int (nI (nd - (j + 1)))), (3, .int (nI left)), (4, .int done_), (5, .ref 121), (6, .int (nI s3.1)), (7, .int (nI (1 + t_)))]) (fun (t_ : Nat) (s3 : Nat × (Nat → Int32)) => (q_wI h 121 s3.2)) ((q_dr F nd j left done_ ((q_I h 121) 0)).1, upd (q_I h 121) 0 (q_dr F nd j left done_ ((q_I h 121) 0)).2) (⟨rfl, (congrArg (upd (q_I h 121) 0) (pk_us (f := q_I h 121) (k := 0))).symm⟩) (fun t_ ht_ s3 e3 K3 => ?_)
        · refine xe_iload dX9_countRows_46 rfl ?_
          refine xe_iconst dX9_countRows_48 kc_3 ?_
          refine xn_icmp_gt (tgt := 97) dX9_countRows_49 rfl (by omega) (by omega) (fun c4 => ?_) (fun c4 => ?_)
          · have hfin : q_dr F nd (j + 1) left done_ (q_I h 121 0) = (s3.1, s3.2 0) := e3.1.trans (by rw [show 3 - t_ = 0 by omega]; rfl)
            refine xe_iload dX9_countRows_97 rfl ?_
            refine xe_ireturn dX9_countRows_99 rfl (by first | rfl | decide +kernel) ?_
            exact ⟨congrArg (fun v => some (Value.int (nI v.1))) hfin.symm, (q_heq [121] (H := h) (by repeat (first | exact q_out_r | refine q_out_w rfl ?_)) (by repeat (first | exact q_out_r | refine q_out_w rfl ?_)) (And.intro (e3.2.trans (by rw [hfin] <;> rfl)) trivial))⟩
          · refine xe_iload dX9_countRows_52 rfl ?_
            refine xe_aload_n dX9_countRows_54 rfl ?_
            refine xe_iload_n dX9_countRows_55 rfl ?_
            refine xn_ialdv dX9_countRows_56 (st120 hs) (by omega) (by decide) (v := nI (F (nd - (j + 1)))) (hF _ (by omega)) ?_
            refine xn_imul dX9_countRows_57 ?_
            refine xe_iload_n dX9_countRows_58 rfl ?_
            have hmul : (1 + t_) * F (nd - (j + 1)) ≤ 4 * 999 := Nat.mul_le_mul (by omega) hfd
            refine xn_icmp_gt (tgt := 97) dX9_countRows_59 rfl (by omega) (by omega) (fun c5 => ?_) (fun c5 => ?_)
            · have hfin : q_dr F nd (j + 1) left done_ (q_I h 121 0) = (s3.1, s3.2 0) := e3.1.trans (q_dgo_n (f := fun t => t * F (nd - (j + 1))) (by omega))
              refine xe_iload dX9_countRows_97 rfl ?_
              refine xe_ireturn dX9_countRows_99 rfl (by first | rfl | decide +kernel) ?_
              exact ⟨congrArg (fun v => some (Value.int (nI v.1))) hfin.symm, (q_heq [121] (H := h) (by repeat (first | exact q_out_r | refine q_out_w rfl ?_)) (by repeat (first | exact q_out_r | refine q_out_w rfl ?_)) (And.intro (e3.2.trans (by rw [hfin] <;> rfl)) trivial))⟩
            · have hle : (1 + t_) * F (nd - (j + 1)) ≤ left := by omega
              refine xe_iload dX9_countRows_62 rfl ?_
              refine xe_aload_n dX9_countRows_64 rfl ?_
              refine xe_iload_n dX9_countRows_65 rfl ?_
              refine xe_iload_n dX9_countRows_66 rfl ?_
              refine xe_iconst dX9_countRows_67 kc_1 ?_
              refine xn_iadd dX9_countRows_68 ?_
              refine xe_top (v' := nI (nd - j)) (congrArg nI (by omega)) ?_
              refine xe_iload_n dX9_countRows_69 rfl ?_
              refine xe_iload dX9_countRows_70 rfl ?_
              refine xe_aload_n dX9_countRows_72 rfl ?_
              refine xe_iload_n dX9_countRows_73 rfl ?_
              refine xn_ialdv dX9_countRows_74 (st120 hs) (by omega) (by decide) (v := nI (F (nd - (j + 1)))) (hF _ (by omega)) ?_
              refine xn_imul dX9_countRows_75 ?_
              refine xn_isub dX9_countRows_76 (by omega) ?_
              refine xe_iload dX9_countRows_77 rfl ?_
              refine xe_iconst dX9_countRows_79 kc_1 ?_
              refine xe_iload_n dX9_countRows_80 rfl ?_
              refine xe_ishl dX9_countRows_81 ?_
              refine xe_ior dX9_countRows_82 ?_
              refine xe_aload dX9_countRows_83 rfl ?_
              refine xe_callSI (d' := j + 1) (y' := mX9_countRows) dX9_countRows_85 mlX9_347 msX9_countRows rfl (Nat.le_refl _) (by decide) (Nat.le_of_ble_eq_true rfl) (ih _ (by exact hs) (by exact hF) (by omega) (left - ((1 + t_) * (F (nd - (j + 1))))) (done_ ||| ((nI 1) <<< (nI (nd - (j + 1)) &&& 31))) (by omega)) rfl ?_
              refine xn_iadd dX9_countRows_88 ?_
              refine xe_istore dX9_countRows_89 (by decide) rfl ?_
              refine xn_iinc dX9_countRows_91 rfl kc_1 ?_
              refine xe_goto (tgt := 46) dX9_countRows_94 rfl ?_
              exact xe_fin (K3 (by omega) (s3.1 + ((q_dr F nd j (left - ((1 + t_) * (F (nd - (j + 1))))) (done_ ||| ((nI 1) <<< (nI (nd - (j + 1)) &&& 31))) (s3.2 0)).1), upd s3.2 0 (q_dr F nd j (left - ((1 + t_) * (F (nd - (j + 1))))) (done_ ||| ((nI 1) <<< (nI (nd - (j + 1)) &&& 31))) (s3.2 0)).2) (⟨e3.1.trans (by rw [show 3 - t_ = 3 - (t_ + 1) + 1 by omega, q_dgo_y (f := fun t => t * F (nd - (j + 1))) hle]; rfl), ((congrArg (fun z => upd z 0 _) e3.2).trans (q_upd_upd _ _ _ _)).trans (congrArg (upd (q_I h 121) 0) (pk_us (f := s3.2) (k := 0))).symm⟩)) (And.intro rfl (And.intro rfl (And.intro rfl (And.intro rfl (And.intro rfl (And.intro rfl (And.intro rfl (And.intro rfl trivial)))))))) (q_heq [121] (H := h) (by repeat (first | exact q_out_r | refine q_out_w rfl ?_)) (by repeat (first | exact q_out_r | refine q_out_w rfl ?_)) (And.intro rfl trivial))
      · omega
theorem q_dgo_le {left c : Nat} {f : Nat → Nat} {r : Nat → Int32 → Nat × Int32} (hr : ∀ t a, (r t a).1 ≤ c) : ∀ n t s, (q_dgo n f left r t s).1 ≤ s.1 + n * c
  | 0, _, s => Nat.le_add_right _ _
  | n + 1, t, s => by
    by_cases h : f t ≤ left
    · rw [q_dgo_y h]
      have h1 := q_dgo_le (left := left) (f := f) hr n (t + 1) (s.1 + (r t s.2).1, (r t s.2).2)
      have h2 := hr t s.2
      rw [Nat.succ_mul]
      simp only at h1
      omega
    · rw [q_dgo_n h]
      exact Nat.le_add_right _ _
theorem q_dr_le (F : Nat → Nat) (nd : Nat) : ∀ (j left : Nat) (d a : Int32), (q_dr F nd j left d a).1 ≤ 4 ^ j
  | 0, left, d, a => by
    unfold q_dr
    split
    · exact Nat.le_refl _
    · exact Nat.zero_le _
  | j + 1, left, d, a => by
    have h1 := q_dr_le F nd j left d a
    have h2 := q_dgo_le (left := left) (f := fun t => t * F (nd - (j + 1))) (r := fun t a => q_dr F nd j (left - t * F (nd - (j + 1))) (d ||| nI 1 <<< (nI (nd - (j + 1)) &&& 31)) a) (c := 4 ^ j) (fun t a => q_dr_le F nd j _ _ a) 3 1 (q_dr F nd j left d a)
    have e : q_dr F nd (j + 1) left d a = q_dgo 3 (fun t => t * F (nd - (j + 1))) left (fun t a => q_dr F nd j (left - t * F (nd - (j + 1))) (d ||| nI 1 <<< (nI (nd - (j + 1)) &&& 31)) a) 1 (q_dr F nd j left d a) := rfl
    rw [e, Nat.pow_succ]
    omega
theorem c_X9_countRowsOf (l : Launch) (g : q_GP) (h : q_H) (hs : q_Stat h) {p nm nd nc mo n : Nat} (hp : rk_P h p nm nd nc mo n) {LW : q_LW} (hL : rk_L h p n LW) {w : Nat} (hw : q_I h 34 6 = nI w) (hw2 : w < 2 ^ 20) {m k : Nat} (hm : m < nm) (hk : k ≤ 9999) : q_Ct l g 10 mX9_countRowsOf [.ref 0, .int (nI m), .int (nI k)] h (fun r h1 => r = some (.int (nI (q_dr (q_fi (q_cr h) (q_I h (p + 5)) LW 0 nc w m) nd nd k (nI 0) (nI (2 ^ nd - 1))).1)) ∧ q_kag h h1 ∧ q_I h1 121 0 = (q_dr (q_fi (q_cr h) (q_I h (p + 5)) LW 0 nc w m) nd nd k (nI 0) (nI (2 ^ nd - 1))).2) := by
  obtain ⟨P0, P1, P2, P2b, P3, P3b, P4, P4b, P5, P5b, P6, P6b⟩ := id hp
  rcases P1 with rfl | rfl
  · refine q_CtV mvX9_countRowsOf (Nat.le_of_ble_eq_true rfl) ?_
    refine xe_iconst dX9_countRowsOf_0 kc_0 ?_
    refine xe_istore_n (i := 3) dX9_countRowsOf_1 rfl (by decide) rfl ?_
    refine xe_fin (L' := (fun (d_ : Nat) (s1 : (Nat → Int32) × (Nat → Int32) × (Nat → Int32)) => [(0, .ref 0), (1, .int (nI m)), (2, .int (nI k)), (3, .int (nI d_))]) 0 (q_I h 120, q_I h 20, q_I h 21)) (h' := (fun (d_ : Nat) (s1 : (Nat → Int32) × (Nat → Int32) × (Nat → Int32)) => (q_wI (q_wI (q_wI h 20 s1.2.1) 21 s1.2.2) 120 s1.1)) 0 (q_I h 120, q_I h 20, q_I h 21)) ?_ (And.intro rfl (And.intro rfl (And.intro rfl (And.intro rfl trivial)))) (q_heq [20, 21, 120] (H := h) (by repeat (first | exact q_out_r | refine q_out_w rfl ?_)) (by repeat (first | exact q_out_r | refine q_out_w rfl ?_)) (And.intro rfl (And.intro rfl (And.intro rfl trivial))))
    refine xe_loopI (σ := (Nat → Int32) × (Nat → Int32) × (Nat → Int32)) (nd) (fun i s => ∀ d, d < i → s.1 d = nI ((q_fi (q_cr h) (q_I h (10 + 5)) LW 0 nc w m) d)) (fun (d_ : Nat) (s1 : (Nat → Int32) × (Nat → Int32) × (Nat → Int32)) => [(0, .ref 0), (1, .int (nI m)), (2, .int (nI k)), (3, .int (nI d_))]) (fun (d_ : Nat) (s1 : (Nat → Int32) × (Nat → Int32) × (Nat → Int32)) => (q_wI (q_wI (q_wI h 20 s1.2.1) 21 s1.2.2) 120 s1.1)) (q_I h 120, q_I h 20, q_I h 21) (fun _ q => absurd q (Nat.not_lt_zero _)) (fun d_ hd_ s1 e1 K1 => ?_) (fun s1 e1 => ?_)
    · refine xe_iload_n dX9_countRowsOf_2 rfl ?_
      refine xe_aload_n dX9_countRowsOf_3 rfl ?_
      refine xe_getP dX9_countRowsOf_4 flX9_26 (st0 hs) (by decide) rfl P0 ?_
      refine xe_getIv dX9_countRowsOf_7 flX9_131 (st10 hs) (by decide) rfl (v := nI nd) (P4) ?_
      refine xn_icmp_ge (tgt := 31) dX9_countRowsOf_10 rfl (by omega) (by omega) (fun c2 => ?_) (fun c2 => ?_)
      · omega
      · refine xe_aload_n dX9_countRowsOf_13 rfl ?_
        refine xe_getP dX9_countRowsOf_14 flX9_76 (st0 hs) (by decide) rfl (sp0_11 hs) ?_
        refine xe_iload_n dX9_countRowsOf_17 rfl ?_
        refine xe_aload_n dX9_countRowsOf_18 rfl ?_
        refine xe_iload_n dX9_countRowsOf_19 rfl ?_
        refine xe_iload_n dX9_countRowsOf_20 rfl ?_
        refine xe_callVIq (d' := 2) (y' := mX9_fineNow) dX9_countRowsOf_21 mlX9_177 mvX9_fineNow rfl (st0 hs) (by decide) rfl (by decide) (by decide) (Nat.le_of_ble_eq_true rfl) (c_X9_fineNow l g _ (by exact hs) (by exact hp) (by exact hL) (by exact hw) hw2 (by omega) (by omega)) rfl (fun h3 hq3 => ?_)
        obtain ⟨V3, S3, rfl⟩ := hq3
        refine xn_iast dX9_countRowsOf_24 (st120 hs) (by omega) (by decide) ?_
        refine xn_iinc dX9_countRowsOf_25 rfl kc_1 ?_
        refine xe_goto (tgt := 2) dX9_countRowsOf_28 rfl ?_
        exact xe_fin (K1 (upd s1.1 d_ (q_fin (q_cr h) (q_I h (10 + 5)) LW 0 nc w m d_), V3, S3) (fun d q => q_updw (fun e => by subst e; exact (q_fi_eq _ _ _ _ _ _ _ _).1) (fun e => e1 d (by omega)))) (And.intro rfl (And.intro rfl (And.intro rfl (And.intro rfl trivial)))) (q_heq [20, 21, 120] (H := h) (by repeat (first | exact q_out_r | refine q_out_w rfl ?_)) (by repeat (first | exact q_out_r | refine q_out_w rfl ?_)) (And.intro rfl (And.intro rfl (And.intro rfl trivial))))
    · refine xe_iload_n dX9_countRowsOf_2 rfl ?_
      refine xe_aload_n dX9_countRowsOf_3 rfl ?_
      refine xe_getP dX9_countRowsOf_4 flX9_26 (st0 hs) (by decide) rfl P0 ?_
      refine xe_getIv dX9_countRowsOf_7 flX9_131 (st10 hs) (by decide) rfl (v := nI nd) (P4) ?_
      refine xn_icmp_ge (tgt := 31) dX9_countRowsOf_10 rfl (by omega) (by omega) (fun c4 => ?_) (fun c4 => ?_)
      · refine xe_aload_n dX9_countRowsOf_31 rfl ?_
        refine xe_getP dX9_countRowsOf_32 flX9_80 (st0 hs) (by decide) rfl (sp0_12 hs) ?_
        refine xe_iconst dX9_countRowsOf_35 kc_0 ?_
        refine xe_iconst dX9_countRowsOf_36 kc_1 ?_
        refine xe_aload_n dX9_countRowsOf_37 rfl ?_
        refine xe_getP dX9_countRowsOf_38 flX9_26 (st0 hs) (by decide) rfl P0 ?_
        refine xe_getIv dX9_countRowsOf_41 flX9_131 (st10 hs) (by decide) rfl (v := nI nd) (P4) ?_
        refine xe_ishl dX9_countRowsOf_44 ?_
        refine xe_top (v' := nI (2 ^ nd)) (q_pow_nm nd P4b) ?_
        refine xe_iconst dX9_countRowsOf_45 kc_1 ?_
        have hpw0 : 0 < 2 ^ nd := Nat.pow_pos (by decide)
        refine xn_isub dX9_countRowsOf_46 (by omega) ?_
        refine xn_iast dX9_countRowsOf_47 (st121 hs) (by omega) (by decide) ?_
        refine xe_aload_n dX9_countRowsOf_48 rfl ?_
        refine xe_getP dX9_countRowsOf_49 flX9_76 (st0 hs) (by decide) rfl (sp0_11 hs) ?_
        refine xe_aload_n dX9_countRowsOf_52 rfl ?_
        refine xe_getP dX9_countRowsOf_53 flX9_26 (st0 hs) (by decide) rfl P0 ?_
        refine xe_getIv dX9_countRowsOf_56 flX9_131 (st10 hs) (by decide) rfl (v := nI nd) (P4) ?_
        refine xe_iconst dX9_countRowsOf_59 kc_0 ?_
        refine xe_top (v' := nI (nd - nd)) (congrArg nI (by omega)) ?_
        refine xe_iload_n dX9_countRowsOf_60 rfl ?_
        refine xe_iconst dX9_countRowsOf_61 kc_0 ?_
        refine xe_aload_n dX9_countRowsOf_62 rfl ?_
        refine xe_getP dX9_countRowsOf_63 flX9_80 (st0 hs) (by decide) rfl (sp0_12 hs) ?_
        refine xe_callSI (d' := nd + 1) (y' := mX9_countRows) dX9_countRowsOf_66 mlX9_347 msX9_countRows rfl (by omega) (by decide) (Nat.le_of_ble_eq_true rfl) (c_X9_countRows l g (F := (q_fi (q_cr h) (q_I h (10 + 5)) LW 0 nc w m)) P4b (fun d => (q_fi_eq _ _ _ _ _ _ _ _).2) nd _ (by exact hs) (by exact e1) (Nat.le_refl _) k _ (by omega)) rfl ?_
        refine xe_ireturn dX9_countRowsOf_69 rfl (by first | rfl | decide +kernel) ?_
        exact ⟨rfl, (q_kag_o (by repeat (first | exact q_out_r | refine q_out_w rfl ?_))), rfl⟩
      · omega
  · refine q_CtV mvX9_countRowsOf (Nat.le_of_ble_eq_true rfl) ?_
    refine xe_iconst dX9_countRowsOf_0 kc_0 ?_
    refine xe_istore_n (i := 3) dX9_countRowsOf_1 rfl (by decide) rfl ?_
    refine xe_fin (L' := (fun (d_ : Nat) (s1 : (Nat → Int32) × (Nat → Int32) × (Nat → Int32)) => [(0, .ref 0), (1, .int (nI m)), (2, .int (nI k)), (3, .int (nI d_))]) 0 (q_I h 120, q_I h 32, q_I h 33)) (h' := (fun (d_ : Nat) (s1 : (Nat → Int32) × (Nat → Int32) × (Nat → Int32)) => (q_wI (q_wI (q_wI h 32 s1.2.1) 33 s1.2.2) 120 s1.1)) 0 (q_I h 120, q_I h 32, q_I h 33)) ?_ (And.intro rfl (And.intro rfl (And.intro rfl (And.intro rfl trivial)))) (q_heq [32, 33, 120] (H := h) (by repeat (first | exact q_out_r | refine q_out_w rfl ?_)) (by repeat (first | exact q_out_r | refine q_out_w rfl ?_)) (And.intro rfl (And.intro rfl (And.intro rfl trivial))))
    refine xe_loopI (σ := (Nat → Int32) × (Nat → Int32) × (Nat → Int32)) (nd) (fun i s => ∀ d, d < i → s.1 d = nI ((q_fi (q_cr h) (q_I h (22 + 5)) LW 0 nc w m) d)) (fun (d_ : Nat) (s1 : (Nat → Int32) × (Nat → Int32) × (Nat → Int32)) => [(0, .ref 0), (1, .int (nI m)), (2, .int (nI k)), (3, .int (nI d_))]) (fun (d_ : Nat) (s1 : (Nat → Int32) × (Nat → Int32) × (Nat → Int32)) => (q_wI (q_wI (q_wI h 32 s1.2.1) 33 s1.2.2) 120 s1.1)) (q_I h 120, q_I h 32, q_I h 33) (fun _ q => absurd q (Nat.not_lt_zero _)) (fun d_ hd_ s1 e1 K1 => ?_) (fun s1 e1 => ?_)
    · refine xe_iload_n dX9_countRowsOf_2 rfl ?_
      refine xe_aload_n dX9_countRowsOf_3 rfl ?_
      refine xe_getP dX9_countRowsOf_4 flX9_26 (st0 hs) (by decide) rfl P0 ?_
      refine xe_getIv dX9_countRowsOf_7 flX9_131 (st22 hs) (by decide) rfl (v := nI nd) (P4) ?_
      refine xn_icmp_ge (tgt := 31) dX9_countRowsOf_10 rfl (by omega) (by omega) (fun c2 => ?_) (fun c2 => ?_)
      · omega
      · refine xe_aload_n dX9_countRowsOf_13 rfl ?_
        refine xe_getP dX9_countRowsOf_14 flX9_76 (st0 hs) (by decide) rfl (sp0_11 hs) ?_
        refine xe_iload_n dX9_countRowsOf_17 rfl ?_
        refine xe_aload_n dX9_countRowsOf_18 rfl ?_
        refine xe_iload_n dX9_countRowsOf_19 rfl ?_
        refine xe_iload_n dX9_countRowsOf_20 rfl ?_
        refine xe_callVIq (d' := 2) (y' := mX9_fineNow) dX9_countRowsOf_21 mlX9_177 mvX9_fineNow rfl (st0 hs) (by decide) rfl (by decide) (by decide) (Nat.le_of_ble_eq_true rfl) (c_X9_fineNow l g _ (by exact hs) (by exact hp) (by exact hL) (by exact hw) hw2 (by omega) (by omega)) rfl (fun h3 hq3 => ?_)
        obtain ⟨V3, S3, rfl⟩ := hq3
        refine xn_iast dX9_countRowsOf_24 (st120 hs) (by omega) (by decide) ?_
        refine xn_iinc dX9_countRowsOf_25 rfl kc_1 ?_
        refine xe_goto (tgt := 2) dX9_countRowsOf_28 rfl ?_
        exact xe_fin (K1 (upd s1.1 d_ (q_fin (q_cr h) (q_I h (22 + 5)) LW 0 nc w m d_), V3, S3) (fun d q => q_updw (fun e => by subst e; exact (q_fi_eq _ _ _ _ _ _ _ _).1) (fun e => e1 d (by omega)))) (And.intro rfl (And.intro rfl (And.intro rfl (And.intro rfl trivial)))) (q_heq [32, 33, 120] (H := h) (by repeat (first | exact q_out_r | refine q_out_w rfl ?_)) (by repeat (first | exact q_out_r | refine q_out_w rfl ?_)) (And.intro rfl (And.intro rfl (And.intro rfl trivial))))
    · refine xe_iload_n dX9_countRowsOf_2 rfl ?_
      refine xe_aload_n dX9_countRowsOf_3 rfl ?_
      refine xe_getP dX9_countRowsOf_4 flX9_26 (st0 hs) (by decide) rfl P0 ?_
      refine xe_getIv dX9_countRowsOf_7 flX9_131 (st22 hs) (by decide) rfl (v := nI nd) (P4) ?_
      refine xn_icmp_ge (tgt := 31) dX9_countRowsOf_10 rfl (by omega) (by omega) (fun c4 => ?_) (fun c4 => ?_)
      · refine xe_aload_n dX9_countRowsOf_31 rfl ?_
        refine xe_getP dX9_countRowsOf_32 flX9_80 (st0 hs) (by decide) rfl (sp0_12 hs) ?_
        refine xe_iconst dX9_countRowsOf_35 kc_0 ?_
        refine xe_iconst dX9_countRowsOf_36 kc_1 ?_
        refine xe_aload_n dX9_countRowsOf_37 rfl ?_
        refine xe_getP dX9_countRowsOf_38 flX9_26 (st0 hs) (by decide) rfl P0 ?_
        refine xe_getIv dX9_countRowsOf_41 flX9_131 (st22 hs) (by decide) rfl (v := nI nd) (P4) ?_
        refine xe_ishl dX9_countRowsOf_44 ?_
        refine xe_top (v' := nI (2 ^ nd)) (q_pow_nm nd P4b) ?_
        refine xe_iconst dX9_countRowsOf_45 kc_1 ?_
        have hpw0 : 0 < 2 ^ nd := Nat.pow_pos (by decide)
        refine xn_isub dX9_countRowsOf_46 (by omega) ?_
        refine xn_iast dX9_countRowsOf_47 (st121 hs) (by omega) (by decide) ?_
        refine xe_aload_n dX9_countRowsOf_48 rfl ?_
        refine xe_getP dX9_countRowsOf_49 flX9_76 (st0 hs) (by decide) rfl (sp0_11 hs) ?_
        refine xe_aload_n dX9_countRowsOf_52 rfl ?_
        refine xe_getP dX9_countRowsOf_53 flX9_26 (st0 hs) (by decide) rfl P0 ?_
        refine xe_getIv dX9_countRowsOf_56 flX9_131 (st22 hs) (by decide) rfl (v := nI nd) (P4) ?_
        refine xe_iconst dX9_countRowsOf_59 kc_0 ?_
        refine xe_top (v' := nI (nd - nd)) (congrArg nI (by omega)) ?_
        refine xe_iload_n dX9_countRowsOf_60 rfl ?_
        refine xe_iconst dX9_countRowsOf_61 kc_0 ?_
        refine xe_aload_n dX9_countRowsOf_62 rfl ?_
        refine xe_getP dX9_countRowsOf_63 flX9_80 (st0 hs) (by decide) rfl (sp0_12 hs) ?_
        refine xe_callSI (d' := nd + 1) (y' := mX9_countRows) dX9_countRowsOf_66 mlX9_347 msX9_countRows rfl (by omega) (by decide) (Nat.le_of_ble_eq_true rfl) (c_X9_countRows l g (F := (q_fi (q_cr h) (q_I h (22 + 5)) LW 0 nc w m)) P4b (fun d => (q_fi_eq _ _ _ _ _ _ _ _).2) nd _ (by exact hs) (by exact e1) (Nat.le_refl _) k _ (by omega)) rfl ?_
        refine xe_ireturn dX9_countRowsOf_69 rfl (by first | rfl | decide +kernel) ?_
        exact ⟨rfl, (q_kag_o (by repeat (first | exact q_out_r | refine q_out_w rfl ?_))), rfl⟩
      · omega
theorem c_X9_isLack_t (l : Launch) (g : q_GP) (h : q_H) (hs : q_Stat h) {p nm nd nc mo n : Nat} (hp : rk_P h p nm nd nc mo n) {m k : Nat} (hm : m < nm) (hk : k ≤ 9999) : q_Cd l g 1 mX9_isLack [.ref 0, .int (nI m), .int (nI k)] h (some (.int (nI 1))) h := by
  obtain ⟨P0, P1, P2, P2b, P3, P3b, P4, P4b, P5, P5b, P6, P6b⟩ := id hp
  rcases P1 with rfl | rfl
  · refine q_CdV mvX9_isLack (Nat.le_of_ble_eq_true rfl) ?_
    refine xe_aload_n dX9_isLack_0 rfl ?_
    refine xe_iload_n dX9_isLack_1 rfl ?_
    refine xe_callVI (d' := 0) (y' := mX9_isMan) dX9_isLack_2 mlX9_134 mvX9_isMan rfl (st0 hs) (by decide) rfl (by decide) (by decide) (Nat.le_of_ble_eq_true rfl) (c_X9_isMan_t l g _ (by exact hs) (by exact hp) (by omega)) rfl ?_
    refine xn_if_eq (tgt := 23) dX9_isLack_5 rfl (by omega) (fun c1 => ?_) (fun c1 => ?_)
    · omega
    · refine xe_iload_n dX9_isLack_8 rfl ?_
      refine xn_if_lt (tgt := 23) dX9_isLack_9 rfl (by omega) ?_
      refine xe_iload_n dX9_isLack_12 rfl ?_
      refine xe_sipush dX9_isLack_13 ks_9999 ?_
      refine xn_icmp_gt (tgt := 23) dX9_isLack_16 rfl (by omega) (by omega) (fun c3 => ?_) (fun c3 => ?_)
      · omega
      · refine xe_iconst dX9_isLack_19 kc_1 ?_
        refine xe_goto (tgt := 24) dX9_isLack_20 rfl ?_
        refine xe_ireturn dX9_isLack_24 rfl (by first | rfl | decide +kernel) ?_
        exact ⟨rfl, rfl⟩
  · refine q_CdV mvX9_isLack (Nat.le_of_ble_eq_true rfl) ?_
    refine xe_aload_n dX9_isLack_0 rfl ?_
    refine xe_iload_n dX9_isLack_1 rfl ?_
    refine xe_callVI (d' := 0) (y' := mX9_isMan) dX9_isLack_2 mlX9_134 mvX9_isMan rfl (st0 hs) (by decide) rfl (by decide) (by decide) (Nat.le_of_ble_eq_true rfl) (c_X9_isMan_t l g _ (by exact hs) (by exact hp) (by omega)) rfl ?_
    refine xn_if_eq (tgt := 23) dX9_isLack_5 rfl (by omega) (fun c1 => ?_) (fun c1 => ?_)
    · omega
    · refine xe_iload_n dX9_isLack_8 rfl ?_
      refine xn_if_lt (tgt := 23) dX9_isLack_9 rfl (by omega) ?_
      refine xe_iload_n dX9_isLack_12 rfl ?_
      refine xe_sipush dX9_isLack_13 ks_9999 ?_
      refine xn_icmp_gt (tgt := 23) dX9_isLack_16 rfl (by omega) (by omega) (fun c3 => ?_) (fun c3 => ?_)
      · omega
      · refine xe_iconst dX9_isLack_19 kc_1 ?_
        refine xe_goto (tgt := 24) dX9_isLack_20 rfl ?_
        refine xe_ireturn dX9_isLack_24 rfl (by first | rfl | decide +kernel) ?_
        exact ⟨rfl, rfl⟩
theorem c_X9_isLack_f (l : Launch) (g : q_GP) (h : q_H) (hs : q_Stat h) {p nm nd nc mo n : Nat} (hp : rk_P h p nm nd nc mo n) (x z : Int32) (hxz : ¬ (q_isN x nm ∧ ∃ k, 0 ≤ k ∧ k ≤ 9999 ∧ z = nI k)) : q_Cd l g 1 mX9_isLack [.ref 0, .int x, .int z] h (some (.int (nI 0))) h := by
  obtain ⟨P0, P1, P2, P2b, P3, P3b, P4, P4b, P5, P5b, P6, P6b⟩ := id hp
  rcases P1 with rfl | rfl
  · by_cases h1 : q_isN x nm
    · obtain ⟨a, ha, rfl⟩ := q_isN_of (by omega) h1
      refine q_CdV mvX9_isLack (Nat.le_of_ble_eq_true rfl) ?_
      refine xe_aload_n dX9_isLack_0 rfl ?_
      refine xe_iload_n dX9_isLack_1 rfl ?_
      refine xe_callVI (d' := 0) (y' := mX9_isMan) dX9_isLack_2 mlX9_134 mvX9_isMan rfl (st0 hs) (by decide) rfl (by decide) (by decide) (Nat.le_of_ble_eq_true rfl) (c_X9_isMan_t l g _ (by exact hs) (by exact hp) (by omega)) rfl ?_
      refine xn_if_eq (tgt := 23) dX9_isLack_5 rfl (by omega) (fun c1 => ?_) (fun c1 => ?_)
      · omega
      · refine xe_iload_n dX9_isLack_8 rfl ?_
        refine xe_if_lt (tgt := 23) dX9_isLack_9 rfl (fun c_9 => ?_) (fun c_9 => ?_)
        · refine xe_iconst dX9_isLack_23 kc_0 ?_
          refine xe_ireturn dX9_isLack_24 rfl (by first | rfl | decide +kernel) ?_
          exact ⟨rfl, rfl⟩
        · refine xe_iload_n dX9_isLack_12 rfl ?_
          refine xe_sipush dX9_isLack_13 ks_9999 ?_
          refine xe_icmp_gt (tgt := 23) dX9_isLack_16 rfl (fun c2 => ?_) (fun c2 => ?_)
          · refine xe_iconst dX9_isLack_23 kc_0 ?_
            refine xe_ireturn dX9_isLack_24 rfl (by first | rfl | decide +kernel) ?_
            exact ⟨rfl, rfl⟩
          · exact absurd ⟨h1, q_rng (Int32.not_lt.mp c_9) (Int32.not_lt.mp c2)⟩ hxz
    · refine q_CdV mvX9_isLack (Nat.le_of_ble_eq_true rfl) ?_
      refine xe_aload_n dX9_isLack_0 rfl ?_
      refine xe_iload_n dX9_isLack_1 rfl ?_
      refine xe_callVI (d' := 0) (y' := mX9_isMan) dX9_isLack_2 mlX9_134 mvX9_isMan rfl (st0 hs) (by decide) rfl (by decide) (by decide) (Nat.le_of_ble_eq_true rfl) (c_X9_isMan_f l g _ (by exact hs) (by exact hp) (h1)) rfl ?_
      refine xn_if_eq (tgt := 23) dX9_isLack_5 rfl (by omega) (fun c1 => ?_) (fun c1 => ?_)
      · refine xe_iconst dX9_isLack_23 kc_0 ?_
        refine xe_ireturn dX9_isLack_24 rfl (by first | rfl | decide +kernel) ?_
        exact ⟨rfl, rfl⟩
      · omega
  · by_cases h1 : q_isN x nm
    · obtain ⟨a, ha, rfl⟩ := q_isN_of (by omega) h1
      refine q_CdV mvX9_isLack (Nat.le_of_ble_eq_true rfl) ?_
      refine xe_aload_n dX9_isLack_0 rfl ?_
      refine xe_iload_n dX9_isLack_1 rfl ?_
      refine xe_callVI (d' := 0) (y' := mX9_isMan) dX9_isLack_2 mlX9_134 mvX9_isMan rfl (st0 hs) (by decide) rfl (by decide) (by decide) (Nat.le_of_ble_eq_true rfl) (c_X9_isMan_t l g _ (by exact hs) (by exact hp) (by omega)) rfl ?_
      refine xn_if_eq (tgt := 23) dX9_isLack_5 rfl (by omega) (fun c1 => ?_) (fun c1 => ?_)
      · omega
      · refine xe_iload_n dX9_isLack_8 rfl ?_
        refine xe_if_lt (tgt := 23) dX9_isLack_9 rfl (fun c_9 => ?_) (fun c_9 => ?_)
        · refine xe_iconst dX9_isLack_23 kc_0 ?_
          refine xe_ireturn dX9_isLack_24 rfl (by first | rfl | decide +kernel) ?_
          exact ⟨rfl, rfl⟩
        · refine xe_iload_n dX9_isLack_12 rfl ?_
          refine xe_sipush dX9_isLack_13 ks_9999 ?_
          refine xe_icmp_gt (tgt := 23) dX9_isLack_16 rfl (fun c2 => ?_) (fun c2 => ?_)
          · refine xe_iconst dX9_isLack_23 kc_0 ?_
            refine xe_ireturn dX9_isLack_24 rfl (by first | rfl | decide +kernel) ?_
            exact ⟨rfl, rfl⟩
          · exact absurd ⟨h1, q_rng (Int32.not_lt.mp c_9) (Int32.not_lt.mp c2)⟩ hxz
    · refine q_CdV mvX9_isLack (Nat.le_of_ble_eq_true rfl) ?_
      refine xe_aload_n dX9_isLack_0 rfl ?_
      refine xe_iload_n dX9_isLack_1 rfl ?_
      refine xe_callVI (d' := 0) (y' := mX9_isMan) dX9_isLack_2 mlX9_134 mvX9_isMan rfl (st0 hs) (by decide) rfl (by decide) (by decide) (Nat.le_of_ble_eq_true rfl) (c_X9_isMan_f l g _ (by exact hs) (by exact hp) (h1)) rfl ?_
      refine xn_if_eq (tgt := 23) dX9_isLack_5 rfl (by omega) (fun c1 => ?_) (fun c1 => ?_)
      · refine xe_iconst dX9_isLack_23 kc_0 ?_
        refine xe_ireturn dX9_isLack_24 rfl (by first | rfl | decide +kernel) ?_
        exact ⟨rfl, rfl⟩
      · omega
theorem c_X9_did_t (l : Launch) (g : q_GP) (h : q_H) (hs : q_Stat h) {p nm nd nc mo n : Nat} (hp : rk_P h p nm nd nc mo n) {LW : q_LW} (hL : rk_L h p n LW) {w : Nat} (hw : q_I h 34 6 = nI w) (hw2 : w < 2 ^ 20) {m k : Nat} (hm : m < nm) (hk : k ≤ 9999) : q_Ct l g 11 mX9_did [.ref 0, .int (nI m), .int (nI k)] h (fun r h1 => r = some (.int (nI (q_dr (q_fi (q_cr h) (q_I h (p + 5)) LW 0 nc w m) nd nd k (nI 0) (nI (2 ^ nd - 1))).1)) ∧ q_kag h h1) := by
  obtain ⟨P0, P1, P2, P2b, P3, P3b, P4, P4b, P5, P5b, P6, P6b⟩ := id hp
  rcases P1 with rfl | rfl
  · refine q_CtV mvX9_did (Nat.le_of_ble_eq_true rfl) ?_
    refine xe_aload_n dX9_did_0 rfl ?_
    refine xe_iload_n dX9_did_1 rfl ?_
    refine xe_iload_n dX9_did_2 rfl ?_
    refine xe_callVI (d' := 1) (y' := mX9_isLack) dX9_did_3 mlX9_341 mvX9_isLack rfl (st0 hs) (by decide) rfl (by decide) (by decide) (Nat.le_of_ble_eq_true rfl) (c_X9_isLack_t l g _ (by exact hs) (by exact hp) hm hk) rfl ?_
    refine xn_if_eq (tgt := 18) dX9_did_6 rfl (by omega) (fun c1 => ?_) (fun c1 => ?_)
    · omega
    · refine xe_aload_n dX9_did_9 rfl ?_
      refine xe_iload_n dX9_did_10 rfl ?_
      refine xe_iload_n dX9_did_11 rfl ?_
      refine xe_callVIq (d' := 10) (y' := mX9_countRowsOf) dX9_did_12 mlX9_344 mvX9_countRowsOf rfl (st0 hs) (by decide) rfl (by decide) (by decide) (Nat.le_of_ble_eq_true rfl) (c_X9_countRowsOf l g _ (by exact hs) (by exact hp) (by exact hL) (by exact hw) hw2 hm hk) rfl (fun h1 hq1 => ?_)
      obtain ⟨hX, hacc⟩ := hq1
      have hs1 : q_Stat h1 := q_Stat_out hX hs
      refine xe_goto (tgt := 19) dX9_did_15 rfl ?_
      refine xe_ireturn dX9_did_19 rfl (by first | rfl | decide +kernel) ?_
      exact ⟨rfl, hX⟩
  · refine q_CtV mvX9_did (Nat.le_of_ble_eq_true rfl) ?_
    refine xe_aload_n dX9_did_0 rfl ?_
    refine xe_iload_n dX9_did_1 rfl ?_
    refine xe_iload_n dX9_did_2 rfl ?_
    refine xe_callVI (d' := 1) (y' := mX9_isLack) dX9_did_3 mlX9_341 mvX9_isLack rfl (st0 hs) (by decide) rfl (by decide) (by decide) (Nat.le_of_ble_eq_true rfl) (c_X9_isLack_t l g _ (by exact hs) (by exact hp) hm hk) rfl ?_
    refine xn_if_eq (tgt := 18) dX9_did_6 rfl (by omega) (fun c1 => ?_) (fun c1 => ?_)
    · omega
    · refine xe_aload_n dX9_did_9 rfl ?_
      refine xe_iload_n dX9_did_10 rfl ?_
      refine xe_iload_n dX9_did_11 rfl ?_
      refine xe_callVIq (d' := 10) (y' := mX9_countRowsOf) dX9_did_12 mlX9_344 mvX9_countRowsOf rfl (st0 hs) (by decide) rfl (by decide) (by decide) (Nat.le_of_ble_eq_true rfl) (c_X9_countRowsOf l g _ (by exact hs) (by exact hp) (by exact hL) (by exact hw) hw2 hm hk) rfl (fun h1 hq1 => ?_)
      obtain ⟨hX, hacc⟩ := hq1
      have hs1 : q_Stat h1 := q_Stat_out hX hs
      refine xe_goto (tgt := 19) dX9_did_15 rfl ?_
      refine xe_ireturn dX9_did_19 rfl (by first | rfl | decide +kernel) ?_
      exact ⟨rfl, hX⟩
theorem c_X9_did_f (l : Launch) (g : q_GP) (h : q_H) (hs : q_Stat h) {p nm nd nc mo n : Nat} (hp : rk_P h p nm nd nc mo n) (x z : Int32) (hxz : ¬ (q_isN x nm ∧ ∃ k, 0 ≤ k ∧ k ≤ 9999 ∧ z = nI k)) : q_Cd l g 11 mX9_did [.ref 0, .int x, .int z] h (some (.int (-1))) h := by
  obtain ⟨P0, P1, P2, P2b, P3, P3b, P4, P4b, P5, P5b, P6, P6b⟩ := id hp
  rcases P1 with rfl | rfl
  · refine q_CdV mvX9_did (Nat.le_of_ble_eq_true rfl) ?_
    refine xe_aload_n dX9_did_0 rfl ?_
    refine xe_iload_n dX9_did_1 rfl ?_
    refine xe_iload_n dX9_did_2 rfl ?_
    refine xe_callVI (d' := 1) (y' := mX9_isLack) dX9_did_3 mlX9_341 mvX9_isLack rfl (st0 hs) (by decide) rfl (by decide) (by decide) (Nat.le_of_ble_eq_true rfl) (c_X9_isLack_f l g _ (by exact hs) (by exact hp) _ _ hxz) rfl ?_
    refine xn_if_eq (tgt := 18) dX9_did_6 rfl (by omega) (fun c1 => ?_) (fun c1 => ?_)
    · refine xe_iconst dX9_did_18 kc_m1 ?_
      refine xe_ireturn dX9_did_19 rfl (by first | rfl | decide +kernel) ?_
      exact ⟨rfl, rfl⟩
    · omega
  · refine q_CdV mvX9_did (Nat.le_of_ble_eq_true rfl) ?_
    refine xe_aload_n dX9_did_0 rfl ?_
    refine xe_iload_n dX9_did_1 rfl ?_
    refine xe_iload_n dX9_did_2 rfl ?_
    refine xe_callVI (d' := 1) (y' := mX9_isLack) dX9_did_3 mlX9_341 mvX9_isLack rfl (st0 hs) (by decide) rfl (by decide) (by decide) (Nat.le_of_ble_eq_true rfl) (c_X9_isLack_f l g _ (by exact hs) (by exact hp) _ _ hxz) rfl ?_
    refine xn_if_eq (tgt := 18) dX9_did_6 rfl (by omega) (fun c1 => ?_) (fun c1 => ?_)
    · refine xe_iconst dX9_did_18 kc_m1 ?_
      refine xe_ireturn dX9_did_19 rfl (by first | rfl | decide +kernel) ?_
      exact ⟨rfl, rfl⟩
    · omega
theorem c_X9_surely_t (l : Launch) (g : q_GP) (h : q_H) (hs : q_Stat h) {p nm nd nc mo n : Nat} (hp : rk_P h p nm nd nc mo n) {LW : q_LW} (hL : rk_L h p n LW) {w : Nat} (hw : q_I h 34 6 = nI w) (hw2 : w < 2 ^ 20) {m k : Nat} (hm : m < nm) (hk : k ≤ 9999) : q_Ct l g 11 mX9_surely [.ref 0, .int (nI m), .int (nI k)] h (fun r h1 => r = some (.int (if (q_dr (q_fi (q_cr h) (q_I h (p + 5)) LW 0 nc w m) nd nd k (nI 0) (nI (2 ^ nd - 1))).1 = 0 then nI 0 else (q_dr (q_fi (q_cr h) (q_I h (p + 5)) LW 0 nc w m) nd nd k (nI 0) (nI (2 ^ nd - 1))).2)) ∧ q_kag h h1) := by
  obtain ⟨P0, P1, P2, P2b, P3, P3b, P4, P4b, P5, P5b, P6, P6b⟩ := id hp
  rcases P1 with rfl | rfl
  · refine q_CtV mvX9_surely (Nat.le_of_ble_eq_true rfl) ?_
    refine xe_aload_n dX9_surely_0 rfl ?_
    refine xe_iload_n dX9_surely_1 rfl ?_
    refine xe_iload_n dX9_surely_2 rfl ?_
    refine xe_callVI (d' := 1) (y' := mX9_isLack) dX9_surely_3 mlX9_341 mvX9_isLack rfl (st0 hs) (by decide) rfl (by decide) (by decide) (Nat.le_of_ble_eq_true rfl) (c_X9_isLack_t l g _ (by exact hs) (by exact hp) hm hk) rfl ?_
    refine xn_if_ne (tgt := 11) dX9_surely_6 rfl (by omega) (fun c1 => ?_) (fun c1 => ?_)
    · refine xe_aload_n dX9_surely_11 rfl ?_
      refine xe_iload_n dX9_surely_12 rfl ?_
      refine xe_iload_n dX9_surely_13 rfl ?_
      refine xe_callVIq (d' := 10) (y' := mX9_countRowsOf) dX9_surely_14 mlX9_344 mvX9_countRowsOf rfl (st0 hs) (by decide) rfl (by decide) (by decide) (Nat.le_of_ble_eq_true rfl) (c_X9_countRowsOf l g _ (by exact hs) (by exact hp) (by exact hL) (by exact hw) hw2 hm hk) rfl (fun h1 hq1 => ?_)
      obtain ⟨hX, hacc⟩ := hq1
      have hs1 : q_Stat h1 := q_Stat_out hX hs
      have hle := q_dr_le (q_fi (q_cr h) (q_I h (10 + 5)) LW 0 nc w m) nd nd k (nI 0) (nI (2 ^ nd - 1))
      have h4 : 4 ^ nd ≤ 65536 := Nat.le_trans (Nat.pow_le_pow_right (by decide) P4b) (by decide)
      refine xn_if_ne (tgt := 24) dX9_surely_17 rfl (by omega) (fun c2 => ?_) (fun c2 => ?_)
      · refine xe_aload_n dX9_surely_24 rfl ?_
        refine xe_getP dX9_surely_25 flX9_80 (st0 hs1) (by decide) rfl (sp0_12 hs1) ?_
        refine xe_iconst dX9_surely_28 kc_0 ?_
        refine xn_ialdv dX9_surely_29 (st121 hs1) (by omega) (by decide) (v := (q_dr (q_fi (q_cr h) (q_I h (10 + 5)) LW 0 nc w m) nd nd k (nI 0) (nI (2 ^ nd - 1))).2) (hacc) ?_
        refine xe_ireturn dX9_surely_30 rfl (by first | rfl | decide +kernel) ?_
        exact ⟨congrArg (fun v => some (Value.int v)) (if_neg c2).symm, hX⟩
      · refine xe_iconst dX9_surely_20 kc_0 ?_
        refine xe_goto (tgt := 30) dX9_surely_21 rfl ?_
        refine xe_ireturn dX9_surely_30 rfl (by first | rfl | decide +kernel) ?_
        exact ⟨congrArg (fun v => some (Value.int v)) (if_pos c2).symm, hX⟩
    · omega
  · refine q_CtV mvX9_surely (Nat.le_of_ble_eq_true rfl) ?_
    refine xe_aload_n dX9_surely_0 rfl ?_
    refine xe_iload_n dX9_surely_1 rfl ?_
    refine xe_iload_n dX9_surely_2 rfl ?_
    refine xe_callVI (d' := 1) (y' := mX9_isLack) dX9_surely_3 mlX9_341 mvX9_isLack rfl (st0 hs) (by decide) rfl (by decide) (by decide) (Nat.le_of_ble_eq_true rfl) (c_X9_isLack_t l g _ (by exact hs) (by exact hp) hm hk) rfl ?_
    refine xn_if_ne (tgt := 11) dX9_surely_6 rfl (by omega) (fun c1 => ?_) (fun c1 => ?_)
    · refine xe_aload_n dX9_surely_11 rfl ?_
      refine xe_iload_n dX9_surely_12 rfl ?_
      refine xe_iload_n dX9_surely_13 rfl ?_
      refine xe_callVIq (d' := 10) (y' := mX9_countRowsOf) dX9_surely_14 mlX9_344 mvX9_countRowsOf rfl (st0 hs) (by decide) rfl (by decide) (by decide) (Nat.le_of_ble_eq_true rfl) (c_X9_countRowsOf l g _ (by exact hs) (by exact hp) (by exact hL) (by exact hw) hw2 hm hk) rfl (fun h1 hq1 => ?_)
      obtain ⟨hX, hacc⟩ := hq1
      have hs1 : q_Stat h1 := q_Stat_out hX hs
      have hle := q_dr_le (q_fi (q_cr h) (q_I h (22 + 5)) LW 0 nc w m) nd nd k (nI 0) (nI (2 ^ nd - 1))
      have h4 : 4 ^ nd ≤ 65536 := Nat.le_trans (Nat.pow_le_pow_right (by decide) P4b) (by decide)
      refine xn_if_ne (tgt := 24) dX9_surely_17 rfl (by omega) (fun c2 => ?_) (fun c2 => ?_)
      · refine xe_aload_n dX9_surely_24 rfl ?_
        refine xe_getP dX9_surely_25 flX9_80 (st0 hs1) (by decide) rfl (sp0_12 hs1) ?_
        refine xe_iconst dX9_surely_28 kc_0 ?_
        refine xn_ialdv dX9_surely_29 (st121 hs1) (by omega) (by decide) (v := (q_dr (q_fi (q_cr h) (q_I h (22 + 5)) LW 0 nc w m) nd nd k (nI 0) (nI (2 ^ nd - 1))).2) (hacc) ?_
        refine xe_ireturn dX9_surely_30 rfl (by first | rfl | decide +kernel) ?_
        exact ⟨congrArg (fun v => some (Value.int v)) (if_neg c2).symm, hX⟩
      · refine xe_iconst dX9_surely_20 kc_0 ?_
        refine xe_goto (tgt := 30) dX9_surely_21 rfl ?_
        refine xe_ireturn dX9_surely_30 rfl (by first | rfl | decide +kernel) ?_
        exact ⟨congrArg (fun v => some (Value.int v)) (if_pos c2).symm, hX⟩
    · omega
theorem c_X9_surely_f (l : Launch) (g : q_GP) (h : q_H) (hs : q_Stat h) {p nm nd nc mo n : Nat} (hp : rk_P h p nm nd nc mo n) (x z : Int32) (hxz : ¬ (q_isN x nm ∧ ∃ k, 0 ≤ k ∧ k ≤ 9999 ∧ z = nI k)) : q_Cd l g 11 mX9_surely [.ref 0, .int x, .int z] h (some (.int (-1))) h := by
  obtain ⟨P0, P1, P2, P2b, P3, P3b, P4, P4b, P5, P5b, P6, P6b⟩ := id hp
  rcases P1 with rfl | rfl
  · refine q_CdV mvX9_surely (Nat.le_of_ble_eq_true rfl) ?_
    refine xe_aload_n dX9_surely_0 rfl ?_
    refine xe_iload_n dX9_surely_1 rfl ?_
    refine xe_iload_n dX9_surely_2 rfl ?_
    refine xe_callVI (d' := 1) (y' := mX9_isLack) dX9_surely_3 mlX9_341 mvX9_isLack rfl (st0 hs) (by decide) rfl (by decide) (by decide) (Nat.le_of_ble_eq_true rfl) (c_X9_isLack_f l g _ (by exact hs) (by exact hp) _ _ hxz) rfl ?_
    refine xn_if_ne (tgt := 11) dX9_surely_6 rfl (by omega) (fun c1 => ?_) (fun c1 => ?_)
    · omega
    · refine xe_iconst dX9_surely_9 kc_m1 ?_
      refine xe_ireturn dX9_surely_10 rfl (by first | rfl | decide +kernel) ?_
      exact ⟨rfl, rfl⟩
  · refine q_CdV mvX9_surely (Nat.le_of_ble_eq_true rfl) ?_
    refine xe_aload_n dX9_surely_0 rfl ?_
    refine xe_iload_n dX9_surely_1 rfl ?_
    refine xe_iload_n dX9_surely_2 rfl ?_
    refine xe_callVI (d' := 1) (y' := mX9_isLack) dX9_surely_3 mlX9_341 mvX9_isLack rfl (st0 hs) (by decide) rfl (by decide) (by decide) (Nat.le_of_ble_eq_true rfl) (c_X9_isLack_f l g _ (by exact hs) (by exact hp) _ _ hxz) rfl ?_
    refine xn_if_ne (tgt := 11) dX9_surely_6 rfl (by omega) (fun c1 => ?_) (fun c1 => ?_)
    · omega
    · refine xe_iconst dX9_surely_9 kc_m1 ?_
      refine xe_ireturn dX9_surely_10 rfl (by first | rfl | decide +kernel) ?_
      exact ⟨rfl, rfl⟩
