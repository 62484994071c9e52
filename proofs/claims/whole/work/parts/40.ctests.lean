/-! the class: tests that are told; who was stuffed -/
theorem q_all_f {P : Nat → Bool} {i : Nat} : ∀ {k : Nat}, i < k → P i = false → q_all P k = false
  | 0, h, _ => absurd h (Nat.not_lt_zero _)
  | k + 1, h, h2 => by
    unfold q_all
    rcases Nat.lt_succ_iff_lt_or_eq.mp h with q | q
    · rw [q_all_f q h2, Bool.false_and]
    · rw [← q, h2, Bool.and_false]
theorem q_all_s {P : Nat → Bool} {k : Nat} (h : q_all P k = true) (h2 : P k = true) : q_all P (k + 1) = true := by
  unfold q_all
  rw [h, h2]
  rfl
theorem q_all_co {P P' : Nat → Bool} : ∀ {k : Nat}, (∀ i, i < k → P i = P' i) → q_all P k = q_all P' k
  | 0, _ => rfl
  | k + 1, h => by
    unfold q_all
    rw [q_all_co (fun i hi => h i (by omega)), h k (by omega)]
/-- what a test tells beyond what is there -/
def q_ms (R : Nat → Int32) (S T : Int32) : Nat → Int32
  | 0 => T
  | n + 1 => if q_bit S n then q_ms R S T n - (q_s8 R (8 * n) - R (9 * n)) else q_ms R S T n
def q_agr (M S : Nat → Int32) (to : Nat) (x : Int32) (i : Nat) : Bool := decide (M i = if q_bit (S i) to then x else nI 0)
/-- feathers that grew elsewhere, on a set among the first n -/
def q_wf2 (R : Nat → Int32) (S : Int32) : Nat → Int32
  | 0 => 0
  | n + 1 => if q_bit S n then q_wf2 R S n + (q_s8 R (8 * n) - R (9 * n)) else q_wf2 R S n
theorem q_ms_w (R : Nat → Int32) (S T : Int32) : ∀ n, q_ms R S T n = T - q_wf2 R S n
  | 0 => (Int32.sub_zero T).symm
  | n + 1 => by
    have ih := q_ms_w R S T n
    unfold q_ms q_wf2
    split
    · rw [ih, Int32.sub_eq_add_neg, Int32.sub_eq_add_neg T, Int32.sub_eq_add_neg T, Int32.neg_add, Int32.add_assoc, Int32.sub_eq_add_neg (-q_wf2 R S n)]
    · exact ih
theorem q_isn_w (R : Nat → Int32) (S b : Int32) : ∀ n, q_isn R S b n = b + q_wf2 R S n
  | 0 => (Int32.add_zero b).symm
  | n + 1 => by
    have ih := q_isn_w R S b n
    unfold q_isn q_wf2
    split
    · rw [ih, Int32.add_assoc]
    · exact ih
theorem q_wf2_hi (R : Nat → Int32) {s nm : Nat} (hs : s < 2 ^ nm) (hnm : nm ≤ 8) : ∀ j, nm + j ≤ 8 → q_wf2 R (nI s) (nm + j) = q_wf2 R (nI s) nm
  | 0, _ => rfl
  | j + 1, hj => by
    have ih := q_wf2_hi R hs hnm j (by omega)
    have hs2 : s < 256 := Nat.lt_of_lt_of_le hs (q_pow_le hnm)
    have hb : ¬ q_bit (nI s) (nm + j) = true := fun q => by
      have := (q_tb hs2 (show nm + j < 8 by omega)).mp (of_decide_eq_true q)
      rw [Nat.testBit_lt_two_pow (Nat.lt_of_lt_of_le hs (Nat.pow_le_pow_right (by decide) (by omega)))] at this
      cases this
    show (if q_bit (nI s) (nm + j) then _ else q_wf2 R (nI s) (nm + j)) = _
    rw [if_neg hb, ih]
theorem q_sub_add (T W b : Int32) : T - W = b ↔ b + W = T := by
  constructor
  · intro h
    rw [← h, Int32.sub_add_cancel]
  · intro h
    rw [← h, Int32.add_sub_cancel]
theorem q_agr_ok {R S T M : Nat → Int32} {nm k to : Nat} {x : Int32} (hnm : nm ≤ 8) (hS : ∀ i, i < k → ∃ s, s < 2 ^ nm ∧ S i = nI s) (hM : ∀ i, i < k → M i = q_ms R (S i) (T i) 8) : q_all (q_agr M S to x) k = q_all (q_sok R S T nm to x) k := q_all_co (fun i hi => by
  obtain ⟨s, hs, e⟩ := hS i hi
  unfold q_agr q_sok
  have h1 := q_wf2_hi R hs hnm (8 - nm) (by omega)
  rw [show nm + (8 - nm) = 8 by omega] at h1
  rw [hM i hi, q_ms_w, q_isn_w, e, h1]
  exact decide_eq_decide.mpr (q_sub_add _ _ _))
theorem q_si_out {G ok : Nat → Bool} {i : Int32} {cd : Nat → Int32} {n a c : Nat} (h : n = 0 ∨ G a = false) : q_si G ok i cd n a c = .inr c := by
  cases n with
  | zero => rfl
  | succ n =>
    unfold q_si
    rcases h with h | h
    · cases h
    · rw [h]
      rfl
theorem q_si_no {G ok : Nat → Bool} {i : Int32} {cd : Nat → Int32} {n a c : Nat} (h1 : G a = true) (h2 : ok a = false) : q_si G ok i cd (n + 1) a c = q_si G ok i cd n (a + 1) c := by
  show (if G a then (if ok a then _ else _) else _) = _
  rw [if_pos h1, h2]
  rfl
theorem q_si_yes {G ok : Nat → Bool} {i : Int32} {cd : Nat → Int32} {n a c : Nat} (h1 : G a = true) (h2 : ok a = true) (h3 : ¬ nI c = i) : q_si G ok i cd (n + 1) a c = q_si G ok i cd n (a + 1) (c + 1) := by
  show (if G a then (if ok a then (if nI c = i then _ else _) else _) else _) = _
  rw [if_pos h1, if_pos h2, if_neg h3]
theorem q_si_hit {G ok : Nat → Bool} {i : Int32} {cd : Nat → Int32} {n a c : Nat} (h1 : G a = true) (h2 : ok a = true) (h3 : nI c = i) : q_si G ok i cd (n + 1) a c = .inl (cd a) := by
  show (if G a then (if ok a then (if nI c = i then _ else _) else _) else _) = _
  rw [if_pos h1, if_pos h2, if_pos h3]
theorem q_sl_hit {st : Nat → Nat → Int32 ⊕ Nat} {n j c : Nat} {v : Int32} (hn : 0 < n) (h : st j c = .inl v) : q_sl st n j c = .inl v := by
  cases n with
  | zero => omega
  | succ n =>
    unfold q_sl
    rw [h]
theorem q_sl_go {st : Nat → Nat → Int32 ⊕ Nat} {n j c c' : Nat} (hn : 0 < n) (h : st j c = .inr c') : q_sl st n j c = q_sl st (n - 1) (j + 1) c' := by
  cases n with
  | zero => omega
  | succ n =>
    show (match st j c with | .inl v => _ | .inr c' => _) = _
    rw [h]
    rfl
theorem c_X8_agree (l : Launch) (g : q_GP) (h : q_H) (hs : q_Stat h) {k to : Nat} (hk : k ≤ 20) (ht : to < 8) (x : Int32) : q_Cd l g 0 mX8_agree [.ref 94, .int (nI k), .int (nI to), .int x] h (some (.int (q_bv (q_all (q_agr (q_I h 97) (q_I h 95) to x) k)))) h := by
  refine q_CdV mvX8_agree (Nat.le_of_ble_eq_true rfl) ?_
  refine xe_iconst dX8_agree_0 kc_0 ?_
  refine xe_istore dX8_agree_1 (by decide) rfl ?_
  refine xe_fin (L' := (fun (i_ : Nat) (s1 : Unit) => [(0, .ref 94), (1, .int (nI k)), (2, .int (nI to)), (3, .int x), (4, .int (nI i_))]) 0 ()) (h' := (fun (_ : Nat) (_ : Unit) => h) 0 ()) ?_ (And.intro rfl (And.intro rfl (And.intro rfl (And.intro rfl (And.intro rfl trivial))))) rfl
  refine xe_loopI (σ := Unit) (k) (fun i _ => q_all (q_agr (q_I h 97) (q_I h 95) to x) i = true) (fun (i_ : Nat) (s1 : Unit) => [(0, .ref 94), (1, .int (nI k)), (2, .int (nI to)), (3, .int x), (4, .int (nI i_))]) (fun (_ : Nat) (_ : Unit) => h) () (rfl) (fun i_ hi_ s1 e1 K1 => ?_) (fun s1 e1 => ?_)
  · refine xe_iload dX8_agree_3 rfl ?_
    refine xe_iload_n dX8_agree_5 rfl ?_
    refine xn_icmp_ge (tgt := 51) dX8_agree_6 rfl (by omega) (by omega) (fun c2 => ?_) (fun c2 => ?_)
    · omega
    · refine xe_aload_n dX8_agree_9 rfl ?_
      refine xe_getP dX8_agree_10 flX8_9 (st94 hs) (by decide) rfl (sp94_0 hs) ?_
      refine xe_iload dX8_agree_13 rfl ?_
      refine xn_ialdv dX8_agree_15 (st95 hs) (by omega) (by decide) (v := ((q_I h 95) i_)) (rfl) ?_
      refine xe_iload_n dX8_agree_16 rfl ?_
      refine xe_ishr dX8_agree_17 ?_
      refine xe_iconst dX8_agree_18 kc_1 ?_
      refine xe_iand dX8_agree_19 ?_
      refine xe_iconst dX8_agree_20 kc_1 ?_
      refine xe_icmp_ne (tgt := 28) dX8_agree_21 rfl (fun c3 => ?_) (fun c3 => ?_)
      · refine xe_iconst dX8_agree_28 kc_0 ?_
        refine xe_istore dX8_agree_29 (by decide) rfl ?_
        refine xe_aload_n dX8_agree_31 rfl ?_
        refine xe_getP dX8_agree_32 flX8_18 (st94 hs) (by decide) rfl (sp94_2 hs) ?_
        refine xe_iload dX8_agree_35 rfl ?_
        refine xn_ialdv dX8_agree_37 (st97 hs) (by omega) (by decide) (v := ((q_I h 97) i_)) (rfl) ?_
        refine xe_iload dX8_agree_38 rfl ?_
        refine xe_icmp_eq (tgt := 45) dX8_agree_40 rfl (fun c4 => ?_) (fun c4 => ?_)
        · refine xn_iinc dX8_agree_45 rfl kc_1 ?_
          refine xe_goto (tgt := 3) dX8_agree_48 rfl ?_
          exact xe_fin (K1 () (q_all_s e1 (decide_eq_true (c4.trans (if_neg (fun q => c3 (of_decide_eq_true q))).symm)))) (And.intro rfl (And.intro rfl (And.intro rfl (And.intro rfl (And.intro rfl trivial))))) rfl
        · refine xe_iconst dX8_agree_43 kc_0 ?_
          refine xe_ireturn dX8_agree_44 rfl (by first | rfl | decide +kernel) ?_
          have c := q_all_f (P := q_agr (q_I h 97) (q_I h 95) to x) hi_ (decide_eq_false (fun q => c4 (q.trans (if_neg (fun q => c3 (of_decide_eq_true q))))))
          exact ⟨congrArg (fun v => some (Value.int (q_bv v))) c.symm, rfl⟩
      · refine xe_iload_n dX8_agree_24 rfl ?_
        refine xe_goto (tgt := 29) dX8_agree_25 rfl ?_
        refine xe_istore dX8_agree_29 (by decide) rfl ?_
        refine xe_aload_n dX8_agree_31 rfl ?_
        refine xe_getP dX8_agree_32 flX8_18 (st94 hs) (by decide) rfl (sp94_2 hs) ?_
        refine xe_iload dX8_agree_35 rfl ?_
        refine xn_ialdv dX8_agree_37 (st97 hs) (by omega) (by decide) (v := ((q_I h 97) i_)) (rfl) ?_
        refine xe_iload dX8_agree_38 rfl ?_
        refine xe_icmp_eq (tgt := 45) dX8_agree_40 rfl (fun c5 => ?_) (fun c5 => ?_)
        · refine xn_iinc dX8_agree_45 rfl kc_1 ?_
          refine xe_goto (tgt := 3) dX8_agree_48 rfl ?_
          exact xe_fin (K1 () (q_all_s e1 (decide_eq_true (c5.trans (if_pos (decide_eq_true c3)).symm)))) (And.intro rfl (And.intro rfl (And.intro rfl (And.intro rfl (And.intro rfl trivial))))) rfl
        · refine xe_iconst dX8_agree_43 kc_0 ?_
          refine xe_ireturn dX8_agree_44 rfl (by first | rfl | decide +kernel) ?_
          have c := q_all_f (P := q_agr (q_I h 97) (q_I h 95) to x) hi_ (decide_eq_false (fun q => c5 (q.trans (if_pos (decide_eq_true c3)))))
          exact ⟨congrArg (fun v => some (Value.int (q_bv v))) c.symm, rfl⟩
  · refine xe_iload dX8_agree_3 rfl ?_
    refine xe_iload_n dX8_agree_5 rfl ?_
    refine xn_icmp_ge (tgt := 51) dX8_agree_6 rfl (by omega) (by omega) (fun c6 => ?_) (fun c6 => ?_)
    · refine xe_iconst dX8_agree_51 kc_1 ?_
      refine xe_ireturn dX8_agree_52 rfl (by first | rfl | decide +kernel) ?_
      exact ⟨congrArg (fun v => some (Value.int (q_bv v))) e1.symm, rfl⟩
    · omega
theorem c_X8_lookAt (l : Launch) (g : q_GP) (h : q_H) (hs : q_Stat h) {k : Nat} (hk : k ≤ 20) : q_Ct l g 1 mX8_lookAt [.ref 94, .ref 34, .int (nI k)] h (fun r h1 => r = none ∧ ∃ M, h1 = q_wI h 97 M ∧ ∀ i, i < k → M i = q_ms (q_cr h) (q_I h 95 i) (q_I h 96 i) 8) := by
  refine q_CtV mvX8_lookAt (Nat.le_of_ble_eq_true rfl) ?_
  refine xe_iconst dX8_lookAt_0 kc_0 ?_
  refine xe_istore_n (i := 3) dX8_lookAt_1 rfl (by decide) rfl ?_
  refine xe_fin (L' := (fun (i_ : Nat) (s1 : (Nat → Int32)) => [(0, .ref 94), (1, .ref 34), (2, .int (nI k)), (3, .int (nI i_))]) 0 (q_I h 97)) (h' := (fun (i_ : Nat) (s1 : (Nat → Int32)) => (q_wI h 97 s1)) 0 (q_I h 97)) ?_ (And.intro rfl (And.intro rfl (And.intro rfl (And.intro rfl trivial)))) (q_heq [97] (H := h) (by repeat (first | exact q_out_r | refine q_out_w rfl ?_)) (by repeat (first | exact q_out_r | refine q_out_w rfl ?_)) (And.intro rfl trivial))
  refine xe_loopI (σ := (Nat → Int32)) (k) (fun i s => ∀ j, j < i → s j = q_ms (q_cr h) (q_I h 95 j) (q_I h 96 j) 8) (fun (i_ : Nat) (s1 : (Nat → Int32)) => [(0, .ref 94), (1, .ref 34), (2, .int (nI k)), (3, .int (nI i_))]) (fun (i_ : Nat) (s1 : (Nat → Int32)) => (q_wI h 97 s1)) (q_I h 97) (fun _ q => absurd q (Nat.not_lt_zero _)) (fun i_ hi_ s1 e1 K1 => ?_) (fun s1 e1 => ?_)
  · refine xe_iload_n dX8_lookAt_2 rfl ?_
    refine xe_iload_n dX8_lookAt_3 rfl ?_
    refine xn_icmp_ge (tgt := 85) dX8_lookAt_4 rfl (by omega) (by omega) (fun c2 => ?_) (fun c2 => ?_)
    · omega
    · refine xe_aload_n dX8_lookAt_7 rfl ?_
      refine xe_getP dX8_lookAt_8 flX8_18 (st94 hs) (by decide) rfl (sp94_2 hs) ?_
      refine xe_iload_n dX8_lookAt_11 rfl ?_
      refine xe_aload_n dX8_lookAt_12 rfl ?_
      refine xe_getP dX8_lookAt_13 flX8_15 (st94 hs) (by decide) rfl (sp94_1 hs) ?_
      refine xe_iload_n dX8_lookAt_16 rfl ?_
      refine xn_ialdv dX8_lookAt_17 (st96 hs) (by omega) (by decide) (v := ((q_I h 96) i_)) (rfl) ?_
      refine xn_iast dX8_lookAt_18 (st97 hs) (by omega) (by decide) ?_
      refine xe_iconst dX8_lookAt_19 kc_0 ?_
      refine xe_istore dX8_lookAt_20 (by decide) rfl ?_
      refine xe_fin (L' := (fun (g_ : Nat) (s3 : (Nat → Int32)) => [(0, .ref 94), (1, .ref 34), (2, .int (nI k)), (3, .int (nI i_)), (4, .int (nI g_))]) 0 (upd s1 i_ ((q_I h 96) i_))) (h' := (fun (g_ : Nat) (s3 : (Nat → Int32)) => (q_wI h 97 s3)) 0 (upd s1 i_ ((q_I h 96) i_))) ?_ (And.intro rfl (And.intro rfl (And.intro rfl (And.intro rfl (And.intro rfl trivial))))) (q_heq [97] (H := h) (by repeat (first | exact q_out_r | refine q_out_w rfl ?_)) (by repeat (first | exact q_out_r | refine q_out_w rfl ?_)) (And.intro rfl trivial))
      refine xe_loopI (σ := (Nat → Int32)) (8) (fun g s => s i_ = q_ms (q_cr h) (q_I h 95 i_) (q_I h 96 i_) g ∧ ∀ j, j < i_ → s j = q_ms (q_cr h) (q_I h 95 j) (q_I h 96 j) 8) (fun (g_ : Nat) (s3 : (Nat → Int32)) => [(0, .ref 94), (1, .ref 34), (2, .int (nI k)), (3, .int (nI i_)), (4, .int (nI g_))]) (fun (g_ : Nat) (s3 : (Nat → Int32)) => (q_wI h 97 s3)) (upd s1 i_ ((q_I h 96) i_)) (⟨pk_us, fun j q => (pk_un (by omega)).trans (e1 j q)⟩) (fun g_ hg_ s3 e3 K3 => ?_) (fun s3 e3 => ?_)
      · refine xe_iload dX8_lookAt_22 rfl ?_
        refine xe_bipush dX8_lookAt_24 kb_8 ?_
        refine xn_icmp_ge (tgt := 79) dX8_lookAt_26 rfl (by omega) (by omega) (fun c4 => ?_) (fun c4 => ?_)
        · omega
        · refine xe_aload_n dX8_lookAt_29 rfl ?_
          refine xe_getP dX8_lookAt_30 flX8_9 (st94 hs) (by decide) rfl (sp94_0 hs) ?_
          refine xe_iload_n dX8_lookAt_33 rfl ?_
          refine xn_ialdv dX8_lookAt_34 (st95 hs) (by omega) (by decide) (v := ((q_I h 95) i_)) (rfl) ?_
          refine xe_iload dX8_lookAt_35 rfl ?_
          refine xe_ishr dX8_lookAt_37 ?_
          refine xe_iconst dX8_lookAt_38 kc_1 ?_
          refine xe_iand dX8_lookAt_39 ?_
          refine xe_iconst dX8_lookAt_40 kc_1 ?_
          refine xe_icmp_ne (tgt := 73) dX8_lookAt_41 rfl (fun c5 => ?_) (fun c5 => ?_)
          · refine xn_iinc dX8_lookAt_73 rfl kc_1 ?_
            refine xe_goto (tgt := 22) dX8_lookAt_76 rfl ?_
            exact xe_fin (K3 s3 (⟨e3.1.trans (if_neg (fun q => c5 (of_decide_eq_true q))).symm, e3.2⟩)) (And.intro rfl (And.intro rfl (And.intro rfl (And.intro rfl (And.intro rfl trivial))))) (q_heq [97] (H := h) (by repeat (first | exact q_out_r | refine q_out_w rfl ?_)) (by repeat (first | exact q_out_r | refine q_out_w rfl ?_)) (And.intro rfl trivial))
          · refine xe_aload_n dX8_lookAt_44 rfl ?_
            refine xe_getP dX8_lookAt_45 flX8_18 (st94 hs) (by decide) rfl (sp94_2 hs) ?_
            refine xe_iload_n dX8_lookAt_48 rfl ?_
            refine xe_dup2 dX8_lookAt_49 rfl rfl ?_
            refine xn_ialdv dX8_lookAt_50 (st97 hs) (by omega) (by decide) (v := (q_ms (q_cr h) (q_I h 95 i_) (q_I h 96 i_) g_)) (e3.1) ?_
            refine xe_aload_n dX8_lookAt_51 rfl ?_
            refine xe_iload dX8_lookAt_52 rfl ?_
            refine xe_callVI (d' := 0) (y' := mX6_inRow) dX8_lookAt_54 mlX8_21 mvX6_inRow rfl (st34 hs) (by decide) rfl (by decide) (by decide) (Nat.le_of_ble_eq_true rfl) (c_X6_inRow l g _ (by exact hs) _ (by omega)) rfl ?_
            refine xe_top (v' := q_s8 (q_cr h) (8 * g_)) (q_cr_in h (by omega)) ?_
            refine xe_aload_n dX8_lookAt_57 rfl ?_
            refine xe_getP dX8_lookAt_58 flX8_27 (st34 hs) (by decide) rfl (sp34_0 hs) ?_
            refine xe_iload dX8_lookAt_61 rfl ?_
            refine xe_bipush dX8_lookAt_63 kb_8 ?_
            refine xn_imul dX8_lookAt_65 ?_
            refine xe_iload dX8_lookAt_66 rfl ?_
            refine xn_iadd dX8_lookAt_68 ?_
            refine xn_ialdv dX8_lookAt_69 (st35 hs) (by omega) (by decide) (v := (q_cr h (9 * g_))) (q_cr_9 h (by omega)) ?_
            refine xe_isub dX8_lookAt_70 ?_
            refine xe_isub dX8_lookAt_71 ?_
            refine xn_iast dX8_lookAt_72 (st97 hs) (by omega) (by decide) ?_
            refine xn_iinc dX8_lookAt_73 rfl kc_1 ?_
            refine xe_goto (tgt := 22) dX8_lookAt_76 rfl ?_
            exact xe_fin (K3 (upd s3 i_ ((q_ms (q_cr h) (q_I h 95 i_) (q_I h 96 i_) g_) - ((q_s8 (q_cr h) (8 * g_)) - (q_cr h (9 * g_))))) (⟨pk_us.trans (if_pos (decide_eq_true c5)).symm, fun j q => (pk_un (by omega)).trans (e3.2 j q)⟩)) (And.intro rfl (And.intro rfl (And.intro rfl (And.intro rfl (And.intro rfl trivial))))) (q_heq [97] (H := h) (by repeat (first | exact q_out_r | refine q_out_w rfl ?_)) (by repeat (first | exact q_out_r | refine q_out_w rfl ?_)) (And.intro rfl trivial))
      · refine xe_iload dX8_lookAt_22 rfl ?_
        refine xe_bipush dX8_lookAt_24 kb_8 ?_
        refine xn_icmp_ge (tgt := 79) dX8_lookAt_26 rfl (by omega) (by omega) (fun c6 => ?_) (fun c6 => ?_)
        · refine xn_iinc dX8_lookAt_79 rfl kc_1 ?_
          refine xe_goto (tgt := 2) dX8_lookAt_82 rfl ?_
          exact xe_fin (K1 s3 (fun j q => if e : j = i_ then by subst e; exact e3.1 else e3.2 j (by omega))) (And.intro rfl (And.intro rfl (And.intro rfl (And.intro rfl trivial)))) (q_heq [97] (H := h) (by repeat (first | exact q_out_r | refine q_out_w rfl ?_)) (by repeat (first | exact q_out_r | refine q_out_w rfl ?_)) (And.intro rfl trivial))
        · omega
  · refine xe_iload_n dX8_lookAt_2 rfl ?_
    refine xe_iload_n dX8_lookAt_3 rfl ?_
    refine xn_icmp_ge (tgt := 85) dX8_lookAt_4 rfl (by omega) (by omega) (fun c7 => ?_) (fun c7 => ?_)
    · refine xe_return dX8_lookAt_85 rfl ?_
      exact ⟨rfl, _, rfl, e1⟩
    · omega
theorem c_X9_tell_t (l : Launch) (g : q_GP) (h : q_H) (hs : q_Stat h) {p nm nd nc mo n : Nat} (hp : rk_P h p nm nd nc mo n) {t : Nat} (ht : q_I h 94 3 = nI t) (ht2 : t ≤ 20) (s k : Nat) (hs1 : 1 ≤ s) (hs2 : s ≤ 2 ^ nm - 1) (hk : k ≤ 9999) (ht3 : t < 20) : q_Cd l g 0 mX9_tell [.ref 0, .int (nI s), .int (nI k)] h (some (.int (nI t))) (q_wI (q_wI (q_wI h 94 (upd (q_I h 94) 3 (nI (t + 1)))) 95 (upd (q_I h 95) t (nI s))) 96 (upd (q_I h 96) t (nI k))) := by
  have hpw0 : 0 < 2 ^ nm := Nat.pow_pos (by decide)
  obtain ⟨P0, P1, P2, P2b, P3, P3b, P4, P4b, P5, P5b, P6, P6b⟩ := id hp
  rcases P1 with rfl | rfl
  · refine q_CdV mvX9_tell (Nat.le_of_ble_eq_true rfl) ?_
    have hpw := q_pow_le P3b
    refine xe_iload_n dX9_tell_0 rfl ?_
    refine xe_iconst dX9_tell_1 kc_1 ?_
    refine xn_icmp_lt (tgt := 22) dX9_tell_2 rfl (by omega) (by omega) (fun c1 => ?_) (fun c1 => ?_)
    · omega
    · refine xe_iload_n dX9_tell_5 rfl ?_
      refine xe_iconst dX9_tell_6 kc_1 ?_
      refine xe_aload_n dX9_tell_7 rfl ?_
      refine xe_getP dX9_tell_8 flX9_26 (st0 hs) (by decide) rfl P0 ?_
      refine xe_getIv dX9_tell_11 flX9_117 (st10 hs) (by decide) rfl (v := nI nm) (P3) ?_
      refine xe_ishl dX9_tell_14 ?_
      refine xe_top (v' := nI (2 ^ nm)) (q_pow_nm nm P3b) ?_
      refine xn_icmp_ge (tgt := 22) dX9_tell_15 rfl (by omega) (by omega) (fun c2 => ?_) (fun c2 => ?_)
      · omega
      · refine xe_iconst dX9_tell_18 kc_1 ?_
        refine xe_goto (tgt := 23) dX9_tell_19 rfl ?_
        refine xe_istore_n (i := 3) dX9_tell_23 rfl (by decide) rfl ?_
        refine xe_iload_n dX9_tell_24 rfl ?_
        refine xn_if_eq (tgt := 51) dX9_tell_25 rfl (by omega) (fun c3 => ?_) (fun c3 => ?_)
        · omega
        · refine xe_iload_n dX9_tell_28 rfl ?_
          refine xn_if_lt (tgt := 51) dX9_tell_29 rfl (by omega) ?_
          refine xe_iload_n dX9_tell_32 rfl ?_
          refine xe_sipush dX9_tell_33 ks_9999 ?_
          refine xn_icmp_gt (tgt := 51) dX9_tell_36 rfl (by omega) (by omega) (fun c5 => ?_) (fun c5 => ?_)
          · omega
          · refine xe_aload_n dX9_tell_39 rfl ?_
            refine xe_getP dX9_tell_40 flX9_58 (st0 hs) (by decide) rfl (sp0_8 hs) ?_
            refine xe_getIv dX9_tell_43 flX9_127 (st94 hs) (by decide) rfl (v := nI t) (ht) ?_
            refine xe_bipush dX9_tell_46 kb_20 ?_
            refine xn_icmp_lt (tgt := 53) dX9_tell_48 rfl (by omega) (by omega) (fun c6 => ?_) (fun c6 => ?_)
            · refine xe_aload_n dX9_tell_53 rfl ?_
              refine xe_getP dX9_tell_54 flX9_58 (st0 hs) (by decide) rfl (sp0_8 hs) ?_
              refine xe_getP dX9_tell_57 flX9_351 (st94 hs) (by decide) rfl (sp94_0 hs) ?_
              refine xe_aload_n dX9_tell_60 rfl ?_
              refine xe_getP dX9_tell_61 flX9_58 (st0 hs) (by decide) rfl (sp0_8 hs) ?_
              refine xe_getIv dX9_tell_64 flX9_127 (st94 hs) (by decide) rfl (v := nI t) (ht) ?_
              refine xe_iload_n dX9_tell_67 rfl ?_
              refine xn_iast dX9_tell_68 (st95 hs) (by omega) (by decide) ?_
              refine xe_aload_n dX9_tell_69 rfl ?_
              refine xe_getP dX9_tell_70 flX9_58 (st0 hs) (by decide) rfl (sp0_8 hs) ?_
              refine xe_getP dX9_tell_73 flX9_354 (st94 hs) (by decide) rfl (sp94_1 hs) ?_
              refine xe_aload_n dX9_tell_76 rfl ?_
              refine xe_getP dX9_tell_77 flX9_58 (st0 hs) (by decide) rfl (sp0_8 hs) ?_
              refine xe_getIv dX9_tell_80 flX9_127 (st94 hs) (by decide) rfl (v := nI t) (ht) ?_
              refine xe_iload_n dX9_tell_83 rfl ?_
              refine xn_iast dX9_tell_84 (st96 hs) (by omega) (by decide) ?_
              refine xe_aload_n dX9_tell_85 rfl ?_
              refine xe_getP dX9_tell_86 flX9_58 (st0 hs) (by decide) rfl (sp0_8 hs) ?_
              refine xe_dup dX9_tell_89 rfl ?_
              refine xe_getIv dX9_tell_90 flX9_127 (st94 hs) (by decide) rfl (v := nI t) (ht) ?_
              refine xe_iconst dX9_tell_93 kc_1 ?_
              refine xn_iadd dX9_tell_94 ?_
              refine xe_putI dX9_tell_95 flX9_127 (st94 hs) (by decide) rfl (Or.inl rfl) rfl rfl ?_
              refine xe_aload_n dX9_tell_98 rfl ?_
              refine xe_getP dX9_tell_99 flX9_58 (st0 hs) (by decide) rfl (sp0_8 hs) ?_
              refine xe_getIv dX9_tell_102 flX9_127 (st94 hs) (by decide) rfl (v := nI (t + 1)) (rfl) ?_
              refine xe_iconst dX9_tell_105 kc_1 ?_
              refine xn_isub dX9_tell_106 (by omega) ?_
              refine xe_ireturn dX9_tell_107 rfl (by first | rfl | decide +kernel) ?_
              exact ⟨rfl, (q_heq [94, 95, 96] (H := h) (by repeat (first | exact q_out_r | refine q_out_w rfl ?_)) (by repeat (first | exact q_out_r | refine q_out_w rfl ?_)) (And.intro (q_feq [3] (f := q_I h 94) (by repeat (first | exact q_fout_r | refine q_fout_w rfl ?_)) (by repeat (first | exact q_fout_r | refine q_fout_w rfl ?_)) (And.intro rfl trivial)) (And.intro rfl (And.intro rfl trivial))))⟩
            · omega
  · refine q_CdV mvX9_tell (Nat.le_of_ble_eq_true rfl) ?_
    have hpw := q_pow_le P3b
    refine xe_iload_n dX9_tell_0 rfl ?_
    refine xe_iconst dX9_tell_1 kc_1 ?_
    refine xn_icmp_lt (tgt := 22) dX9_tell_2 rfl (by omega) (by omega) (fun c1 => ?_) (fun c1 => ?_)
    · omega
    · refine xe_iload_n dX9_tell_5 rfl ?_
      refine xe_iconst dX9_tell_6 kc_1 ?_
      refine xe_aload_n dX9_tell_7 rfl ?_
      refine xe_getP dX9_tell_8 flX9_26 (st0 hs) (by decide) rfl P0 ?_
      refine xe_getIv dX9_tell_11 flX9_117 (st22 hs) (by decide) rfl (v := nI nm) (P3) ?_
      refine xe_ishl dX9_tell_14 ?_
      refine xe_top (v' := nI (2 ^ nm)) (q_pow_nm nm P3b) ?_
      refine xn_icmp_ge (tgt := 22) dX9_tell_15 rfl (by omega) (by omega) (fun c2 => ?_) (fun c2 => ?_)
      · omega
      · refine xe_iconst dX9_tell_18 kc_1 ?_
        refine xe_goto (tgt := 23) dX9_tell_19 rfl ?_
        refine xe_istore_n (i := 3) dX9_tell_23 rfl (by decide) rfl ?_
        refine xe_iload_n dX9_tell_24 rfl ?_
        refine xn_if_eq (tgt := 51) dX9_tell_25 rfl (by omega) (fun c3 => ?_) (fun c3 => ?_)
        · omega
        · refine xe_iload_n dX9_tell_28 rfl ?_
          refine xn_if_lt (tgt := 51) dX9_tell_29 rfl (by omega) ?_
          refine xe_iload_n dX9_tell_32 rfl ?_
          refine xe_sipush dX9_tell_33 ks_9999 ?_
          refine xn_icmp_gt (tgt := 51) dX9_tell_36 rfl (by omega) (by omega) (fun c5 => ?_) (fun c5 => ?_)
          · omega
          · refine xe_aload_n dX9_tell_39 rfl ?_
            refine xe_getP dX9_tell_40 flX9_58 (st0 hs) (by decide) rfl (sp0_8 hs) ?_
            refine xe_getIv dX9_tell_43 flX9_127 (st94 hs) (by decide) rfl (v := nI t) (ht) ?_
            refine xe_bipush dX9_tell_46 kb_20 ?_
            refine xn_icmp_lt (tgt := 53) dX9_tell_48 rfl (by omega) (by omega) (fun c6 => ?_) (fun c6 => ?_)
            · refine xe_aload_n dX9_tell_53 rfl ?_
              refine xe_getP dX9_tell_54 flX9_58 (st0 hs) (by decide) rfl (sp0_8 hs) ?_
              refine xe_getP dX9_tell_57 flX9_351 (st94 hs) (by decide) rfl (sp94_0 hs) ?_
              refine xe_aload_n dX9_tell_60 rfl ?_
              refine xe_getP dX9_tell_61 flX9_58 (st0 hs) (by decide) rfl (sp0_8 hs) ?_
              refine xe_getIv dX9_tell_64 flX9_127 (st94 hs) (by decide) rfl (v := nI t) (ht) ?_
              refine xe_iload_n dX9_tell_67 rfl ?_
              refine xn_iast dX9_tell_68 (st95 hs) (by omega) (by decide) ?_
              refine xe_aload_n dX9_tell_69 rfl ?_
              refine xe_getP dX9_tell_70 flX9_58 (st0 hs) (by decide) rfl (sp0_8 hs) ?_
              refine xe_getP dX9_tell_73 flX9_354 (st94 hs) (by decide) rfl (sp94_1 hs) ?_
              refine xe_aload_n dX9_tell_76 rfl ?_
              refine xe_getP dX9_tell_77 flX9_58 (st0 hs) (by decide) rfl (sp0_8 hs) ?_
              refine xe_getIv dX9_tell_80 flX9_127 (st94 hs) (by decide) rfl (v := nI t) (ht) ?_
              refine xe_iload_n dX9_tell_83 rfl ?_
              refine xn_iast dX9_tell_84 (st96 hs) (by omega) (by decide) ?_
              refine xe_aload_n dX9_tell_85 rfl ?_
              refine xe_getP dX9_tell_86 flX9_58 (st0 hs) (by decide) rfl (sp0_8 hs) ?_
              refine xe_dup dX9_tell_89 rfl ?_
              refine xe_getIv dX9_tell_90 flX9_127 (st94 hs) (by decide) rfl (v := nI t) (ht) ?_
              refine xe_iconst dX9_tell_93 kc_1 ?_
              refine xn_iadd dX9_tell_94 ?_
              refine xe_putI dX9_tell_95 flX9_127 (st94 hs) (by decide) rfl (Or.inl rfl) rfl rfl ?_
              refine xe_aload_n dX9_tell_98 rfl ?_
              refine xe_getP dX9_tell_99 flX9_58 (st0 hs) (by decide) rfl (sp0_8 hs) ?_
              refine xe_getIv dX9_tell_102 flX9_127 (st94 hs) (by decide) rfl (v := nI (t + 1)) (rfl) ?_
              refine xe_iconst dX9_tell_105 kc_1 ?_
              refine xn_isub dX9_tell_106 (by omega) ?_
              refine xe_ireturn dX9_tell_107 rfl (by first | rfl | decide +kernel) ?_
              exact ⟨rfl, (q_heq [94, 95, 96] (H := h) (by repeat (first | exact q_out_r | refine q_out_w rfl ?_)) (by repeat (first | exact q_out_r | refine q_out_w rfl ?_)) (And.intro (q_feq [3] (f := q_I h 94) (by repeat (first | exact q_fout_r | refine q_fout_w rfl ?_)) (by repeat (first | exact q_fout_r | refine q_fout_w rfl ?_)) (And.intro rfl trivial)) (And.intro rfl (And.intro rfl trivial))))⟩
            · omega
theorem c_X9_tell_20 (l : Launch) (g : q_GP) (h : q_H) (hs : q_Stat h) {p nm nd nc mo n : Nat} (hp : rk_P h p nm nd nc mo n) (x z : Int32) (ht : q_I h 94 3 = nI 20) : q_Cd l g 0 mX9_tell [.ref 0, .int x, .int z] h (some (.int (-1))) h := by
  have hpw0 : 0 < 2 ^ nm := Nat.pow_pos (by decide)
  obtain ⟨P0, P1, P2, P2b, P3, P3b, P4, P4b, P5, P5b, P6, P6b⟩ := id hp
  rcases P1 with rfl | rfl
  · refine q_CdV mvX9_tell (Nat.le_of_ble_eq_true rfl) ?_
    have hpw := q_pow_le P3b
    refine xe_iload_n dX9_tell_0 rfl ?_
    refine xe_iconst dX9_tell_1 kc_1 ?_
    refine xe_icmp_lt (tgt := 22) dX9_tell_2 rfl (fun c1 => ?_) (fun c1 => ?_)
    · refine xe_iconst dX9_tell_22 kc_0 ?_
      refine xe_istore_n (i := 3) dX9_tell_23 rfl (by decide) rfl ?_
      refine xe_iload_n dX9_tell_24 rfl ?_
      refine xn_if_eq (tgt := 51) dX9_tell_25 rfl (by omega) (fun c2 => ?_) (fun c2 => ?_)
      · refine xe_iconst dX9_tell_51 kc_m1 ?_
        refine xe_ireturn dX9_tell_52 rfl (by first | rfl | decide +kernel) ?_
        exact ⟨rfl, rfl⟩
      · omega
    · refine xe_iload_n dX9_tell_5 rfl ?_
      refine xe_iconst dX9_tell_6 kc_1 ?_
      refine xe_aload_n dX9_tell_7 rfl ?_
      refine xe_getP dX9_tell_8 flX9_26 (st0 hs) (by decide) rfl P0 ?_
      refine xe_getIv dX9_tell_11 flX9_117 (st10 hs) (by decide) rfl (v := nI nm) (P3) ?_
      refine xe_ishl dX9_tell_14 ?_
      refine xe_top (v' := nI (2 ^ nm)) (q_pow_nm nm P3b) ?_
      refine xe_icmp_ge (tgt := 22) dX9_tell_15 rfl (fun c3 => ?_) (fun c3 => ?_)
      · refine xe_iconst dX9_tell_22 kc_0 ?_
        refine xe_istore_n (i := 3) dX9_tell_23 rfl (by decide) rfl ?_
        refine xe_iload_n dX9_tell_24 rfl ?_
        refine xn_if_eq (tgt := 51) dX9_tell_25 rfl (by omega) (fun c4 => ?_) (fun c4 => ?_)
        · refine xe_iconst dX9_tell_51 kc_m1 ?_
          refine xe_ireturn dX9_tell_52 rfl (by first | rfl | decide +kernel) ?_
          exact ⟨rfl, rfl⟩
        · omega
      · refine xe_iconst dX9_tell_18 kc_1 ?_
        refine xe_goto (tgt := 23) dX9_tell_19 rfl ?_
        refine xe_istore_n (i := 3) dX9_tell_23 rfl (by decide) rfl ?_
        refine xe_iload_n dX9_tell_24 rfl ?_
        refine xn_if_eq (tgt := 51) dX9_tell_25 rfl (by omega) (fun c5 => ?_) (fun c5 => ?_)
        · omega
        · refine xe_iload_n dX9_tell_28 rfl ?_
          refine xe_if_lt (tgt := 51) dX9_tell_29 rfl (fun c6 => ?_) (fun c6 => ?_)
          · refine xe_iconst dX9_tell_51 kc_m1 ?_
            refine xe_ireturn dX9_tell_52 rfl (by first | rfl | decide +kernel) ?_
            exact ⟨rfl, rfl⟩
          · refine xe_iload_n dX9_tell_32 rfl ?_
            refine xe_sipush dX9_tell_33 ks_9999 ?_
            refine xe_icmp_gt (tgt := 51) dX9_tell_36 rfl (fun c7 => ?_) (fun c7 => ?_)
            · refine xe_iconst dX9_tell_51 kc_m1 ?_
              refine xe_ireturn dX9_tell_52 rfl (by first | rfl | decide +kernel) ?_
              exact ⟨rfl, rfl⟩
            · refine xe_aload_n dX9_tell_39 rfl ?_
              refine xe_getP dX9_tell_40 flX9_58 (st0 hs) (by decide) rfl (sp0_8 hs) ?_
              refine xe_getIv dX9_tell_43 flX9_127 (st94 hs) (by decide) rfl (v := nI 20) (ht) ?_
              refine xe_bipush dX9_tell_46 kb_20 ?_
              refine xn_icmp_lt (tgt := 53) dX9_tell_48 rfl (by omega) (by omega) (fun c8 => ?_) (fun c8 => ?_)
              · omega
              · refine xe_iconst dX9_tell_51 kc_m1 ?_
                refine xe_ireturn dX9_tell_52 rfl (by first | rfl | decide +kernel) ?_
                exact ⟨rfl, rfl⟩
  · refine q_CdV mvX9_tell (Nat.le_of_ble_eq_true rfl) ?_
    have hpw := q_pow_le P3b
    refine xe_iload_n dX9_tell_0 rfl ?_
    refine xe_iconst dX9_tell_1 kc_1 ?_
    refine xe_icmp_lt (tgt := 22) dX9_tell_2 rfl (fun c1 => ?_) (fun c1 => ?_)
    · refine xe_iconst dX9_tell_22 kc_0 ?_
      refine xe_istore_n (i := 3) dX9_tell_23 rfl (by decide) rfl ?_
      refine xe_iload_n dX9_tell_24 rfl ?_
      refine xn_if_eq (tgt := 51) dX9_tell_25 rfl (by omega) (fun c2 => ?_) (fun c2 => ?_)
      · refine xe_iconst dX9_tell_51 kc_m1 ?_
        refine xe_ireturn dX9_tell_52 rfl (by first | rfl | decide +kernel) ?_
        exact ⟨rfl, rfl⟩
      · omega
    · refine xe_iload_n dX9_tell_5 rfl ?_
      refine xe_iconst dX9_tell_6 kc_1 ?_
      refine xe_aload_n dX9_tell_7 rfl ?_
      refine xe_getP dX9_tell_8 flX9_26 (st0 hs) (by decide) rfl P0 ?_
      refine xe_getIv dX9_tell_11 flX9_117 (st22 hs) (by decide) rfl (v := nI nm) (P3) ?_
      refine xe_ishl dX9_tell_14 ?_
      refine xe_top (v' := nI (2 ^ nm)) (q_pow_nm nm P3b) ?_
      refine xe_icmp_ge (tgt := 22) dX9_tell_15 rfl (fun c3 => ?_) (fun c3 => ?_)
      · refine xe_iconst dX9_tell_22 kc_0 ?_
        refine xe_istore_n (i := 3) dX9_tell_23 rfl (by decide) rfl ?_
        refine xe_iload_n dX9_tell_24 rfl ?_
        refine xn_if_eq (tgt := 51) dX9_tell_25 rfl (by omega) (fun c4 => ?_) (fun c4 => ?_)
        · refine xe_iconst dX9_tell_51 kc_m1 ?_
          refine xe_ireturn dX9_tell_52 rfl (by first | rfl | decide +kernel) ?_
          exact ⟨rfl, rfl⟩
        · omega
      · refine xe_iconst dX9_tell_18 kc_1 ?_
        refine xe_goto (tgt := 23) dX9_tell_19 rfl ?_
        refine xe_istore_n (i := 3) dX9_tell_23 rfl (by decide) rfl ?_
        refine xe_iload_n dX9_tell_24 rfl ?_
        refine xn_if_eq (tgt := 51) dX9_tell_25 rfl (by omega) (fun c5 => ?_) (fun c5 => ?_)
        · omega
        · refine xe_iload_n dX9_tell_28 rfl ?_
          refine xe_if_lt (tgt := 51) dX9_tell_29 rfl (fun c6 => ?_) (fun c6 => ?_)
          · refine xe_iconst dX9_tell_51 kc_m1 ?_
            refine xe_ireturn dX9_tell_52 rfl (by first | rfl | decide +kernel) ?_
            exact ⟨rfl, rfl⟩
          · refine xe_iload_n dX9_tell_32 rfl ?_
            refine xe_sipush dX9_tell_33 ks_9999 ?_
            refine xe_icmp_gt (tgt := 51) dX9_tell_36 rfl (fun c7 => ?_) (fun c7 => ?_)
            · refine xe_iconst dX9_tell_51 kc_m1 ?_
              refine xe_ireturn dX9_tell_52 rfl (by first | rfl | decide +kernel) ?_
              exact ⟨rfl, rfl⟩
            · refine xe_aload_n dX9_tell_39 rfl ?_
              refine xe_getP dX9_tell_40 flX9_58 (st0 hs) (by decide) rfl (sp0_8 hs) ?_
              refine xe_getIv dX9_tell_43 flX9_127 (st94 hs) (by decide) rfl (v := nI 20) (ht) ?_
              refine xe_bipush dX9_tell_46 kb_20 ?_
              refine xn_icmp_lt (tgt := 53) dX9_tell_48 rfl (by omega) (by omega) (fun c8 => ?_) (fun c8 => ?_)
              · omega
              · refine xe_iconst dX9_tell_51 kc_m1 ?_
                refine xe_ireturn dX9_tell_52 rfl (by first | rfl | decide +kernel) ?_
                exact ⟨rfl, rfl⟩
theorem q_rng1 {x : Int32} {a b : Nat} (h0 : nI a ≤ x) (h1 : x < nI b) (hb : b < 2 ^ 31) (ha : a < 2 ^ 31) : ∃ k, a ≤ k ∧ k ≤ b - 1 ∧ x = nI k := by
  obtain ⟨k, hk, rfl⟩ := nI_of (x := x) (fun q => absurd (Int32.lt_of_le_of_lt h0 q) (nI_pos ha))
  have := (nI_leI ha hk).mp h0
  have := (nI_ltI hk hb).mp h1
  exact ⟨k, by omega, by omega, rfl⟩
theorem c_X9_tell_f (l : Launch) (g : q_GP) (h : q_H) (hs : q_Stat h) {p nm nd nc mo n : Nat} (hp : rk_P h p nm nd nc mo n) {t : Nat} (ht : q_I h 94 3 = nI t) (ht2 : t ≤ 20) (x z : Int32) (hx : ¬ ∃ k, 1 ≤ k ∧ k ≤ 2 ^ nm - 1 ∧ x = nI k) : q_Cd l g 0 mX9_tell [.ref 0, .int x, .int z] h (some (.int (-1))) h := by
  have hpw0 : 0 < 2 ^ nm := Nat.pow_pos (by decide)
  obtain ⟨P0, P1, P2, P2b, P3, P3b, P4, P4b, P5, P5b, P6, P6b⟩ := id hp
  rcases P1 with rfl | rfl
  · refine q_CdV mvX9_tell (Nat.le_of_ble_eq_true rfl) ?_
    have hpw := q_pow_le P3b
    refine xe_iload_n dX9_tell_0 rfl ?_
    refine xe_iconst dX9_tell_1 kc_1 ?_
    refine xe_icmp_lt (tgt := 22) dX9_tell_2 rfl (fun c_2 => ?_) (fun c_2 => ?_)
    · refine xe_iconst dX9_tell_22 kc_0 ?_
      refine xe_istore_n (i := 3) dX9_tell_23 rfl (by decide) rfl ?_
      refine xe_iload_n dX9_tell_24 rfl ?_
      refine xn_if_eq (tgt := 51) dX9_tell_25 rfl (by omega) (fun c1 => ?_) (fun c1 => ?_)
      · refine xe_iconst dX9_tell_51 kc_m1 ?_
        refine xe_ireturn dX9_tell_52 rfl (by first | rfl | decide +kernel) ?_
        exact ⟨rfl, rfl⟩
      · omega
    · refine xe_iload_n dX9_tell_5 rfl ?_
      refine xe_iconst dX9_tell_6 kc_1 ?_
      refine xe_aload_n dX9_tell_7 rfl ?_
      refine xe_getP dX9_tell_8 flX9_26 (st0 hs) (by decide) rfl P0 ?_
      refine xe_getIv dX9_tell_11 flX9_117 (st10 hs) (by decide) rfl (v := nI nm) (P3) ?_
      refine xe_ishl dX9_tell_14 ?_
      refine xe_top (v' := nI (2 ^ nm)) (q_pow_nm nm P3b) ?_
      refine xe_icmp_ge (tgt := 22) dX9_tell_15 rfl (fun c2 => ?_) (fun c2 => ?_)
      · refine xe_iconst dX9_tell_22 kc_0 ?_
        refine xe_istore_n (i := 3) dX9_tell_23 rfl (by decide) rfl ?_
        refine xe_iload_n dX9_tell_24 rfl ?_
        refine xn_if_eq (tgt := 51) dX9_tell_25 rfl (by omega) (fun c3 => ?_) (fun c3 => ?_)
        · refine xe_iconst dX9_tell_51 kc_m1 ?_
          refine xe_ireturn dX9_tell_52 rfl (by first | rfl | decide +kernel) ?_
          exact ⟨rfl, rfl⟩
        · omega
      · exact absurd (q_rng1 (Int32.not_lt.mp c_2) (Int32.not_le.mp c2) (by omega) (by decide)) hx
  · refine q_CdV mvX9_tell (Nat.le_of_ble_eq_true rfl) ?_
    have hpw := q_pow_le P3b
    refine xe_iload_n dX9_tell_0 rfl ?_
    refine xe_iconst dX9_tell_1 kc_1 ?_
    refine xe_icmp_lt (tgt := 22) dX9_tell_2 rfl (fun c_2 => ?_) (fun c_2 => ?_)
    · refine xe_iconst dX9_tell_22 kc_0 ?_
      refine xe_istore_n (i := 3) dX9_tell_23 rfl (by decide) rfl ?_
      refine xe_iload_n dX9_tell_24 rfl ?_
      refine xn_if_eq (tgt := 51) dX9_tell_25 rfl (by omega) (fun c1 => ?_) (fun c1 => ?_)
      · refine xe_iconst dX9_tell_51 kc_m1 ?_
        refine xe_ireturn dX9_tell_52 rfl (by first | rfl | decide +kernel) ?_
        exact ⟨rfl, rfl⟩
      · omega
    · refine xe_iload_n dX9_tell_5 rfl ?_
      refine xe_iconst dX9_tell_6 kc_1 ?_
      refine xe_aload_n dX9_tell_7 rfl ?_
      refine xe_getP dX9_tell_8 flX9_26 (st0 hs) (by decide) rfl P0 ?_
      refine xe_getIv dX9_tell_11 flX9_117 (st22 hs) (by decide) rfl (v := nI nm) (P3) ?_
      refine xe_ishl dX9_tell_14 ?_
      refine xe_top (v' := nI (2 ^ nm)) (q_pow_nm nm P3b) ?_
      refine xe_icmp_ge (tgt := 22) dX9_tell_15 rfl (fun c2 => ?_) (fun c2 => ?_)
      · refine xe_iconst dX9_tell_22 kc_0 ?_
        refine xe_istore_n (i := 3) dX9_tell_23 rfl (by decide) rfl ?_
        refine xe_iload_n dX9_tell_24 rfl ?_
        refine xn_if_eq (tgt := 51) dX9_tell_25 rfl (by omega) (fun c3 => ?_) (fun c3 => ?_)
        · refine xe_iconst dX9_tell_51 kc_m1 ?_
          refine xe_ireturn dX9_tell_52 rfl (by first | rfl | decide +kernel) ?_
          exact ⟨rfl, rfl⟩
        · omega
      · exact absurd (q_rng1 (Int32.not_lt.mp c_2) (Int32.not_le.mp c2) (by omega) (by decide)) hx
theorem c_X9_tell_g (l : Launch) (g : q_GP) (h : q_H) (hs : q_Stat h) {p nm nd nc mo n : Nat} (hp : rk_P h p nm nd nc mo n) {t : Nat} (ht : q_I h 94 3 = nI t) (ht2 : t ≤ 20) (s : Nat) (z : Int32) (hs1 : 1 ≤ s) (hs2 : s ≤ 2 ^ nm - 1) (hz : ¬ ∃ k, 0 ≤ k ∧ k ≤ 9999 ∧ z = nI k) : q_Cd l g 0 mX9_tell [.ref 0, .int (nI s), .int z] h (some (.int (-1))) h := by
  have hpw0 : 0 < 2 ^ nm := Nat.pow_pos (by decide)
  obtain ⟨P0, P1, P2, P2b, P3, P3b, P4, P4b, P5, P5b, P6, P6b⟩ := id hp
  rcases P1 with rfl | rfl
  · refine q_CdV mvX9_tell (Nat.le_of_ble_eq_true rfl) ?_
    have hpw := q_pow_le P3b
    refine xe_iload_n dX9_tell_0 rfl ?_
    refine xe_iconst dX9_tell_1 kc_1 ?_
    refine xn_icmp_lt (tgt := 22) dX9_tell_2 rfl (by omega) (by omega) (fun c1 => ?_) (fun c1 => ?_)
    · omega
    · refine xe_iload_n dX9_tell_5 rfl ?_
      refine xe_iconst dX9_tell_6 kc_1 ?_
      refine xe_aload_n dX9_tell_7 rfl ?_
      refine xe_getP dX9_tell_8 flX9_26 (st0 hs) (by decide) rfl P0 ?_
      refine xe_getIv dX9_tell_11 flX9_117 (st10 hs) (by decide) rfl (v := nI nm) (P3) ?_
      refine xe_ishl dX9_tell_14 ?_
      refine xe_top (v' := nI (2 ^ nm)) (q_pow_nm nm P3b) ?_
      refine xn_icmp_ge (tgt := 22) dX9_tell_15 rfl (by omega) (by omega) (fun c2 => ?_) (fun c2 => ?_)
      · omega
      · refine xe_iconst dX9_tell_18 kc_1 ?_
        refine xe_goto (tgt := 23) dX9_tell_19 rfl ?_
        refine xe_istore_n (i := 3) dX9_tell_23 rfl (by decide) rfl ?_
        refine xe_iload_n dX9_tell_24 rfl ?_
        refine xn_if_eq (tgt := 51) dX9_tell_25 rfl (by omega) (fun c3 => ?_) (fun c3 => ?_)
        · omega
        · refine xe_iload_n dX9_tell_28 rfl ?_
          refine xe_if_lt (tgt := 51) dX9_tell_29 rfl (fun c_29 => ?_) (fun c_29 => ?_)
          · refine xe_iconst dX9_tell_51 kc_m1 ?_
            refine xe_ireturn dX9_tell_52 rfl (by first | rfl | decide +kernel) ?_
            exact ⟨rfl, rfl⟩
          · refine xe_iload_n dX9_tell_32 rfl ?_
            refine xe_sipush dX9_tell_33 ks_9999 ?_
            refine xe_icmp_gt (tgt := 51) dX9_tell_36 rfl (fun c4 => ?_) (fun c4 => ?_)
            · refine xe_iconst dX9_tell_51 kc_m1 ?_
              refine xe_ireturn dX9_tell_52 rfl (by first | rfl | decide +kernel) ?_
              exact ⟨rfl, rfl⟩
            · exact absurd (q_rng (Int32.not_lt.mp c_29) (Int32.not_lt.mp c4)) hz
  · refine q_CdV mvX9_tell (Nat.le_of_ble_eq_true rfl) ?_
    have hpw := q_pow_le P3b
    refine xe_iload_n dX9_tell_0 rfl ?_
    refine xe_iconst dX9_tell_1 kc_1 ?_
    refine xn_icmp_lt (tgt := 22) dX9_tell_2 rfl (by omega) (by omega) (fun c1 => ?_) (fun c1 => ?_)
    · omega
    · refine xe_iload_n dX9_tell_5 rfl ?_
      refine xe_iconst dX9_tell_6 kc_1 ?_
      refine xe_aload_n dX9_tell_7 rfl ?_
      refine xe_getP dX9_tell_8 flX9_26 (st0 hs) (by decide) rfl P0 ?_
      refine xe_getIv dX9_tell_11 flX9_117 (st22 hs) (by decide) rfl (v := nI nm) (P3) ?_
      refine xe_ishl dX9_tell_14 ?_
      refine xe_top (v' := nI (2 ^ nm)) (q_pow_nm nm P3b) ?_
      refine xn_icmp_ge (tgt := 22) dX9_tell_15 rfl (by omega) (by omega) (fun c2 => ?_) (fun c2 => ?_)
      · omega
      · refine xe_iconst dX9_tell_18 kc_1 ?_
        refine xe_goto (tgt := 23) dX9_tell_19 rfl ?_
        refine xe_istore_n (i := 3) dX9_tell_23 rfl (by decide) rfl ?_
        refine xe_iload_n dX9_tell_24 rfl ?_
        refine xn_if_eq (tgt := 51) dX9_tell_25 rfl (by omega) (fun c3 => ?_) (fun c3 => ?_)
        · omega
        · refine xe_iload_n dX9_tell_28 rfl ?_
          refine xe_if_lt (tgt := 51) dX9_tell_29 rfl (fun c_29 => ?_) (fun c_29 => ?_)
          · refine xe_iconst dX9_tell_51 kc_m1 ?_
            refine xe_ireturn dX9_tell_52 rfl (by first | rfl | decide +kernel) ?_
            exact ⟨rfl, rfl⟩
          · refine xe_iload_n dX9_tell_32 rfl ?_
            refine xe_sipush dX9_tell_33 ks_9999 ?_
            refine xe_icmp_gt (tgt := 51) dX9_tell_36 rfl (fun c4 => ?_) (fun c4 => ?_)
            · refine xe_iconst dX9_tell_51 kc_m1 ?_
              refine xe_ireturn dX9_tell_52 rfl (by first | rfl | decide +kernel) ?_
              exact ⟨rfl, rfl⟩
            · exact absurd (q_rng (Int32.not_lt.mp c_29) (Int32.not_lt.mp c4)) hz
theorem c_X9_forget (l : Launch) (g : q_GP) (h : q_H) (hs : q_Stat h) : q_Cd l g 0 mX9_forget [.ref 0] h (some (.int (q_I h 94 3))) (q_wI h 94 (upd (q_I h 94) 3 (nI 0))) := by
  refine q_CdV mvX9_forget (Nat.le_of_ble_eq_true rfl) ?_
  refine xe_aload_n dX9_forget_0 rfl ?_
  refine xe_getP dX9_forget_1 flX9_58 (st0 hs) (by decide) rfl (sp0_8 hs) ?_
  refine xe_getIv dX9_forget_4 flX9_127 (st94 hs) (by decide) rfl (v := (q_I h 94 3)) (rfl) ?_
  refine xe_istore_n (i := 1) dX9_forget_7 rfl (by decide) rfl ?_
  refine xe_aload_n dX9_forget_8 rfl ?_
  refine xe_getP dX9_forget_9 flX9_58 (st0 hs) (by decide) rfl (sp0_8 hs) ?_
  refine xe_iconst dX9_forget_12 kc_0 ?_
  refine xe_putI dX9_forget_13 flX9_127 (st94 hs) (by decide) rfl (Or.inl rfl) rfl rfl ?_
  refine xe_iload_n dX9_forget_16 rfl ?_
  refine xe_ireturn dX9_forget_17 rfl (by first | rfl | decide +kernel) ?_
  exact ⟨rfl, rfl⟩
theorem q_own_out {R : Nat → Int32} {f t most a : Nat} (ha : a ≤ most) (c : (if R (9 * f) < nI most then R (9 * f) else nI most) < nI (1 + a)) (hm : most < 2 ^ 30 := by omega) : most - a = 0 ∨ (fun a => decide (nI a ≤ R (9 * f)) && !(decide (t = f))) (1 + a) = false := by
  by_cases h : a = most
  · exact Or.inl (by omega)
  · refine Or.inr ?_
    by_cases h2 : R (9 * f) < nI most
    · rw [if_pos h2] at c
      show (decide (nI (1 + a) ≤ R (9 * f)) && _) = false
      rw [decide_eq_false (Int32.not_le.mpr c), Bool.false_and]
    · rw [if_neg h2] at c
      have := (nI_ltI (by omega) (by omega)).mp c
      omega
theorem q_own_in {R : Nat → Int32} {f most a : Nat} (ha : a ≤ most) (hm : most < 2 ^ 30) (c : ¬ (if R (9 * f) < nI most then R (9 * f) else nI most) < nI (1 + a)) : a < most ∧ nI (1 + a) ≤ R (9 * f) := by
  have c := Int32.not_lt.mp c
  by_cases h2 : R (9 * f) < nI most
  · rw [if_pos h2] at c
    have := (nI_ltI (by omega) (by omega)).mp (Int32.lt_of_le_of_lt c h2)
    exact ⟨by omega, c⟩
  · rw [if_neg h2] at c
    have := (nI_leI (by omega) (by omega)).mp c
    exact ⟨by omega, Int32.le_trans c (Int32.not_lt.mp h2)⟩
theorem q_bv1 {b : Bool} (h : ¬ q_bv b = 0) : b = true := by
  cases b
  · exact absurd rfl h
  · rfl
theorem q_bv0 {b : Bool} (h : q_bv b = 0) : b = false := by
  cases b
  · rfl
  · exact absurd h (by decide)
theorem c_X9_stuffer_t (l : Launch) (g : q_GP) (h : q_H) (hs : q_Stat h) {p nm nd nc mo n : Nat} (hp : rk_P h p nm nd nc mo n) {told : Nat} (htd : q_I h 94 3 = nI told) (htd2 : told ≤ 20) (hS : ∀ j, j < told → ∃ s, s < 2 ^ nm ∧ q_I h 95 j = nI s) (most k : Nat) (i : Int32) (hm1 : 1 ≤ most) (hm2 : most ≤ 200) (hk : k ≤ told) (hi : -1 ≤ i) : q_Ct l g 2 mX9_stuffer [.ref 0, .int (nI most), .int (nI k), .int i] h (fun r h1 => r = some (.int (q_stf (q_cr h) (q_I h 95) (q_I h 96) nm most k i)) ∧ q_kag h h1) := by
  obtain ⟨P0, P1, P2, P2b, P3, P3b, P4, P4b, P5, P5b, P6, P6b⟩ := id hp
  rcases P1 with rfl | rfl
  · refine q_CtV mvX9_stuffer (Nat.le_of_ble_eq_true rfl) ?_
    refine xe_iload_n dX9_stuffer_0 rfl ?_
    refine xe_iconst dX9_stuffer_1 kc_1 ?_
    refine xn_icmp_lt (tgt := 32) dX9_stuffer_2 rfl (by omega) (by omega) (fun c1 => ?_) (fun c1 => ?_)
    · omega
    · refine xe_iload_n dX9_stuffer_5 rfl ?_
      refine xe_sipush dX9_stuffer_6 ks_200 ?_
      refine xn_icmp_gt (tgt := 32) dX9_stuffer_9 rfl (by omega) (by omega) (fun c2 => ?_) (fun c2 => ?_)
      · omega
      · refine xe_iload_n dX9_stuffer_12 rfl ?_
        refine xn_if_lt (tgt := 32) dX9_stuffer_13 rfl (by omega) ?_
        refine xe_iload_n dX9_stuffer_16 rfl ?_
        refine xe_aload_n dX9_stuffer_17 rfl ?_
        refine xe_getP dX9_stuffer_18 flX9_58 (st0 hs) (by decide) rfl (sp0_8 hs) ?_
        refine xe_getIv dX9_stuffer_21 flX9_127 (st94 hs) (by decide) rfl (v := nI told) (htd) ?_
        refine xn_icmp_gt (tgt := 32) dX9_stuffer_24 rfl (by omega) (by omega) (fun c4 => ?_) (fun c4 => ?_)
        · omega
        · refine xe_iload_n dX9_stuffer_27 rfl ?_
          refine xe_iconst dX9_stuffer_28 kc_m1 ?_
          refine xe_icmp_ge (tgt := 34) dX9_stuffer_29 rfl (fun c5 => ?_) (fun c5 => ?_)
          · refine xe_aload_n dX9_stuffer_34 rfl ?_
            refine xe_getP dX9_stuffer_35 flX9_58 (st0 hs) (by decide) rfl (sp0_8 hs) ?_
            refine xe_aload_n dX9_stuffer_38 rfl ?_
            refine xe_getP dX9_stuffer_39 flX9_36 (st0 hs) (by decide) rfl (sp0_4 hs) ?_
            refine xe_iload_n dX9_stuffer_42 rfl ?_
            refine xe_callVVq (d' := 1) (y' := mX8_lookAt) dX9_stuffer_43 mlX9_357 mvX8_lookAt rfl (st94 hs) (by decide) rfl (by decide) (by decide) (Nat.le_of_ble_eq_true rfl) (c_X8_lookAt l g _ (by exact hs) (by omega)) rfl (fun h1 hq1 => ?_)
            obtain ⟨M, rfl, hM⟩ := hq1
            refine xe_iconst dX9_stuffer_46 kc_0 ?_
            refine xe_istore dX9_stuffer_47 (by decide) rfl ?_
            refine xe_iconst dX9_stuffer_49 kc_0 ?_
            refine xe_istore dX9_stuffer_50 (by decide) rfl ?_
            refine xe_fin (L' := (fun (f_ : Nat) (s6 : Nat) => [(0, .ref 0), (1, .int (nI most)), (2, .int (nI k)), (3, .int i), (4, .int (nI s6)), (5, .int (nI f_))]) 0 0) (h' := (fun (f_ : Nat) (s6 : Nat) => (q_wI h 97 M)) 0 0) ?_ (And.intro rfl (And.intro rfl (And.intro rfl (And.intro rfl (And.intro rfl (And.intro rfl trivial)))))) (q_heq [97] (H := h) (by repeat (first | exact q_out_r | refine q_out_w rfl ?_)) (by repeat (first | exact q_out_r | refine q_out_w rfl ?_)) (And.intro rfl trivial))
            refine xe_loopI (σ := Nat) (nm) (fun j s => q_sl (fun f c => q_sl (q_sft (q_cr h) (q_I h 95) (q_I h 96) nm most k i f) nm 0 c) nm 0 0 = q_sl (fun f c => q_sl (q_sft (q_cr h) (q_I h 95) (q_I h 96) nm most k i f) nm 0 c) (nm - j) j s ∧ s ≤ 1600 * j) (fun (f_ : Nat) (s6 : Nat) => [(0, .ref 0), (1, .int (nI most)), (2, .int (nI k)), (3, .int i), (4, .int (nI s6)), (5, .int (nI f_))]) (fun (f_ : Nat) (s6 : Nat) => (q_wI h 97 M)) 0 (⟨rfl, Nat.zero_le _⟩) (fun f_ hf_ s6 e6 K6 => ?_) (fun s6 e6 => ?_)
            · refine xe_iload dX9_stuffer_52 rfl ?_
              refine xe_aload_n dX9_stuffer_54 rfl ?_
              refine xe_getP dX9_stuffer_55 flX9_26 (st0 hs) (by decide) rfl P0 ?_
              refine xe_getIv dX9_stuffer_58 flX9_117 (st10 hs) (by decide) rfl (v := nI nm) (P3) ?_
              refine xn_icmp_ge (tgt := 180) dX9_stuffer_61 rfl (by omega) (by omega) (fun c7 => ?_) (fun c7 => ?_)
              · omega
              · refine xe_iload_n dX9_stuffer_64 rfl ?_
                refine xe_aload_n dX9_stuffer_65 rfl ?_
                refine xe_getP dX9_stuffer_66 flX9_36 (st0 hs) (by decide) rfl (sp0_4 hs) ?_
                refine xe_getP dX9_stuffer_69 flX9_120 (st34 hs) (by decide) rfl (sp34_0 hs) ?_
                refine xe_iload dX9_stuffer_72 rfl ?_
                refine xe_bipush dX9_stuffer_74 kb_8 ?_
                refine xn_imul dX9_stuffer_76 ?_
                refine xe_iload dX9_stuffer_77 rfl ?_
                refine xn_iadd dX9_stuffer_79 ?_
                refine xn_ialdv dX9_stuffer_80 (st35 hs) (by omega) (by decide) (v := (q_cr h (9 * f_))) (q_cr_9 h (by omega)) ?_
                refine xe_min dX9_stuffer_81 mlX9_197 q_mmin (by decide) (Nat.le_of_ble_eq_true rfl) ?_
                refine xe_istore dX9_stuffer_84 (by decide) rfl ?_
                refine xe_iconst dX9_stuffer_86 kc_0 ?_
                refine xe_istore dX9_stuffer_87 (by decide) rfl ?_
                refine xe_fin (L' := (fun (t_ : Nat) (s8 : Nat) => [(0, .ref 0), (1, .int (nI most)), (2, .int (nI k)), (3, .int i), (4, .int (nI s8)), (5, .int (nI f_)), (6, .int (if (q_cr h (9 * f_)) < nI most then (q_cr h (9 * f_)) else nI most)), (7, .int (nI t_))]) 0 s6) (h' := (fun (t_ : Nat) (s8 : Nat) => (q_wI h 97 M)) 0 s6) ?_ (And.intro rfl (And.intro rfl (And.intro rfl (And.intro rfl (And.intro rfl (And.intro rfl (And.intro rfl (And.intro rfl trivial)))))))) (q_heq [97] (H := h) (by repeat (first | exact q_out_r | refine q_out_w rfl ?_)) (by repeat (first | exact q_out_r | refine q_out_w rfl ?_)) (And.intro rfl trivial))
                refine xe_loopI (σ := Nat) (nm) (fun j s => (fun f c => q_sl (q_sft (q_cr h) (q_I h 95) (q_I h 96) nm most k i f) nm 0 c) f_ s6 = q_sl (q_sft (q_cr h) (q_I h 95) (q_I h 96) nm most k i f_) (nm - j) j s ∧ s ≤ s6 + 200 * j) (fun (t_ : Nat) (s8 : Nat) => [(0, .ref 0), (1, .int (nI most)), (2, .int (nI k)), (3, .int i), (4, .int (nI s8)), (5, .int (nI f_)), (6, .int (if (q_cr h (9 * f_)) < nI most then (q_cr h (9 * f_)) else nI most)), (7, .int (nI t_))]) (fun (t_ : Nat) (s8 : Nat) => (q_wI h 97 M)) s6 (⟨rfl, by omega⟩) (fun t_ ht_ s8 e8 K8 => ?_) (fun s8 e8 => ?_)
                · refine xe_iload dX9_stuffer_89 rfl ?_
                  refine xe_aload_n dX9_stuffer_91 rfl ?_
                  refine xe_getP dX9_stuffer_92 flX9_26 (st0 hs) (by decide) rfl P0 ?_
                  refine xe_getIv dX9_stuffer_95 flX9_117 (st10 hs) (by decide) rfl (v := nI nm) (P3) ?_
                  refine xn_icmp_ge (tgt := 174) dX9_stuffer_98 rfl (by omega) (by omega) (fun c9 => ?_) (fun c9 => ?_)
                  · omega
                  · refine xe_iconst dX9_stuffer_101 kc_1 ?_
                    refine xe_istore dX9_stuffer_102 (by decide) rfl ?_
                    refine xe_fin (L' := (fun (a_ : Nat) (s10 : Nat) => [(0, .ref 0), (1, .int (nI most)), (2, .int (nI k)), (3, .int i), (4, .int (nI s10)), (5, .int (nI f_)), (6, .int (if (q_cr h (9 * f_)) < nI most then (q_cr h (9 * f_)) else nI most)), (7, .int (nI t_)), (8, .int (nI (1 + a_)))]) 0 s8) (h' := (fun (a_ : Nat) (s10 : Nat) => (q_wI h 97 M)) 0 s8) ?_ (And.intro rfl (And.intro rfl (And.intro rfl (And.intro rfl (And.intro rfl (And.intro rfl (And.intro rfl (And.intro rfl (And.intro rfl trivial))))))))) (q_heq [97] (H := h) (by repeat (first | exact q_out_r | refine q_out_w rfl ?_)) (by repeat (first | exact q_out_r | refine q_out_w rfl ?_)) (And.intro rfl trivial))
                    refine xe_loopW (σ := Nat) (most) (fun a s => q_sft (q_cr h) (q_I h 95) (q_I h 96) nm most k i f_ t_ s8 = q_si (fun a => decide (nI a ≤ q_cr h (9 * f_)) && !(decide (t_ = f_))) (fun a => q_all (q_sok (q_cr h) (q_I h 95) (q_I h 96) nm t_ (nI a)) k) i (fun a => nI (10000 * f_ + 1000 * t_ + a)) (most - a) (1 + a) s ∧ s ≤ s8 + a) (fun (a_ : Nat) (s10 : Nat) => [(0, .ref 0), (1, .int (nI most)), (2, .int (nI k)), (3, .int i), (4, .int (nI s10)), (5, .int (nI f_)), (6, .int (if (q_cr h (9 * f_)) < nI most then (q_cr h (9 * f_)) else nI most)), (7, .int (nI t_)), (8, .int (nI (1 + a_)))]) (fun (a_ : Nat) (s10 : Nat) => (q_wI h 97 M)) s8 (⟨rfl, by omega⟩) (fun a_ ha_ s10 e10 K10 => ?_)
                    · refine xe_iload dX9_stuffer_104 rfl ?_
                      refine xe_iload dX9_stuffer_106 rfl ?_
                      refine xn_icmp_eq (tgt := 168) dX9_stuffer_108 rfl (by omega) (by omega) (fun c_tf => ?_) (fun c_tf => ?_)
                      · have hx : q_sft (q_cr h) (q_I h 95) (q_I h 96) nm most k i f_ t_ s8 = .inr s10 := e10.1.trans (q_si_out (Or.inr (by show (_ && !(decide (t_ = f_))) = false; rw [decide_eq_true c_tf]; exact Bool.and_false _)))
                        have := e10.2
                        refine xn_iinc dX9_stuffer_168 rfl kc_1 ?_
                        refine xe_goto (tgt := 89) dX9_stuffer_171 rfl ?_
                        exact xe_fin (K8 s10 (⟨e8.1.trans ((q_sl_go (st := q_sft (q_cr h) (q_I h 95) (q_I h 96) nm most k i f_) (by omega) hx).trans (by rw [Nat.sub_sub])), by have q1 := e10.2; have q2 := e8.2; omega⟩)) (And.intro rfl (And.intro rfl (And.intro rfl (And.intro rfl (And.intro rfl (And.intro rfl (And.intro rfl (And.intro rfl trivial)))))))) (q_heq [97] (H := h) (by repeat (first | exact q_out_r | refine q_out_w rfl ?_)) (by repeat (first | exact q_out_r | refine q_out_w rfl ?_)) (And.intro rfl trivial))
                      · refine xe_iload dX9_stuffer_111 rfl ?_
                        refine xe_iload dX9_stuffer_113 rfl ?_
                        refine xe_icmp_gt (tgt := 168) dX9_stuffer_115 rfl (fun c11 => ?_) (fun c11 => ?_)
                        · have hx : q_sft (q_cr h) (q_I h 95) (q_I h 96) nm most k i f_ t_ s8 = .inr s10 := e10.1.trans (q_si_out (q_own_out (by omega) c11))
                          have := e10.2
                          refine xn_iinc dX9_stuffer_168 rfl kc_1 ?_
                          refine xe_goto (tgt := 89) dX9_stuffer_171 rfl ?_
                          exact xe_fin (K8 s10 (⟨e8.1.trans ((q_sl_go (st := q_sft (q_cr h) (q_I h 95) (q_I h 96) nm most k i f_) (by omega) hx).trans (by rw [Nat.sub_sub])), by have q1 := e10.2; have q2 := e8.2; omega⟩)) (And.intro rfl (And.intro rfl (And.intro rfl (And.intro rfl (And.intro rfl (And.intro rfl (And.intro rfl (And.intro rfl trivial)))))))) (q_heq [97] (H := h) (by repeat (first | exact q_out_r | refine q_out_w rfl ?_)) (by repeat (first | exact q_out_r | refine q_out_w rfl ?_)) (And.intro rfl trivial))
                        · have hin := q_own_in (by omega) (by omega) c11
                          have hG : (fun a => decide (nI a ≤ q_cr h (9 * f_)) && !(decide (t_ = f_))) (1 + a_) = true := by show (decide (nI (1 + a_) ≤ _) && !(decide (t_ = f_))) = true; rw [decide_eq_true hin.2, decide_eq_false c_tf]; rfl
                          have hfu : most - a_ = most - (a_ + 1) + 1 := by omega
                          refine xe_aload_n dX9_stuffer_118 rfl ?_
                          refine xe_getP dX9_stuffer_119 flX9_58 (st0 hs) (by decide) rfl (sp0_8 hs) ?_
                          refine xe_iload_n dX9_stuffer_122 rfl ?_
                          refine xe_iload dX9_stuffer_123 rfl ?_
                          refine xe_iload dX9_stuffer_125 rfl ?_
                          refine xe_callVI (d' := 0) (y' := mX8_agree) dX9_stuffer_127 mlX9_360 mvX8_agree rfl (st94 hs) (by decide) rfl (by decide) (by decide) (Nat.le_of_ble_eq_true rfl) (c_X8_agree l g _ (by exact hs) (by omega) (by omega) _) rfl ?_
                          refine xe_top (v' := (q_bv (q_all (q_sok (q_cr h) (q_I h 95) (q_I h 96) nm t_ (nI (1 + a_))) k))) (congrArg q_bv (q_agr_ok P3b (fun j hj => hS j (by omega)) hM)) ?_
                          refine xe_if_ne (tgt := 136) dX9_stuffer_130 rfl (fun c12 => ?_) (fun c12 => ?_)
                          · have hok : (fun a => q_all (q_sok (q_cr h) (q_I h 95) (q_I h 96) nm t_ (nI a)) k) (1 + a_) = true := q_bv1 c12
                            refine xe_iload dX9_stuffer_136 rfl ?_
                            refine xe_iload_n dX9_stuffer_138 rfl ?_
                            refine xe_icmp_ne (tgt := 159) dX9_stuffer_139 rfl (fun c13 => ?_) (fun c13 => ?_)
                            · skip
                              refine xn_iinc dX9_stuffer_159 rfl kc_1 ?_
                              refine xn_iinc dX9_stuffer_162 rfl kc_1 ?_
                              refine xe_goto (tgt := 104) dX9_stuffer_165 rfl ?_
                              exact xe_fin (K10 (by omega) (s10 + 1) (⟨e10.1.trans (by rw [hfu]; exact q_si_yes hG hok c13), by have := e10.2; omega⟩)) (And.intro rfl (And.intro rfl (And.intro rfl (And.intro rfl (And.intro rfl (And.intro rfl (And.intro rfl (And.intro rfl (And.intro rfl trivial))))))))) (q_heq [97] (H := h) (by repeat (first | exact q_out_r | refine q_out_w rfl ?_)) (by repeat (first | exact q_out_r | refine q_out_w rfl ?_)) (And.intro rfl trivial))
                            · refine xe_sipush dX9_stuffer_142 ks_10000 ?_
                              refine xe_iload dX9_stuffer_145 rfl ?_
                              refine xn_imul dX9_stuffer_147 ?_
                              refine xe_sipush dX9_stuffer_148 ks_1000 ?_
                              refine xe_iload dX9_stuffer_151 rfl ?_
                              refine xn_imul dX9_stuffer_153 ?_
                              refine xn_iadd dX9_stuffer_154 ?_
                              refine xe_iload dX9_stuffer_155 rfl ?_
                              refine xn_iadd dX9_stuffer_157 ?_
                              refine xe_ireturn dX9_stuffer_158 rfl (by first | rfl | decide +kernel) ?_
                              have e : q_stf (q_cr h) (q_I h 95) (q_I h 96) nm most k i = nI (10000 * f_ + 1000 * t_ + (1 + a_)) := by
                                have e0 : q_sl (fun f c => q_sl (q_sft (q_cr h) (q_I h 95) (q_I h 96) nm most k i f) nm 0 c) nm 0 0 = .inl (nI (10000 * f_ + 1000 * t_ + (1 + a_))) := e6.1.trans (q_sl_hit (st := (fun f c => q_sl (q_sft (q_cr h) (q_I h 95) (q_I h 96) nm most k i f) nm 0 c)) (by omega) (show (fun f c => q_sl (q_sft (q_cr h) (q_I h 95) (q_I h 96) nm most k i f) nm 0 c) f_ s6 = .inl _ from e8.1.trans (q_sl_hit (st := q_sft (q_cr h) (q_I h 95) (q_I h 96) nm most k i f_) (by omega) (e10.1.trans (by rw [hfu]; exact q_si_hit hG hok c13)))))
                                unfold q_stf
                                rw [e0]
                              exact ⟨congrArg (fun v => some (Value.int v)) e.symm, (q_kag_o (by repeat (first | exact q_out_r | refine q_out_w rfl ?_)))⟩
                          · have hok : (fun a => q_all (q_sok (q_cr h) (q_I h 95) (q_I h 96) nm t_ (nI a)) k) (1 + a_) = false := q_bv0 c12
                            refine xe_goto (tgt := 162) dX9_stuffer_133 rfl ?_
                            refine xn_iinc dX9_stuffer_162 rfl kc_1 ?_
                            refine xe_goto (tgt := 104) dX9_stuffer_165 rfl ?_
                            exact xe_fin (K10 (by omega) s10 (⟨e10.1.trans (by rw [hfu]; exact q_si_no hG hok), by have := e10.2; omega⟩)) (And.intro rfl (And.intro rfl (And.intro rfl (And.intro rfl (And.intro rfl (And.intro rfl (And.intro rfl (And.intro rfl (And.intro rfl trivial))))))))) (q_heq [97] (H := h) (by repeat (first | exact q_out_r | refine q_out_w rfl ?_)) (by repeat (first | exact q_out_r | refine q_out_w rfl ?_)) (And.intro rfl trivial))
                · refine xe_iload dX9_stuffer_89 rfl ?_
                  refine xe_aload_n dX9_stuffer_91 rfl ?_
                  refine xe_getP dX9_stuffer_92 flX9_26 (st0 hs) (by decide) rfl P0 ?_
                  refine xe_getIv dX9_stuffer_95 flX9_117 (st10 hs) (by decide) rfl (v := nI nm) (P3) ?_
                  refine xn_icmp_ge (tgt := 174) dX9_stuffer_98 rfl (by omega) (by omega) (fun c14 => ?_) (fun c14 => ?_)
                  · refine xn_iinc dX9_stuffer_174 rfl kc_1 ?_
                    refine xe_goto (tgt := 52) dX9_stuffer_177 rfl ?_
                    exact xe_fin (K6 s8 (⟨e6.1.trans ((q_sl_go (st := (fun f c => q_sl (q_sft (q_cr h) (q_I h 95) (q_I h 96) nm most k i f) nm 0 c)) (by omega) (show (fun f c => q_sl (q_sft (q_cr h) (q_I h 95) (q_I h 96) nm most k i f) nm 0 c) f_ s6 = .inr s8 from e8.1.trans (by rw [Nat.sub_self]; rfl))).trans (by rw [Nat.sub_sub])), by have q1 := e8.2; have q2 := e6.2; omega⟩)) (And.intro rfl (And.intro rfl (And.intro rfl (And.intro rfl (And.intro rfl (And.intro rfl trivial)))))) (q_heq [97] (H := h) (by repeat (first | exact q_out_r | refine q_out_w rfl ?_)) (by repeat (first | exact q_out_r | refine q_out_w rfl ?_)) (And.intro rfl trivial))
                  · omega
            · refine xe_iload dX9_stuffer_52 rfl ?_
              refine xe_aload_n dX9_stuffer_54 rfl ?_
              refine xe_getP dX9_stuffer_55 flX9_26 (st0 hs) (by decide) rfl P0 ?_
              refine xe_getIv dX9_stuffer_58 flX9_117 (st10 hs) (by decide) rfl (v := nI nm) (P3) ?_
              refine xn_icmp_ge (tgt := 180) dX9_stuffer_61 rfl (by omega) (by omega) (fun c15 => ?_) (fun c15 => ?_)
              · refine xe_iload_n dX9_stuffer_180 rfl ?_
                refine xe_iconst dX9_stuffer_181 kc_m1 ?_
                refine xe_icmp_ne (tgt := 190) dX9_stuffer_182 rfl (fun c16 => ?_) (fun c16 => ?_)
                · refine xe_iconst dX9_stuffer_190 kc_m1 ?_
                  refine xe_ireturn dX9_stuffer_191 rfl (by first | rfl | decide +kernel) ?_
                  have e : q_sl (fun f c => q_sl (q_sft (q_cr h) (q_I h 95) (q_I h 96) nm most k i f) nm 0 c) nm 0 0 = .inr s6 := e6.1.trans (by rw [Nat.sub_self]; rfl)
                  refine ⟨congrArg (fun v => some (Value.int v)) ?_, (q_kag_o (by repeat (first | exact q_out_r | refine q_out_w rfl ?_)))⟩
                  unfold q_stf
                  rw [e]
                  exact (if_neg c16).symm
                · refine xe_iload dX9_stuffer_185 rfl ?_
                  refine xe_goto (tgt := 191) dX9_stuffer_187 rfl ?_
                  refine xe_ireturn dX9_stuffer_191 rfl (by first | rfl | decide +kernel) ?_
                  have e : q_sl (fun f c => q_sl (q_sft (q_cr h) (q_I h 95) (q_I h 96) nm most k i f) nm 0 c) nm 0 0 = .inr s6 := e6.1.trans (by rw [Nat.sub_self]; rfl)
                  refine ⟨congrArg (fun v => some (Value.int v)) ?_, (q_kag_o (by repeat (first | exact q_out_r | refine q_out_w rfl ?_)))⟩
                  unfold q_stf
                  rw [e]
                  exact (if_pos c16).symm
              · omega
          · exact absurd hi c5
  · refine q_CtV mvX9_stuffer (Nat.le_of_ble_eq_true rfl) ?_
    refine xe_iload_n dX9_stuffer_0 rfl ?_
    refine xe_iconst dX9_stuffer_1 kc_1 ?_
    refine xn_icmp_lt (tgt := 32) dX9_stuffer_2 rfl (by omega) (by omega) (fun c1 => ?_) (fun c1 => ?_)
    · omega
    · refine xe_iload_n dX9_stuffer_5 rfl ?_
      refine xe_sipush dX9_stuffer_6 ks_200 ?_
      refine xn_icmp_gt (tgt := 32) dX9_stuffer_9 rfl (by omega) (by omega) (fun c2 => ?_) (fun c2 => ?_)
      · omega
      · refine xe_iload_n dX9_stuffer_12 rfl ?_
        refine xn_if_lt (tgt := 32) dX9_stuffer_13 rfl (by omega) ?_
        refine xe_iload_n dX9_stuffer_16 rfl ?_
        refine xe_aload_n dX9_stuffer_17 rfl ?_
        refine xe_getP dX9_stuffer_18 flX9_58 (st0 hs) (by decide) rfl (sp0_8 hs) ?_
        refine xe_getIv dX9_stuffer_21 flX9_127 (st94 hs) (by decide) rfl (v := nI told) (htd) ?_
        refine xn_icmp_gt (tgt := 32) dX9_stuffer_24 rfl (by omega) (by omega) (fun c4 => ?_) (fun c4 => ?_)
        · omega
        · refine xe_iload_n dX9_stuffer_27 rfl ?_
          refine xe_iconst dX9_stuffer_28 kc_m1 ?_
          refine xe_icmp_ge (tgt := 34) dX9_stuffer_29 rfl (fun c5 => ?_) (fun c5 => ?_)
          · refine xe_aload_n dX9_stuffer_34 rfl ?_
            refine xe_getP dX9_stuffer_35 flX9_58 (st0 hs) (by decide) rfl (sp0_8 hs) ?_
            refine xe_aload_n dX9_stuffer_38 rfl ?_
            refine xe_getP dX9_stuffer_39 flX9_36 (st0 hs) (by decide) rfl (sp0_4 hs) ?_
            refine xe_iload_n dX9_stuffer_42 rfl ?_
            refine xe_callVVq (d' := 1) (y' := mX8_lookAt) dX9_stuffer_43 mlX9_357 mvX8_lookAt rfl (st94 hs) (by decide) rfl (by decide) (by decide) (Nat.le_of_ble_eq_true rfl) (c_X8_lookAt l g _ (by exact hs) (by omega)) rfl (fun h1 hq1 => ?_)
            obtain ⟨M, rfl, hM⟩ := hq1
            refine xe_iconst dX9_stuffer_46 kc_0 ?_
            refine xe_istore dX9_stuffer_47 (by decide) rfl ?_
            refine xe_iconst dX9_stuffer_49 kc_0 ?_
            refine xe_istore dX9_stuffer_50 (by decide) rfl ?_
            refine xe_fin (L' := (fun (f_ : Nat) (s6 : Nat) => [(0, .ref 0), (1, .int (nI most)), (2, .int (nI k)), (3, .int i), (4, .int (nI s6)), (5, .int (nI f_))]) 0 0) (h' := (fun (f_ : Nat) (s6 : Nat) => (q_wI h 97 M)) 0 0) ?_ (And.intro rfl (And.intro rfl (And.intro rfl (And.intro rfl (And.intro rfl (And.intro rfl trivial)))))) (q_heq [97] (H := h) (by repeat (first | exact q_out_r | refine q_out_w rfl ?_)) (by repeat (first | exact q_out_r | refine q_out_w rfl ?_)) (And.intro rfl trivial))
            refine xe_loopI (σ := Nat) (nm) (fun j s => q_sl (fun f c => q_sl (q_sft (q_cr h) (q_I h 95) (q_I h 96) nm most k i f) nm 0 c) nm 0 0 = q_sl (fun f c => q_sl (q_sft (q_cr h) (q_I h 95) (q_I h 96) nm most k i f) nm 0 c) (nm - j) j s ∧ s ≤ 1600 * j) (fun (f_ : Nat) (s6 : Nat) => [(0, .ref 0), (1, .int (nI most)), (2, .int (nI k)), (3, .int i), (4, .int (nI s6)), (5, .int (nI f_))]) (fun (f_ : Nat) (s6 : Nat) => (q_wI h 97 M)) 0 (⟨rfl, Nat.zero_le _⟩) (fun f_ hf_ s6 e6 K6 => ?_) (fun s6 e6 => ?_)
            · refine xe_iload dX9_stuffer_52 rfl ?_
              refine xe_aload_n dX9_stuffer_54 rfl ?_
              refine xe_getP dX9_stuffer_55 flX9_26 (st0 hs) (by decide) rfl P0 ?_
              refine xe_getIv dX9_stuffer_58 flX9_117 (st22 hs) (by decide) rfl (v := nI nm) (P3) ?_
              refine xn_icmp_ge (tgt := 180) dX9_stuffer_61 rfl (by omega) (by omega) (fun c7 => ?_) (fun c7 => ?_)
              · omega
              · refine xe_iload_n dX9_stuffer_64 rfl ?_
                refine xe_aload_n dX9_stuffer_65 rfl ?_
                refine xe_getP dX9_stuffer_66 flX9_36 (st0 hs) (by decide) rfl (sp0_4 hs) ?_
                refine xe_getP dX9_stuffer_69 flX9_120 (st34 hs) (by decide) rfl (sp34_0 hs) ?_
                refine xe_iload dX9_stuffer_72 rfl ?_
                refine xe_bipush dX9_stuffer_74 kb_8 ?_
                refine xn_imul dX9_stuffer_76 ?_
                refine xe_iload dX9_stuffer_77 rfl ?_
                refine xn_iadd dX9_stuffer_79 ?_
                refine xn_ialdv dX9_stuffer_80 (st35 hs) (by omega) (by decide) (v := (q_cr h (9 * f_))) (q_cr_9 h (by omega)) ?_
                refine xe_min dX9_stuffer_81 mlX9_197 q_mmin (by decide) (Nat.le_of_ble_eq_true rfl) ?_
                refine xe_istore dX9_stuffer_84 (by decide) rfl ?_
                refine xe_iconst dX9_stuffer_86 kc_0 ?_
                refine xe_istore dX9_stuffer_87 (by decide) rfl ?_
                refine xe_fin (L' := (fun (t_ : Nat) (s8 : Nat) => [(0, .ref 0), (1, .int (nI most)), (2, .int (nI k)), (3, .int i), (4, .int (nI s8)), (5, .int (nI f_)), (6, .int (if (q_cr h (9 * f_)) < nI most then (q_cr h (9 * f_)) else nI most)), (7, .int (nI t_))]) 0 s6) (h' := (fun (t_ : Nat) (s8 : Nat) => (q_wI h 97 M)) 0 s6) ?_ (And.intro rfl (And.intro rfl (And.intro rfl (And.intro rfl (And.intro rfl (And.intro rfl (And.intro rfl (And.intro rfl trivial)))))))) (q_heq [97] (H := h) (by repeat (first | exact q_out_r | refine q_out_w rfl ?_)) (by repeat (first | exact q_out_r | refine q_out_w rfl ?_)) (And.intro rfl trivial))
                refine xe_loopI (σ := Nat) (nm) (fun j s => (fun f c => q_sl (q_sft (q_cr h) (q_I h 95) (q_I h 96) nm most k i f) nm 0 c) f_ s6 = q_sl (q_sft (q_cr h) (q_I h 95) (q_I h 96) nm most k i f_) (nm - j) j s ∧ s ≤ s6 + 200 * j) (fun (t_ : Nat) (s8 : Nat) => [(0, .ref 0), (1, .int (nI most)), (2, .int (nI k)), (3, .int i), (4, .int (nI s8)), (5, .int (nI f_)), (6, .int (if (q_cr h (9 * f_)) < nI most then (q_cr h (9 * f_)) else nI most)), (7, .int (nI t_))]) (fun (t_ : Nat) (s8 : Nat) => (q_wI h 97 M)) s6 (⟨rfl, by omega⟩) (fun t_ ht_ s8 e8 K8 => ?_) (fun s8 e8 => ?_)
                · refine xe_iload dX9_stuffer_89 rfl ?_
                  refine xe_aload_n dX9_stuffer_91 rfl ?_
                  refine xe_getP dX9_stuffer_92 flX9_26 (st0 hs) (by decide) rfl P0 ?_
                  refine xe_getIv dX9_stuffer_95 flX9_117 (st22 hs) (by decide) rfl (v := nI nm) (P3) ?_
                  refine xn_icmp_ge (tgt := 174) dX9_stuffer_98 rfl (by omega) (by omega) (fun c9 => ?_) (fun c9 => ?_)
                  · omega
                  · refine xe_iconst dX9_stuffer_101 kc_1 ?_
                    refine xe_istore dX9_stuffer_102 (by decide) rfl ?_
                    refine xe_fin (L' := (fun (a_ : Nat) (s10 : Nat) => [(0, .ref 0), (1, .int (nI most)), (2, .int (nI k)), (3, .int i), (4, .int (nI s10)), (5, .int (nI f_)), (6, .int (if (q_cr h (9 * f_)) < nI most then (q_cr h (9 * f_)) else nI most)), (7, .int (nI t_)), (8, .int (nI (1 + a_)))]) 0 s8) (h' := (fun (a_ : Nat) (s10 : Nat) => (q_wI h 97 M)) 0 s8) ?_ (And.intro rfl (And.intro rfl (And.intro rfl (And.intro rfl (And.intro rfl (And.intro rfl (And.intro rfl (And.intro rfl (And.intro rfl trivial))))))))) (q_heq [97] (H := h) (by repeat (first | exact q_out_r | refine q_out_w rfl ?_)) (by repeat (first | exact q_out_r | refine q_out_w rfl ?_)) (And.intro rfl trivial))
                    refine xe_loopW (σ := Nat) (most) (fun a s => q_sft (q_cr h) (q_I h 95) (q_I h 96) nm most k i f_ t_ s8 = q_si (fun a => decide (nI a ≤ q_cr h (9 * f_)) && !(decide (t_ = f_))) (fun a => q_all (q_sok (q_cr h) (q_I h 95) (q_I h 96) nm t_ (nI a)) k) i (fun a => nI (10000 * f_ + 1000 * t_ + a)) (most - a) (1 + a) s ∧ s ≤ s8 + a) (fun (a_ : Nat) (s10 : Nat) => [(0, .ref 0), (1, .int (nI most)), (2, .int (nI k)), (3, .int i), (4, .int (nI s10)), (5, .int (nI f_)), (6, .int (if (q_cr h (9 * f_)) < nI most then (q_cr h (9 * f_)) else nI most)), (7, .int (nI t_)), (8, .int (nI (1 + a_)))]) (fun (a_ : Nat) (s10 : Nat) => (q_wI h 97 M)) s8 (⟨rfl, by omega⟩) (fun a_ ha_ s10 e10 K10 => ?_)
                    · refine xe_iload dX9_stuffer_104 rfl ?_
                      refine xe_iload dX9_stuffer_106 rfl ?_
                      refine xn_icmp_eq (tgt := 168) dX9_stuffer_108 rfl (by omega) (by omega) (fun c_tf => ?_) (fun c_tf => ?_)
                      · have hx : q_sft (q_cr h) (q_I h 95) (q_I h 96) nm most k i f_ t_ s8 = .inr s10 := e10.1.trans (q_si_out (Or.inr (by show (_ && !(decide (t_ = f_))) = false; rw [decide_eq_true c_tf]; exact Bool.and_false _)))
                        have := e10.2
                        refine xn_iinc dX9_stuffer_168 rfl kc_1 ?_
                        refine xe_goto (tgt := 89) dX9_stuffer_171 rfl ?_
                        exact xe_fin (K8 s10 (⟨e8.1.trans ((q_sl_go (st := q_sft (q_cr h) (q_I h 95) (q_I h 96) nm most k i f_) (by omega) hx).trans (by rw [Nat.sub_sub])), by have q1 := e10.2; have q2 := e8.2; omega⟩)) (And.intro rfl (And.intro rfl (And.intro rfl (And.intro rfl (And.intro rfl (And.intro rfl (And.intro rfl (And.intro rfl trivial)))))))) (q_heq [97] (H := h) (by repeat (first | exact q_out_r | refine q_out_w rfl ?_)) (by repeat (first | exact q_out_r | refine q_out_w rfl ?_)) (And.intro rfl trivial))
                      · refine xe_iload dX9_stuffer_111 rfl ?_
                        refine xe_iload dX9_stuffer_113 rfl ?_
                        refine xe_icmp_gt (tgt := 168) dX9_stuffer_115 rfl (fun c11 => ?_) (fun c11 => ?_)
                        · have hx : q_sft (q_cr h) (q_I h 95) (q_I h 96) nm most k i f_ t_ s8 = .inr s10 := e10.1.trans (q_si_out (q_own_out (by omega) c11))
                          have := e10.2
                          refine xn_iinc dX9_stuffer_168 rfl kc_1 ?_
                          refine xe_goto (tgt := 89) dX9_stuffer_171 rfl ?_
                          exact xe_fin (K8 s10 (⟨e8.1.trans ((q_sl_go (st := q_sft (q_cr h) (q_I h 95) (q_I h 96) nm most k i f_) (by omega) hx).trans (by rw [Nat.sub_sub])), by have q1 := e10.2; have q2 := e8.2; omega⟩)) (And.intro rfl (And.intro rfl (And.intro rfl (And.intro rfl (And.intro rfl (And.intro rfl (And.intro rfl (And.intro rfl trivial)))))))) (q_heq [97] (H := h) (by repeat (first | exact q_out_r | refine q_out_w rfl ?_)) (by repeat (first | exact q_out_r | refine q_out_w rfl ?_)) (And.intro rfl trivial))
                        · have hin := q_own_in (by omega) (by omega) c11
                          have hG : (fun a => decide (nI a ≤ q_cr h (9 * f_)) && !(decide (t_ = f_))) (1 + a_) = true := by show (decide (nI (1 + a_) ≤ _) && !(decide (t_ = f_))) = true; rw [decide_eq_true hin.2, decide_eq_false c_tf]; rfl
                          have hfu : most - a_ = most - (a_ + 1) + 1 := by omega
                          refine xe_aload_n dX9_stuffer_118 rfl ?_
                          refine xe_getP dX9_stuffer_119 flX9_58 (st0 hs) (by decide) rfl (sp0_8 hs) ?_
                          refine xe_iload_n dX9_stuffer_122 rfl ?_
                          refine xe_iload dX9_stuffer_123 rfl ?_
                          refine xe_iload dX9_stuffer_125 rfl ?_
                          refine xe_callVI (d' := 0) (y' := mX8_agree) dX9_stuffer_127 mlX9_360 mvX8_agree rfl (st94 hs) (by decide) rfl (by decide) (by decide) (Nat.le_of_ble_eq_true rfl) (c_X8_agree l g _ (by exact hs) (by omega) (by omega) _) rfl ?_
                          refine xe_top (v' := (q_bv (q_all (q_sok (q_cr h) (q_I h 95) (q_I h 96) nm t_ (nI (1 + a_))) k))) (congrArg q_bv (q_agr_ok P3b (fun j hj => hS j (by omega)) hM)) ?_
                          refine xe_if_ne (tgt := 136) dX9_stuffer_130 rfl (fun c12 => ?_) (fun c12 => ?_)
                          · have hok : (fun a => q_all (q_sok (q_cr h) (q_I h 95) (q_I h 96) nm t_ (nI a)) k) (1 + a_) = true := q_bv1 c12
                            refine xe_iload dX9_stuffer_136 rfl ?_
                            refine xe_iload_n dX9_stuffer_138 rfl ?_
                            refine xe_icmp_ne (tgt := 159) dX9_stuffer_139 rfl (fun c13 => ?_) (fun c13 => ?_)
                            · skip
                              refine xn_iinc dX9_stuffer_159 rfl kc_1 ?_
                              refine xn_iinc dX9_stuffer_162 rfl kc_1 ?_
                              refine xe_goto (tgt := 104) dX9_stuffer_165 rfl ?_
                              exact xe_fin (K10 (by omega) (s10 + 1) (⟨e10.1.trans (by rw [hfu]; exact q_si_yes hG hok c13), by have := e10.2; omega⟩)) (And.intro rfl (And.intro rfl (And.intro rfl (And.intro rfl (And.intro rfl (And.intro rfl (And.intro rfl (And.intro rfl (And.intro rfl trivial))))))))) (q_heq [97] (H := h) (by repeat (first | exact q_out_r | refine q_out_w rfl ?_)) (by repeat (first | exact q_out_r | refine q_out_w rfl ?_)) (And.intro rfl trivial))
                            · refine xe_sipush dX9_stuffer_142 ks_10000 ?_
                              refine xe_iload dX9_stuffer_145 rfl ?_
                              refine xn_imul dX9_stuffer_147 ?_
                              refine xe_sipush dX9_stuffer_148 ks_1000 ?_
                              refine xe_iload dX9_stuffer_151 rfl ?_
                              refine xn_imul dX9_stuffer_153 ?_
                              refine xn_iadd dX9_stuffer_154 ?_
                              refine xe_iload dX9_stuffer_155 rfl ?_
                              refine xn_iadd dX9_stuffer_157 ?_
                              refine xe_ireturn dX9_stuffer_158 rfl (by first | rfl | decide +kernel) ?_
                              have e : q_stf (q_cr h) (q_I h 95) (q_I h 96) nm most k i = nI (10000 * f_ + 1000 * t_ + (1 + a_)) := by
                                have e0 : q_sl (fun f c => q_sl (q_sft (q_cr h) (q_I h 95) (q_I h 96) nm most k i f) nm 0 c) nm 0 0 = .inl (nI (10000 * f_ + 1000 * t_ + (1 + a_))) := e6.1.trans (q_sl_hit (st := (fun f c => q_sl (q_sft (q_cr h) (q_I h 95) (q_I h 96) nm most k i f) nm 0 c)) (by omega) (show (fun f c => q_sl (q_sft (q_cr h) (q_I h 95) (q_I h 96) nm most k i f) nm 0 c) f_ s6 = .inl _ from e8.1.trans (q_sl_hit (st := q_sft (q_cr h) (q_I h 95) (q_I h 96) nm most k i f_) (by omega) (e10.1.trans (by rw [hfu]; exact q_si_hit hG hok c13)))))
                                unfold q_stf
                                rw [e0]
                              exact ⟨congrArg (fun v => some (Value.int v)) e.symm, (q_kag_o (by repeat (first | exact q_out_r | refine q_out_w rfl ?_)))⟩
                          · have hok : (fun a => q_all (q_sok (q_cr h) (q_I h 95) (q_I h 96) nm t_ (nI a)) k) (1 + a_) = false := q_bv0 c12
                            refine xe_goto (tgt := 162) dX9_stuffer_133 rfl ?_
                            refine xn_iinc dX9_stuffer_162 rfl kc_1 ?_
                            refine xe_goto (tgt := 104) dX9_stuffer_165 rfl ?_
                            exact xe_fin (K10 (by omega) s10 (⟨e10.1.trans (by rw [hfu]; exact q_si_no hG hok), by have := e10.2; omega⟩)) (And.intro rfl (And.intro rfl (And.intro rfl (And.intro rfl (And.intro rfl (And.intro rfl (And.intro rfl (And.intro rfl (And.intro rfl trivial))))))))) (q_heq [97] (H := h) (by repeat (first | exact q_out_r | refine q_out_w rfl ?_)) (by repeat (first | exact q_out_r | refine q_out_w rfl ?_)) (And.intro rfl trivial))
                · refine xe_iload dX9_stuffer_89 rfl ?_
                  refine xe_aload_n dX9_stuffer_91 rfl ?_
                  refine xe_getP dX9_stuffer_92 flX9_26 (st0 hs) (by decide) rfl P0 ?_
                  refine xe_getIv dX9_stuffer_95 flX9_117 (st22 hs) (by decide) rfl (v := nI nm) (P3) ?_
                  refine xn_icmp_ge (tgt := 174) dX9_stuffer_98 rfl (by omega) (by omega) (fun c14 => ?_) (fun c14 => ?_)
                  · refine xn_iinc dX9_stuffer_174 rfl kc_1 ?_
                    refine xe_goto (tgt := 52) dX9_stuffer_177 rfl ?_
                    exact xe_fin (K6 s8 (⟨e6.1.trans ((q_sl_go (st := (fun f c => q_sl (q_sft (q_cr h) (q_I h 95) (q_I h 96) nm most k i f) nm 0 c)) (by omega) (show (fun f c => q_sl (q_sft (q_cr h) (q_I h 95) (q_I h 96) nm most k i f) nm 0 c) f_ s6 = .inr s8 from e8.1.trans (by rw [Nat.sub_self]; rfl))).trans (by rw [Nat.sub_sub])), by have q1 := e8.2; have q2 := e6.2; omega⟩)) (And.intro rfl (And.intro rfl (And.intro rfl (And.intro rfl (And.intro rfl (And.intro rfl trivial)))))) (q_heq [97] (H := h) (by repeat (first | exact q_out_r | refine q_out_w rfl ?_)) (by repeat (first | exact q_out_r | refine q_out_w rfl ?_)) (And.intro rfl trivial))
                  · omega
            · refine xe_iload dX9_stuffer_52 rfl ?_
              refine xe_aload_n dX9_stuffer_54 rfl ?_
              refine xe_getP dX9_stuffer_55 flX9_26 (st0 hs) (by decide) rfl P0 ?_
              refine xe_getIv dX9_stuffer_58 flX9_117 (st22 hs) (by decide) rfl (v := nI nm) (P3) ?_
              refine xn_icmp_ge (tgt := 180) dX9_stuffer_61 rfl (by omega) (by omega) (fun c15 => ?_) (fun c15 => ?_)
              · refine xe_iload_n dX9_stuffer_180 rfl ?_
                refine xe_iconst dX9_stuffer_181 kc_m1 ?_
                refine xe_icmp_ne (tgt := 190) dX9_stuffer_182 rfl (fun c16 => ?_) (fun c16 => ?_)
                · refine xe_iconst dX9_stuffer_190 kc_m1 ?_
                  refine xe_ireturn dX9_stuffer_191 rfl (by first | rfl | decide +kernel) ?_
                  have e : q_sl (fun f c => q_sl (q_sft (q_cr h) (q_I h 95) (q_I h 96) nm most k i f) nm 0 c) nm 0 0 = .inr s6 := e6.1.trans (by rw [Nat.sub_self]; rfl)
                  refine ⟨congrArg (fun v => some (Value.int v)) ?_, (q_kag_o (by repeat (first | exact q_out_r | refine q_out_w rfl ?_)))⟩
                  unfold q_stf
                  rw [e]
                  exact (if_neg c16).symm
                · refine xe_iload dX9_stuffer_185 rfl ?_
                  refine xe_goto (tgt := 191) dX9_stuffer_187 rfl ?_
                  refine xe_ireturn dX9_stuffer_191 rfl (by first | rfl | decide +kernel) ?_
                  have e : q_sl (fun f c => q_sl (q_sft (q_cr h) (q_I h 95) (q_I h 96) nm most k i f) nm 0 c) nm 0 0 = .inr s6 := e6.1.trans (by rw [Nat.sub_self]; rfl)
                  refine ⟨congrArg (fun v => some (Value.int v)) ?_, (q_kag_o (by repeat (first | exact q_out_r | refine q_out_w rfl ?_)))⟩
                  unfold q_stf
                  rw [e]
                  exact (if_pos c16).symm
              · omega
          · exact absurd hi c5
theorem q_rng2 {x : Int32} {a b : Nat} (h0 : nI a ≤ x) (h1 : x ≤ nI b) (hb : b < 2 ^ 31 := by decide) (ha : a < 2 ^ 31 := by decide) : ∃ k, a ≤ k ∧ k ≤ b ∧ x = nI k := by
  obtain ⟨k, hk, rfl⟩ := nI_of (x := x) (fun q => absurd (Int32.lt_of_le_of_lt h0 q) (nI_pos ha))
  exact ⟨k, (nI_leI ha hk).mp h0, (nI_leI hk hb).mp h1, rfl⟩
theorem c_X9_stuffer_a (l : Launch) (g : q_GP) (h : q_H) (hs : q_Stat h) {p nm nd nc mo n : Nat} (hp : rk_P h p nm nd nc mo n) {told : Nat} (htd : q_I h 94 3 = nI told) (htd2 : told ≤ 20) (x z i : Int32) (hx : ¬ ∃ k, 1 ≤ k ∧ k ≤ 200 ∧ x = nI k) : q_Cd l g 2 mX9_stuffer [.ref 0, .int x, .int z, .int i] h (some (.int (-1))) h := by
  obtain ⟨P0, P1, P2, P2b, P3, P3b, P4, P4b, P5, P5b, P6, P6b⟩ := id hp
  rcases P1 with rfl | rfl
  · refine q_CdV mvX9_stuffer (Nat.le_of_ble_eq_true rfl) ?_
    refine xe_iload_n dX9_stuffer_0 rfl ?_
    refine xe_iconst dX9_stuffer_1 kc_1 ?_
    refine xe_icmp_lt (tgt := 32) dX9_stuffer_2 rfl (fun c_2 => ?_) (fun c_2 => ?_)
    · refine xe_iconst dX9_stuffer_32 kc_m1 ?_
      refine xe_ireturn dX9_stuffer_33 rfl (by first | rfl | decide +kernel) ?_
      exact ⟨rfl, rfl⟩
    · refine xe_iload_n dX9_stuffer_5 rfl ?_
      refine xe_sipush dX9_stuffer_6 ks_200 ?_
      refine xe_icmp_gt (tgt := 32) dX9_stuffer_9 rfl (fun c1 => ?_) (fun c1 => ?_)
      · refine xe_iconst dX9_stuffer_32 kc_m1 ?_
        refine xe_ireturn dX9_stuffer_33 rfl (by first | rfl | decide +kernel) ?_
        exact ⟨rfl, rfl⟩
      · exact absurd (q_rng2 (Int32.not_lt.mp c_2) (Int32.not_lt.mp c1)) hx
  · refine q_CdV mvX9_stuffer (Nat.le_of_ble_eq_true rfl) ?_
    refine xe_iload_n dX9_stuffer_0 rfl ?_
    refine xe_iconst dX9_stuffer_1 kc_1 ?_
    refine xe_icmp_lt (tgt := 32) dX9_stuffer_2 rfl (fun c_2 => ?_) (fun c_2 => ?_)
    · refine xe_iconst dX9_stuffer_32 kc_m1 ?_
      refine xe_ireturn dX9_stuffer_33 rfl (by first | rfl | decide +kernel) ?_
      exact ⟨rfl, rfl⟩
    · refine xe_iload_n dX9_stuffer_5 rfl ?_
      refine xe_sipush dX9_stuffer_6 ks_200 ?_
      refine xe_icmp_gt (tgt := 32) dX9_stuffer_9 rfl (fun c1 => ?_) (fun c1 => ?_)
      · refine xe_iconst dX9_stuffer_32 kc_m1 ?_
        refine xe_ireturn dX9_stuffer_33 rfl (by first | rfl | decide +kernel) ?_
        exact ⟨rfl, rfl⟩
      · exact absurd (q_rng2 (Int32.not_lt.mp c_2) (Int32.not_lt.mp c1)) hx
theorem c_X9_stuffer_b (l : Launch) (g : q_GP) (h : q_H) (hs : q_Stat h) {p nm nd nc mo n : Nat} (hp : rk_P h p nm nd nc mo n) {told : Nat} (htd : q_I h 94 3 = nI told) (htd2 : told ≤ 20) {most : Nat} (hm1 : 1 ≤ most) (hm2 : most ≤ 200) (z i : Int32) (hz : ¬ ∃ k, 0 ≤ k ∧ k ≤ told ∧ z = nI k) : q_Cd l g 2 mX9_stuffer [.ref 0, .int (nI most), .int z, .int i] h (some (.int (-1))) h := by
  obtain ⟨P0, P1, P2, P2b, P3, P3b, P4, P4b, P5, P5b, P6, P6b⟩ := id hp
  rcases P1 with rfl | rfl
  · refine q_CdV mvX9_stuffer (Nat.le_of_ble_eq_true rfl) ?_
    refine xe_iload_n dX9_stuffer_0 rfl ?_
    refine xe_iconst dX9_stuffer_1 kc_1 ?_
    refine xn_icmp_lt (tgt := 32) dX9_stuffer_2 rfl (by omega) (by omega) (fun c1 => ?_) (fun c1 => ?_)
    · omega
    · refine xe_iload_n dX9_stuffer_5 rfl ?_
      refine xe_sipush dX9_stuffer_6 ks_200 ?_
      refine xn_icmp_gt (tgt := 32) dX9_stuffer_9 rfl (by omega) (by omega) (fun c2 => ?_) (fun c2 => ?_)
      · omega
      · refine xe_iload_n dX9_stuffer_12 rfl ?_
        refine xe_if_lt (tgt := 32) dX9_stuffer_13 rfl (fun c_13 => ?_) (fun c_13 => ?_)
        · refine xe_iconst dX9_stuffer_32 kc_m1 ?_
          refine xe_ireturn dX9_stuffer_33 rfl (by first | rfl | decide +kernel) ?_
          exact ⟨rfl, rfl⟩
        · refine xe_iload_n dX9_stuffer_16 rfl ?_
          refine xe_aload_n dX9_stuffer_17 rfl ?_
          refine xe_getP dX9_stuffer_18 flX9_58 (st0 hs) (by decide) rfl (sp0_8 hs) ?_
          refine xe_getIv dX9_stuffer_21 flX9_127 (st94 hs) (by decide) rfl (v := nI told) (htd) ?_
          refine xe_icmp_gt (tgt := 32) dX9_stuffer_24 rfl (fun c3 => ?_) (fun c3 => ?_)
          · refine xe_iconst dX9_stuffer_32 kc_m1 ?_
            refine xe_ireturn dX9_stuffer_33 rfl (by first | rfl | decide +kernel) ?_
            exact ⟨rfl, rfl⟩
          · exact absurd (q_rng (Int32.not_lt.mp c_13) (Int32.not_lt.mp c3) (by omega)) hz
  · refine q_CdV mvX9_stuffer (Nat.le_of_ble_eq_true rfl) ?_
    refine xe_iload_n dX9_stuffer_0 rfl ?_
    refine xe_iconst dX9_stuffer_1 kc_1 ?_
    refine xn_icmp_lt (tgt := 32) dX9_stuffer_2 rfl (by omega) (by omega) (fun c1 => ?_) (fun c1 => ?_)
    · omega
    · refine xe_iload_n dX9_stuffer_5 rfl ?_
      refine xe_sipush dX9_stuffer_6 ks_200 ?_
      refine xn_icmp_gt (tgt := 32) dX9_stuffer_9 rfl (by omega) (by omega) (fun c2 => ?_) (fun c2 => ?_)
      · omega
      · refine xe_iload_n dX9_stuffer_12 rfl ?_
        refine xe_if_lt (tgt := 32) dX9_stuffer_13 rfl (fun c_13 => ?_) (fun c_13 => ?_)
        · refine xe_iconst dX9_stuffer_32 kc_m1 ?_
          refine xe_ireturn dX9_stuffer_33 rfl (by first | rfl | decide +kernel) ?_
          exact ⟨rfl, rfl⟩
        · refine xe_iload_n dX9_stuffer_16 rfl ?_
          refine xe_aload_n dX9_stuffer_17 rfl ?_
          refine xe_getP dX9_stuffer_18 flX9_58 (st0 hs) (by decide) rfl (sp0_8 hs) ?_
          refine xe_getIv dX9_stuffer_21 flX9_127 (st94 hs) (by decide) rfl (v := nI told) (htd) ?_
          refine xe_icmp_gt (tgt := 32) dX9_stuffer_24 rfl (fun c3 => ?_) (fun c3 => ?_)
          · refine xe_iconst dX9_stuffer_32 kc_m1 ?_
            refine xe_ireturn dX9_stuffer_33 rfl (by first | rfl | decide +kernel) ?_
            exact ⟨rfl, rfl⟩
          · exact absurd (q_rng (Int32.not_lt.mp c_13) (Int32.not_lt.mp c3) (by omega)) hz
theorem c_X9_stuffer_c (l : Launch) (g : q_GP) (h : q_H) (hs : q_Stat h) {p nm nd nc mo n : Nat} (hp : rk_P h p nm nd nc mo n) {told : Nat} (htd : q_I h 94 3 = nI told) (htd2 : told ≤ 20) {most k : Nat} (hm1 : 1 ≤ most) (hm2 : most ≤ 200) (hk : k ≤ told) (i : Int32) (hi : ¬ -1 ≤ i) : q_Cd l g 2 mX9_stuffer [.ref 0, .int (nI most), .int (nI k), .int i] h (some (.int (-1))) h := by
  obtain ⟨P0, P1, P2, P2b, P3, P3b, P4, P4b, P5, P5b, P6, P6b⟩ := id hp
  rcases P1 with rfl | rfl
  · refine q_CdV mvX9_stuffer (Nat.le_of_ble_eq_true rfl) ?_
    refine xe_iload_n dX9_stuffer_0 rfl ?_
    refine xe_iconst dX9_stuffer_1 kc_1 ?_
    refine xn_icmp_lt (tgt := 32) dX9_stuffer_2 rfl (by omega) (by omega) (fun c1 => ?_) (fun c1 => ?_)
    · omega
    · refine xe_iload_n dX9_stuffer_5 rfl ?_
      refine xe_sipush dX9_stuffer_6 ks_200 ?_
      refine xn_icmp_gt (tgt := 32) dX9_stuffer_9 rfl (by omega) (by omega) (fun c2 => ?_) (fun c2 => ?_)
      · omega
      · refine xe_iload_n dX9_stuffer_12 rfl ?_
        refine xn_if_lt (tgt := 32) dX9_stuffer_13 rfl (by omega) ?_
        refine xe_iload_n dX9_stuffer_16 rfl ?_
        refine xe_aload_n dX9_stuffer_17 rfl ?_
        refine xe_getP dX9_stuffer_18 flX9_58 (st0 hs) (by decide) rfl (sp0_8 hs) ?_
        refine xe_getIv dX9_stuffer_21 flX9_127 (st94 hs) (by decide) rfl (v := nI told) (htd) ?_
        refine xn_icmp_gt (tgt := 32) dX9_stuffer_24 rfl (by omega) (by omega) (fun c4 => ?_) (fun c4 => ?_)
        · omega
        · refine xe_iload_n dX9_stuffer_27 rfl ?_
          refine xe_iconst dX9_stuffer_28 kc_m1 ?_
          refine xe_icmp_ge (tgt := 34) dX9_stuffer_29 rfl (fun c5 => ?_) (fun c5 => ?_)
          · exact absurd c5 hi
          · refine xe_iconst dX9_stuffer_32 kc_m1 ?_
            refine xe_ireturn dX9_stuffer_33 rfl (by first | rfl | decide +kernel) ?_
            exact ⟨rfl, rfl⟩
  · refine q_CdV mvX9_stuffer (Nat.le_of_ble_eq_true rfl) ?_
    refine xe_iload_n dX9_stuffer_0 rfl ?_
    refine xe_iconst dX9_stuffer_1 kc_1 ?_
    refine xn_icmp_lt (tgt := 32) dX9_stuffer_2 rfl (by omega) (by omega) (fun c1 => ?_) (fun c1 => ?_)
    · omega
    · refine xe_iload_n dX9_stuffer_5 rfl ?_
      refine xe_sipush dX9_stuffer_6 ks_200 ?_
      refine xn_icmp_gt (tgt := 32) dX9_stuffer_9 rfl (by omega) (by omega) (fun c2 => ?_) (fun c2 => ?_)
      · omega
      · refine xe_iload_n dX9_stuffer_12 rfl ?_
        refine xn_if_lt (tgt := 32) dX9_stuffer_13 rfl (by omega) ?_
        refine xe_iload_n dX9_stuffer_16 rfl ?_
        refine xe_aload_n dX9_stuffer_17 rfl ?_
        refine xe_getP dX9_stuffer_18 flX9_58 (st0 hs) (by decide) rfl (sp0_8 hs) ?_
        refine xe_getIv dX9_stuffer_21 flX9_127 (st94 hs) (by decide) rfl (v := nI told) (htd) ?_
        refine xn_icmp_gt (tgt := 32) dX9_stuffer_24 rfl (by omega) (by omega) (fun c4 => ?_) (fun c4 => ?_)
        · omega
        · refine xe_iload_n dX9_stuffer_27 rfl ?_
          refine xe_iconst dX9_stuffer_28 kc_m1 ?_
          refine xe_icmp_ge (tgt := 34) dX9_stuffer_29 rfl (fun c5 => ?_) (fun c5 => ?_)
          · exact absurd c5 hi
          · refine xe_iconst dX9_stuffer_32 kc_m1 ?_
            refine xe_ireturn dX9_stuffer_33 rfl (by first | rfl | decide +kernel) ?_
            exact ⟨rfl, rfl⟩
