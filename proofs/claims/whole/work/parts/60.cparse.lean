/-! the class: an empty program; a whole text of tokens -/
theorem tx_ifs_lt {K : q_TK} : ∀ (k : Nat) (rows : List q_ROW) (t : Nat) (x : q_lawT × Nat), tx_ifs K k rows t = .inr x → t < x.2
  | 0, rows, t, x, h => by
    rw [tx_ifs] at h
    split at h
    · cases h
    · obtain ⟨y, h1, h2⟩ := tx_r_inr h
      obtain ⟨h3, h4⟩ := tx_b_inr h2
      cases h4
      have := (tx_sum_ok K 6 _ _ h1).1
      show t < y.2 + 1
      omega
  | k + 1, rows, t, x, h => by
    rw [tx_ifs] at h
    split at h
    · obtain ⟨h1, h2⟩ := tx_b_inr h
      obtain ⟨y, h3, h4⟩ := tx_r_inr h2
      obtain ⟨h5, h6⟩ := tx_b_inr h4
      obtain ⟨z, h7, h8⟩ := tx_r_inr h6
      obtain ⟨h9, h10⟩ := tx_b_inr h8
      obtain ⟨w, h11, h12⟩ := tx_r_inr h10
      obtain ⟨h13, h14⟩ := tx_b_inr h12
      have := tx_ifs_lt k _ _ x h14
      have a1 := (tx_sum_ok K 6 _ _ h3).1
      have a2 := (tx_sum_ok K 6 _ _ h7).1
      have a3 := (tx_sum_ok K 6 _ _ h11).1
      omega
    · obtain ⟨y, h1, h2⟩ := tx_r_inr h
      obtain ⟨h3, h4⟩ := tx_b_inr h2
      cases h4
      have := (tx_sum_ok K 6 _ _ h1).1
      show t < y.2 + 1
      omega
theorem tx_law_lt {K : q_TK} {t : Nat} {x : q_lawT × Nat} (h : tx_law K t = .inr x) : t < x.2 := by
  obtain ⟨h1, h2⟩ := tx_b_inr h
  have := tx_ifs_lt 4 [] (t + 1) x h2
  omega
theorem tx_tell_lt {K : q_TK} {s : q_PS} {t : Nat} {x : q_PS × Nat} (h : tx_tell K s t = .inr x) : t + 2 ≤ x.2 := by
  have hn : ∀ (k b : Nat) (ns : List (List Nat)), tx_named K s k b ns t = .inr x → t + 2 ≤ x.2 := fun k b ns h => by
    obtain ⟨h1, h2⟩ := tx_b_inr h
    obtain ⟨h3, h4⟩ := tx_b_inr h2
    obtain ⟨y, h5, h6⟩ := tx_r_inr h4
    cases h6
    have := tx_law_lt h5
    show t + 2 ≤ y.2
    omega
  have hp : ∀ (k b : Nat), tx_plain K s k b t = .inr x → t + 2 ≤ x.2 := fun k b h => by
    obtain ⟨h1, h2⟩ := tx_b_inr h
    obtain ⟨y, h5, h6⟩ := tx_r_inr h2
    cases h6
    have := tx_law_lt h5
    show t + 2 ≤ y.2
    omega
  unfold tx_tell at h
  split at h
  · unfold tx_man at h
    split at h
    · cases h
    · have h2 := (tx_b_inr (tx_b_inr (tx_b_inr (tx_b_inr h).2).2).2).2
      cases h2
      show t + 2 ≤ t + 4
      omega
  · split at h
    · unfold tx_deed at h
      split at h
      · cases h
      · have h2 := (tx_b_inr (tx_b_inr (tx_b_inr (tx_b_inr h).2).2).2).2
        cases h2
        show t + 2 ≤ t + 4
        omega
    · split at h
      · exact hn _ _ _ h
      · split at h
        · exact hp _ _ h
        · split at h
          · exact hp _ _ h
          · split at h
            · exact hn _ _ _ h
            · split at h
              · obtain ⟨h1, h2⟩ := tx_b_inr h
                obtain ⟨y, h5, h6⟩ := tx_r_inr h2
                cases h6
                have := tx_co_le 12 _ _ _ y h5
                show t + 2 ≤ y.2
                omega
              · split at h
                · have h2 := (tx_b_inr (tx_b_inr (tx_b_inr h).2).2).2
                  cases h2
                  show t + 2 ≤ t + 3
                  omega
                · cases h
def q_emp (p : Nat) (h h1 : q_H) : Prop := h1.2 = h.2 ∧ (∀ r, r < p ∨ p + 9 < r → q_I h1 r = q_I h r) ∧ q_I h1 p 2 = nI 10 ∧ q_I h1 p 3 = nI 0 ∧ q_I h1 p 4 = nI 0 ∧ q_I h1 p 5 = nI 0 ∧ q_I h1 p 6 = nI 0 ∧ rk_L h1 p 10 (fun _ => none)
/-- how a text ends -/
def q_prA (K : q_TK) (m p : Nat) (h0 : q_H) (o : (Nat × Nat) ⊕ (q_PS × Nat)) (r : Option Value) (h : q_H) : Prop := r = none ∧ q_fr p h0 h ∧ match o with
  | .inl e => q_I h 7 7 = nI e.1 ∧ q_I h 7 8 = nI (tk_P K e.2)
  | .inr x => match ps_e x.1 with
    | none => q_I h 7 7 = nI 0 ∧ ∃ n, n ≤ 410 ∧ ck_V h K p n x.1
    | some e => q_I h 7 7 = nI e.1 ∧ q_I h 7 8 = nI (tk_P K e.2)
theorem c_X3_empty10 (l : Launch) (g : q_GP) (h : q_H) (hs : q_Stat h) : q_Ct l g 1 mX3_empty [.ref 10] h (fun r h1 => r = none ∧ q_emp 10 h h1) := by
  refine q_CtV mvX3_empty (Nat.le_of_ble_eq_true rfl) ?_
  refine xe_aload_n dX3_empty_0 rfl ?_
  refine xe_iconst dX3_empty_1 kc_0 ?_
  refine xe_putI dX3_empty_2 flX3_47 (st10 hs) (by decide) rfl (Or.inl rfl) rfl rfl ?_
  refine xe_aload_n dX3_empty_5 rfl ?_
  refine xe_iconst dX3_empty_6 kc_0 ?_
  refine xe_putI dX3_empty_7 flX3_51 (st10 hs) (by decide) rfl (Or.inl rfl) rfl rfl ?_
  refine xe_aload_n dX3_empty_10 rfl ?_
  refine xe_iconst dX3_empty_11 kc_0 ?_
  refine xe_putI dX3_empty_12 flX3_54 (st10 hs) (by decide) rfl (Or.inl rfl) rfl rfl ?_
  refine xe_aload_n dX3_empty_15 rfl ?_
  refine xe_iconst dX3_empty_16 kc_0 ?_
  refine xe_putI dX3_empty_17 flX3_57 (st10 hs) (by decide) rfl (Or.inl rfl) rfl rfl ?_
  refine xe_aload_n dX3_empty_20 rfl ?_
  refine xe_iconst dX3_empty_21 kc_0 ?_
  refine xe_putI dX3_empty_22 flX3_60 (st10 hs) (by decide) rfl (Or.inl rfl) rfl rfl ?_
  refine xe_aload_n dX3_empty_25 rfl ?_
  refine xe_iconst dX3_empty_26 kc_0 ?_
  refine xe_bipush dX3_empty_27 kb_10 ?_
  refine xe_callVI (d' := 0) (y' := mX3_emit) dX3_empty_29 mlX3_63 mvX3_emit rfl (st10 hs) (by decide) rfl (by decide) (by decide) (Nat.le_of_ble_eq_true rfl) (c_X3_emit10 l g _ (by exact hs) (n := 0) (by exact rfl) (by decide) _ _) rfl ?_
  refine xe_istore_n (i := 1) dX3_empty_32 rfl (by decide) rfl ?_
  refine xe_aload_n dX3_empty_33 rfl ?_
  refine xe_iconst dX3_empty_34 kc_2 ?_
  refine xe_iconst dX3_empty_35 kc_0 ?_
  refine xe_callVI (d' := 0) (y' := mX3_emit) dX3_empty_36 mlX3_63 mvX3_emit rfl (st10 hs) (by decide) rfl (by decide) (by decide) (Nat.le_of_ble_eq_true rfl) (c_X3_emit10 l g _ (by exact hs) (n := 1) (by exact rfl) (by decide) _ _) rfl ?_
  refine xe_pop dX3_empty_39 rfl ?_
  refine xe_aload_n dX3_empty_40 rfl ?_
  refine xe_getP dX3_empty_41 flX3_35 (st10 hs) (by decide) rfl (sp10_12 hs) ?_
  refine xe_iconst dX3_empty_44 kc_0 ?_
  refine xe_aload_n dX3_empty_45 rfl ?_
  refine xe_iconst dX3_empty_46 kc_0 ?_
  refine xe_iconst dX3_empty_47 kc_0 ?_
  refine xe_callVI (d' := 0) (y' := mX3_emit) dX3_empty_48 mlX3_63 mvX3_emit rfl (st10 hs) (by decide) rfl (by decide) (by decide) (Nat.le_of_ble_eq_true rfl) (c_X3_emit10 l g _ (by exact hs) (n := 2) (by exact rfl) (by decide) _ _) rfl ?_
  refine xn_iast dX3_empty_51 (st18 hs) (by omega) (by decide) ?_
  refine xe_aload_n dX3_empty_52 rfl ?_
  refine xe_iconst dX3_empty_53 kc_2 ?_
  refine xe_iconst dX3_empty_54 kc_0 ?_
  refine xe_callVI (d' := 0) (y' := mX3_emit) dX3_empty_55 mlX3_63 mvX3_emit rfl (st10 hs) (by decide) rfl (by decide) (by decide) (Nat.le_of_ble_eq_true rfl) (c_X3_emit10 l g _ (by exact hs) (n := 3) (by exact rfl) (by decide) _ _) rfl ?_
  refine xe_pop dX3_empty_58 rfl ?_
  refine xe_aload_n dX3_empty_59 rfl ?_
  refine xe_getP dX3_empty_60 flX3_38 (st10 hs) (by decide) rfl (sp10_13 hs) ?_
  refine xe_iconst dX3_empty_63 kc_0 ?_
  refine xe_aload_n dX3_empty_64 rfl ?_
  refine xe_iconst dX3_empty_65 kc_1 ?_
  refine xe_iconst dX3_empty_66 kc_0 ?_
  refine xe_callVI (d' := 0) (y' := mX3_emit) dX3_empty_67 mlX3_63 mvX3_emit rfl (st10 hs) (by decide) rfl (by decide) (by decide) (Nat.le_of_ble_eq_true rfl) (c_X3_emit10 l g _ (by exact hs) (n := 4) (by exact rfl) (by decide) _ _) rfl ?_
  refine xn_iast dX3_empty_70 (st19 hs) (by omega) (by decide) ?_
  refine xe_aload_n dX3_empty_71 rfl ?_
  refine xe_iconst dX3_empty_72 kc_1 ?_
  refine xe_iconst dX3_empty_73 kc_3 ?_
  refine xe_callVI (d' := 0) (y' := mX3_emit) dX3_empty_74 mlX3_63 mvX3_emit rfl (st10 hs) (by decide) rfl (by decide) (by decide) (Nat.le_of_ble_eq_true rfl) (c_X3_emit10 l g _ (by exact hs) (n := 5) (by exact rfl) (by decide) _ _) rfl ?_
  refine xe_pop dX3_empty_77 rfl ?_
  refine xe_aload_n dX3_empty_78 rfl ?_
  refine xe_bipush dX3_empty_79 kb_45 ?_
  refine xe_iconst dX3_empty_81 kc_0 ?_
  refine xe_callVI (d' := 0) (y' := mX3_emit) dX3_empty_82 mlX3_63 mvX3_emit rfl (st10 hs) (by decide) rfl (by decide) (by decide) (Nat.le_of_ble_eq_true rfl) (c_X3_emit10 l g _ (by exact hs) (n := 6) (by exact rfl) (by decide) _ _) rfl ?_
  refine xe_pop dX3_empty_85 rfl ?_
  refine xe_aload_n dX3_empty_86 rfl ?_
  refine xe_iconst dX3_empty_87 kc_2 ?_
  refine xe_iconst dX3_empty_88 kc_0 ?_
  refine xe_callVI (d' := 0) (y' := mX3_emit) dX3_empty_89 mlX3_63 mvX3_emit rfl (st10 hs) (by decide) rfl (by decide) (by decide) (Nat.le_of_ble_eq_true rfl) (c_X3_emit10 l g _ (by exact hs) (n := 7) (by exact rfl) (by decide) _ _) rfl ?_
  refine xe_pop dX3_empty_92 rfl ?_
  refine xe_aload_n dX3_empty_93 rfl ?_
  refine xe_iconst dX3_empty_94 kc_1 ?_
  refine xe_iconst dX3_empty_95 kc_0 ?_
  refine xe_callVI (d' := 0) (y' := mX3_emit) dX3_empty_96 mlX3_63 mvX3_emit rfl (st10 hs) (by decide) rfl (by decide) (by decide) (Nat.le_of_ble_eq_true rfl) (c_X3_emit10 l g _ (by exact hs) (n := 8) (by exact rfl) (by decide) _ _) rfl ?_
  refine xe_istore_n (i := 2) dX3_empty_99 rfl (by decide) rfl ?_
  refine xe_aload_n dX3_empty_100 rfl ?_
  refine xe_iconst dX3_empty_101 kc_2 ?_
  refine xe_iconst dX3_empty_102 kc_0 ?_
  refine xe_callVI (d' := 0) (y' := mX3_emit) dX3_empty_103 mlX3_63 mvX3_emit rfl (st10 hs) (by decide) rfl (by decide) (by decide) (Nat.le_of_ble_eq_true rfl) (c_X3_emit10 l g _ (by exact hs) (n := 9) (by exact rfl) (by decide) _ _) rfl ?_
  refine xe_pop dX3_empty_106 rfl ?_
  refine xe_iconst dX3_empty_107 kc_0 ?_
  refine xe_istore_n (i := 3) dX3_empty_108 rfl (by decide) rfl ?_
  refine xe_fin (L' := (fun (i_ : Nat) (s1 : (Nat → Int32) × (Nat → Int32)) => [(0, .ref 10), (1, .int (nI 0)), (2, .int (nI 8)), (3, .int (nI i_))]) 0 (q_I h 16, q_I h 17)) (h' := (fun (i_ : Nat) (s1 : (Nat → Int32) × (Nat → Int32)) => (q_wI (q_wI (q_wI (q_wI (q_wI (q_wI (q_wI h 10 (upd (upd (upd (upd (upd (q_I h 10) 2 (nI 10)) 3 (nI 0)) 4 (nI 0)) 5 (nI 0)) 6 (nI 0))) 11 (upd (upd (upd (upd (upd (upd (upd (upd (upd (upd (q_I h 11) 0 (nI 0)) 1 (nI 2)) 2 (nI 0)) 3 (nI 2)) 4 (nI 1)) 5 (nI 1)) 6 (nI 45)) 7 (nI 2)) 8 (nI 1)) 9 (nI 2))) 12 (upd (upd (upd (upd (upd (upd (upd (upd (upd (upd (q_I h 12) 0 (nI 10)) 1 (nI 0)) 2 (nI 0)) 3 (nI 0)) 4 (nI 0)) 5 (nI 3)) 6 (nI 0)) 7 (nI 0)) 8 (nI 0)) 9 (nI 0))) 16 s1.1) 17 s1.2) 18 (upd (q_I h 18) 0 (nI 2))) 19 (upd (q_I h 19) 0 (nI 4)))) 0 (q_I h 16, q_I h 17)) ?_ (And.intro rfl (And.intro rfl (And.intro rfl (And.intro rfl trivial)))) (q_heq [10, 11, 12, 16, 17, 18, 19] (H := h) (by repeat (first | exact q_out_r | refine q_out_w rfl ?_)) (by repeat (first | exact q_out_r | refine q_out_w rfl ?_)) (And.intro (q_feq [2, 3, 4, 5, 6] (f := q_I h 10) (by repeat (first | exact q_fout_r | refine q_fout_w rfl ?_)) (by repeat (first | exact q_fout_r | refine q_fout_w rfl ?_)) (And.intro rfl (And.intro rfl (And.intro rfl (And.intro rfl (And.intro rfl trivial)))))) (And.intro rfl (And.intro rfl (And.intro rfl (And.intro rfl (And.intro rfl (And.intro rfl trivial))))))))
  refine xe_loopI (σ := (Nat → Int32) × (Nat → Int32)) (8) (fun i s => ∀ k, k < i → s.1 k = nI 0 ∧ s.2 k = nI 8) (fun (i_ : Nat) (s1 : (Nat → Int32) × (Nat → Int32)) => [(0, .ref 10), (1, .int (nI 0)), (2, .int (nI 8)), (3, .int (nI i_))]) (fun (i_ : Nat) (s1 : (Nat → Int32) × (Nat → Int32)) => (q_wI (q_wI (q_wI (q_wI (q_wI (q_wI (q_wI h 10 (upd (upd (upd (upd (upd (q_I h 10) 2 (nI 10)) 3 (nI 0)) 4 (nI 0)) 5 (nI 0)) 6 (nI 0))) 11 (upd (upd (upd (upd (upd (upd (upd (upd (upd (upd (q_I h 11) 0 (nI 0)) 1 (nI 2)) 2 (nI 0)) 3 (nI 2)) 4 (nI 1)) 5 (nI 1)) 6 (nI 45)) 7 (nI 2)) 8 (nI 1)) 9 (nI 2))) 12 (upd (upd (upd (upd (upd (upd (upd (upd (upd (upd (q_I h 12) 0 (nI 10)) 1 (nI 0)) 2 (nI 0)) 3 (nI 0)) 4 (nI 0)) 5 (nI 3)) 6 (nI 0)) 7 (nI 0)) 8 (nI 0)) 9 (nI 0))) 16 s1.1) 17 s1.2) 18 (upd (q_I h 18) 0 (nI 2))) 19 (upd (q_I h 19) 0 (nI 4)))) (q_I h 16, q_I h 17) (fun k q => absurd q (Nat.not_lt_zero _)) (fun i_ hi_ s1 e1 K1 => ?_) (fun s1 e1 => ?_)
  · refine xe_iload_n dX3_empty_109 rfl ?_
    refine xe_bipush dX3_empty_110 kb_8 ?_
    refine xn_icmp_ge (tgt := 135) dX3_empty_112 rfl (by omega) (by omega) (fun c2 => ?_) (fun c2 => ?_)
    · omega
    · refine xe_aload_n dX3_empty_115 rfl ?_
      refine xe_getP dX3_empty_116 flX3_29 (st10 hs) (by decide) rfl (sp10_10 hs) ?_
      refine xe_iload_n dX3_empty_119 rfl ?_
      refine xe_iload_n dX3_empty_120 rfl ?_
      refine xn_iast dX3_empty_121 (st16 hs) (by omega) (by decide) ?_
      refine xe_aload_n dX3_empty_122 rfl ?_
      refine xe_getP dX3_empty_123 flX3_32 (st10 hs) (by decide) rfl (sp10_11 hs) ?_
      refine xe_iload_n dX3_empty_126 rfl ?_
      refine xe_iload_n dX3_empty_127 rfl ?_
      refine xn_iast dX3_empty_128 (st17 hs) (by omega) (by decide) ?_
      refine xn_iinc dX3_empty_129 rfl kc_1 ?_
      refine xe_goto (tgt := 109) dX3_empty_132 rfl ?_
      exact xe_fin (K1 (upd s1.1 i_ (nI 0), upd s1.2 i_ (nI 8)) (fun k q => ⟨q_updw (fun _ => rfl) (fun e => (e1 k (by omega)).1), q_updw (fun _ => rfl) (fun e => (e1 k (by omega)).2)⟩)) (And.intro rfl (And.intro rfl (And.intro rfl (And.intro rfl trivial)))) (q_heq [10, 11, 12, 16, 17, 18, 19] (H := h) (by repeat (first | exact q_out_r | refine q_out_w rfl ?_)) (by repeat (first | exact q_out_r | refine q_out_w rfl ?_)) (And.intro (q_feq [2, 3, 4, 5, 6] (f := q_I h 10) (by repeat (first | exact q_fout_r | refine q_fout_w rfl ?_)) (by repeat (first | exact q_fout_r | refine q_fout_w rfl ?_)) (And.intro rfl (And.intro rfl (And.intro rfl (And.intro rfl (And.intro rfl trivial)))))) (And.intro rfl (And.intro rfl (And.intro rfl (And.intro rfl (And.intro rfl (And.intro rfl trivial))))))))
  · refine xe_iload_n dX3_empty_109 rfl ?_
    refine xe_bipush dX3_empty_110 kb_8 ?_
    refine xn_icmp_ge (tgt := 135) dX3_empty_112 rfl (by omega) (by omega) (fun c3 => ?_) (fun c3 => ?_)
    · refine xe_return dX3_empty_135 rfl ?_
      refine ⟨rfl, rfl, fun r a => ?_, rfl, rfl, rfl, rfl, rfl, ?_⟩
      · repeat (first | exact rfl | refine (q_Ine (by omega)).trans ?_)
      · exact ⟨fun k hk => ⟨0, (e1 k hk).1, by
          rw [show q_lw (fun _ => none) k = ([], [(0, nI 10)]) from if_pos hk]
          exact ⟨⟨rfl, rfl, trivial⟩, ⟨by decide, rfl⟩, rfl, by decide⟩⟩, fun k hk => ⟨8, (e1 k hk).2, by
          rw [show q_lw (fun _ => none) (8 + k) = ([], [(1, nI 0)]) from (if_neg (by omega)).trans (if_pos (by omega))]
          exact ⟨⟨rfl, rfl, trivial⟩, ⟨by decide, ⟨0, by decide, rfl⟩, rfl⟩, rfl, by decide⟩⟩, ⟨2, rfl, ⟨⟨rfl, rfl, trivial⟩, ⟨by decide, rfl⟩, rfl, by decide⟩⟩, ⟨4, rfl, ⟨⟨rfl, rfl, rfl, rfl, rfl, rfl, trivial⟩, ⟨by decide, ⟨0, by decide, rfl⟩, by decide, ⟨3, by decide, rfl⟩, by decide, by decide, rfl⟩, rfl, by decide⟩⟩⟩
    · omega
theorem pr_out10 (l : Launch) (g : q_GP) (h : q_H) {d i : Nat} (hi : i ≤ 402) {Q : Option Value → q_H → Prop} (q : Q none h) : q_Ex l g d mX5_parse 47 [(0, .ref 7), (1, .ref 1), (2, .ref 10), (3, .int (nI 0)), (4, .int (nI i))] [] h Q := by
  refine xe_iload dX5_parse_47 rfl ?_
  refine xe_sipush dX5_parse_49 ks_400 ?_
  refine xn_icmp_ge (tgt := 77) dX5_parse_52 rfl (by omega) (by omega) (fun c1 => ?_) (fun c1 => ?_)
  · refine xe_iload_n dX5_parse_77 rfl ?_
    refine xn_if_eq (tgt := 104) dX5_parse_78 rfl (by omega) (fun c2 => ?_) (fun c2 => ?_)
    · refine xe_return dX5_parse_104 rfl ?_
      exact q
    · omega
  · refine xe_iload_n dX5_parse_55 rfl ?_
    refine xn_if_eq (tgt := 77) dX5_parse_56 rfl (by omega) (fun c3 => ?_) (fun c3 => ?_)
    · refine xe_iload_n dX5_parse_77 rfl ?_
      refine xn_if_eq (tgt := 104) dX5_parse_78 rfl (by omega) (fun c4 => ?_) (fun c4 => ?_)
      · refine xe_return dX5_parse_104 rfl ?_
        exact q
      · omega
    · omega
theorem pr_loop10 (l : Launch) (g : q_GP) {K : q_TK} {m : Nat} {h0 : q_H} : ∀ (f i : Nat) (s : q_PS) (t : Nat) (h : q_H) (n : Nat), q_Stat h → q_fr 10 h0 h → ck_R h K m 10 t → ck_V h K 10 n s → n ≤ 10 + t → i + f = 401 → 2 * i ≤ t → q_Ex l g 24 mX5_parse 47 [(0, .ref 7), (1, .ref 1), (2, .ref 10), (3, .int (nI 1)), (4, .int (nI i))] [] h (q_prA K m 10 h0 (tx_all K f s t)) := by
  intro f
  induction f with
  | zero =>
    intro i s t h n hs hf hR hV hnt hif hit
    have h4m := hR.2.2.1.1
    have htm := hR.2.2.2.1
    omega
  | succ f ih =>
    intro i s t h n hs hf hR hV hnt hif hit
    have hI2 := hR.1
    have hI3 := hR.2.1
    have h4 := hR.2.2.2.2.1
    have h5 := hR.2.2.2.2.2
    have h4m := hR.2.2.1.1
    have htm := hR.2.2.2.1
    have hok := (hR.2.2.1.2.2 t htm).1
    rw [tx_all]
    by_cases h0t : tk_T K t = 0
    · rw [if_pos h0t]
      have hk5 : q_I h 7 5 = nI 0 := h5.trans (by rw [h0t]; rfl)
      have vE := hV.2.2.2.2.2.2.2.2.2.2.2.2.2.2.2.1
      have v7 := hV.2.2.2.2.2.2.2.2.2.2.2.2.2.2.2.2
      show q_Ex l g 24 mX5_parse 47 _ [] h (fun r h1 => r = none ∧ q_fr 10 h0 h1 ∧ match ps_e s with | none => q_I h1 7 7 = nI 0 ∧ ∃ n, n ≤ 410 ∧ ck_V h1 K 10 n s | some e => q_I h1 7 7 = nI e.1 ∧ q_I h1 7 8 = nI (tk_P K e.2))
      cases he : ps_e s with
      | none =>
        rw [he] at vE
        have l9 : q_I h 7 9 = nI 0 := vE
        refine xe_iload dX5_parse_47 rfl ?_
        refine xe_sipush dX5_parse_49 ks_400 ?_
        refine xn_icmp_ge (tgt := 77) dX5_parse_52 rfl (by omega) (by omega) (fun c1 => ?_) (fun c1 => ?_)
        · omega
        · refine xe_iload_n dX5_parse_55 rfl ?_
          refine xn_if_eq (tgt := 77) dX5_parse_56 rfl (by omega) (fun c2 => ?_) (fun c2 => ?_)
          · omega
          · refine xe_aload_n dX5_parse_59 rfl ?_
            refine xe_getIv dX5_parse_60 flX5_41 (st7 hs) (by decide) rfl (v := nI 0) (hk5) ?_
            refine xn_if_eq (tgt := 77) dX5_parse_63 rfl (by omega) (fun c3 => ?_) (fun c3 => ?_)
            · refine xe_iload_n dX5_parse_77 rfl ?_
              refine xn_if_eq (tgt := 104) dX5_parse_78 rfl (by omega) (fun c4 => ?_) (fun c4 => ?_)
              · omega
              · refine xe_aload_n dX5_parse_81 rfl ?_
                refine xe_getIv dX5_parse_82 flX5_47 (st7 hs) (by decide) rfl (v := nI 0) (l9) ?_
                refine xn_if_eq (tgt := 104) dX5_parse_85 rfl (by omega) (fun c5 => ?_) (fun c5 => ?_)
                · refine xe_return dX5_parse_104 rfl ?_
                  exact ⟨rfl, hf, v7, n, by omega, hV⟩
                · omega
            · omega
      | some e =>
        rw [he] at vE
        obtain ⟨l9, l1, l5, l10⟩ := vE
        refine xe_iload dX5_parse_47 rfl ?_
        refine xe_sipush dX5_parse_49 ks_400 ?_
        refine xn_icmp_ge (tgt := 77) dX5_parse_52 rfl (by omega) (by omega) (fun c1 => ?_) (fun c1 => ?_)
        · omega
        · refine xe_iload_n dX5_parse_55 rfl ?_
          refine xn_if_eq (tgt := 77) dX5_parse_56 rfl (by omega) (fun c2 => ?_) (fun c2 => ?_)
          · omega
          · refine xe_aload_n dX5_parse_59 rfl ?_
            refine xe_getIv dX5_parse_60 flX5_41 (st7 hs) (by decide) rfl (v := nI 0) (hk5) ?_
            refine xn_if_eq (tgt := 77) dX5_parse_63 rfl (by omega) (fun c3 => ?_) (fun c3 => ?_)
            · refine xe_iload_n dX5_parse_77 rfl ?_
              refine xn_if_eq (tgt := 104) dX5_parse_78 rfl (by omega) (fun c4 => ?_) (fun c4 => ?_)
              · omega
              · refine xe_aload_n dX5_parse_81 rfl ?_
                refine xe_getIv dX5_parse_82 flX5_47 (st7 hs) (by decide) rfl (v := nI e.1) (l9) ?_
                refine xn_if_eq (tgt := 104) dX5_parse_85 rfl (by omega) (fun c5 => ?_) (fun c5 => ?_)
                · omega
                · refine xe_aload_n dX5_parse_88 rfl ?_
                  refine xe_aload_n dX5_parse_89 rfl ?_
                  refine xe_getIv dX5_parse_90 flX5_47 (st7 hs) (by decide) rfl (v := nI e.1) (l9) ?_
                  refine xe_putI dX5_parse_93 flX5_44 (st7 hs) (by decide) rfl (Or.inl rfl) rfl rfl ?_
                  refine xe_aload_n dX5_parse_96 rfl ?_
                  refine xe_aload_n dX5_parse_97 rfl ?_
                  refine xe_getIv dX5_parse_98 flX5_54 (st7 hs) (by decide) rfl (v := nI (tk_P K e.2)) (l10) ?_
                  refine xe_putI dX5_parse_101 flX5_57 (st7 hs) (by decide) rfl (Or.inl rfl) rfl rfl ?_
                  refine xe_return dX5_parse_104 rfl ?_
                  exact ⟨rfl, fr_I (by decide) (fr_I (by decide) hf), rfl, rfl⟩
            · omega
    · rw [if_neg h0t]
      have hkn : ¬ q_kap (tk_T K t) = 0 := fun q => h0t (q_kap_inj (b := 0) hok (by decide) (by decide) q)
      have hC := c_X5_takeTell10 l g h hs hR hV hnt
      cases he : tx_tell K s t with
      | inl er =>
        rw [he] at hC
        refine xe_iload dX5_parse_47 rfl ?_
        refine xe_sipush dX5_parse_49 ks_400 ?_
        refine xn_icmp_ge (tgt := 77) dX5_parse_52 rfl (by omega) (by omega) (fun c1 => ?_) (fun c1 => ?_)
        · omega
        · refine xe_iload_n dX5_parse_55 rfl ?_
          refine xn_if_eq (tgt := 77) dX5_parse_56 rfl (by omega) (fun c2 => ?_) (fun c2 => ?_)
          · omega
          · refine xe_aload_n dX5_parse_59 rfl ?_
            refine xe_getIv dX5_parse_60 flX5_41 (st7 hs) (by decide) rfl (v := (q_kap (tk_T K t))) (h5) ?_
            refine xe_if_eq (tgt := 77) dX5_parse_63 rfl (fun c3 => ?_) (fun c3 => ?_)
            · exact absurd c3 hkn
            · refine xe_aload_n dX5_parse_66 rfl ?_
              refine xe_callVIq (d' := 23) (y' := mX5_takeTell) dX5_parse_67 mlX5_50 mvX5_takeTell rfl (st7 hs) (by decide) rfl (by decide) (by decide) (Nat.le_of_ble_eq_true rfl) (hC) rfl (fun h1 hq => ?_)
              refine xe_istore_n (i := 3) dX5_parse_70 rfl (by decide) rfl ?_
              refine xn_iinc dX5_parse_71 rfl kc_1 ?_
              refine xe_goto (tgt := 47) dX5_parse_74 rfl ?_
              refine xe_locals (L' := [(0, .ref 7), (1, .ref 1), (2, .ref 10), (3, .int (nI 0)), (4, .int (nI (i + 1)))]) (And.intro rfl (And.intro rfl (And.intro rfl (And.intro rfl (And.intro rfl trivial))))) ?_
              exact pr_out10 l g _ (by omega) ⟨rfl, fr_t hf hq.1, hq.2.1, hq.2.2⟩
      | inr x =>
        rw [he] at hC
        have hlt := tx_tell_lt he
        refine xe_iload dX5_parse_47 rfl ?_
        refine xe_sipush dX5_parse_49 ks_400 ?_
        refine xn_icmp_ge (tgt := 77) dX5_parse_52 rfl (by omega) (by omega) (fun c1 => ?_) (fun c1 => ?_)
        · omega
        · refine xe_iload_n dX5_parse_55 rfl ?_
          refine xn_if_eq (tgt := 77) dX5_parse_56 rfl (by omega) (fun c2 => ?_) (fun c2 => ?_)
          · omega
          · refine xe_aload_n dX5_parse_59 rfl ?_
            refine xe_getIv dX5_parse_60 flX5_41 (st7 hs) (by decide) rfl (v := (q_kap (tk_T K t))) (h5) ?_
            refine xe_if_eq (tgt := 77) dX5_parse_63 rfl (fun c3 => ?_) (fun c3 => ?_)
            · exact absurd c3 hkn
            · refine xe_aload_n dX5_parse_66 rfl ?_
              refine xe_callVIq (d' := 23) (y' := mX5_takeTell) dX5_parse_67 mlX5_50 mvX5_takeTell rfl (st7 hs) (by decide) rfl (by decide) (by decide) (Nat.le_of_ble_eq_true rfl) (hC) rfl (fun h1 hq => ?_)
              refine xe_istore_n (i := 3) dX5_parse_70 rfl (by decide) rfl ?_
              refine xn_iinc dX5_parse_71 rfl kc_1 ?_
              refine xe_goto (tgt := 47) dX5_parse_74 rfl ?_
              refine xe_locals (L' := [(0, .ref 7), (1, .ref 1), (2, .ref 10), (3, .int (nI 1)), (4, .int (nI (i + 1)))]) (And.intro rfl (And.intro rfl (And.intro rfl (And.intro rfl (And.intro rfl trivial))))) ?_
              obtain ⟨q1, q2, q3, q4, n1, q5, q6⟩ := hq
              refine ih (i + 1) x.1 x.2 h1 n1 (q_Stat_3 q1.2.2 hs) (fr_t hf q1) ?_ q6 q5 (by omega) (by omega)
              exact ck_R_t hR (congrArg (fun z => z.1 7) q1.2.2) (q1.1 3 (by decide) (by decide)) (q1.1 4 (by decide) (by decide)) (q1.2.1 5 (by decide) (by decide)) q2 q3 q4
theorem pr_10_10 (l : Launch) (g : q_GP) (h : q_H) (hs : q_Stat h) {K : q_TK} {m : Nat} (hI2 : q_P h 7 2 = some 1) (hI3 : q_P h 7 3 = some 10) (hT : ck_T h K m) : q_Ex l g 24 mX5_parse 10 [(0, .ref 7), (1, .ref 1), (2, .ref 10)] [] h (q_prA K m 10 h (tx_all K 401 tx_0 0)) := by
  have hk0 := (hT.2.2 0 (Nat.zero_le _)).2.2.1
  refine xe_aload_n dX5_parse_10 rfl ?_
  refine xe_getP dX5_parse_11 flX5_26 (st7 hs) (by decide) rfl hI3 ?_
  refine xe_callVVq (d' := 1) (y' := mX3_empty) dX5_parse_14 mlX5_30 mvX3_empty rfl (st10 hs) (by decide) rfl (by decide) (by decide) (Nat.le_of_ble_eq_true rfl) (c_X3_empty10 l g _ hs) rfl (fun h1 hq => ?_)
  obtain ⟨e1, e2, e3, e4, e5, e6, e7, e8⟩ := hq
  have hI2 : q_P h1 7 2 = some 1 := (congrArg (fun z => z.2.1 7 2) e1).trans hI2
  have hI3 : q_P h1 7 3 = some 10 := (congrArg (fun z => z.2.1 7 3) e1).trans hI3
  have hs : q_Stat h1 := q_Stat_2 e1 hs
  have hk0 : q_I h1 3 0 = q_kap (tk_T K 0) := (congrFun (e2 3 (by decide)) 0).trans hk0
  refine xe_aload_n dX5_parse_17 rfl ?_
  refine xe_iconst dX5_parse_18 kc_0 ?_
  refine xe_putI dX5_parse_19 flX5_33 (st7 hs) (by decide) rfl (Or.inl rfl) rfl rfl ?_
  refine xe_aload_n dX5_parse_22 rfl ?_
  refine xe_aload_n dX5_parse_23 rfl ?_
  refine xe_getP dX5_parse_24 flX5_37 (st1 hs) (by decide) rfl (sp1_2 hs) ?_
  refine xe_iconst dX5_parse_27 kc_0 ?_
  refine xn_ialdv dX5_parse_28 (st3 hs) (by omega) (by decide) (v := (q_kap (tk_T K 0))) (hk0) ?_
  refine xe_putI dX5_parse_29 flX5_41 (st7 hs) (by decide) rfl (Or.inl rfl) rfl rfl ?_
  refine xe_aload_n dX5_parse_32 rfl ?_
  refine xe_iconst dX5_parse_33 kc_0 ?_
  refine xe_putI dX5_parse_34 flX5_44 (st7 hs) (by decide) rfl (Or.inl rfl) rfl rfl ?_
  refine xe_aload_n dX5_parse_37 rfl ?_
  refine xe_iconst dX5_parse_38 kc_0 ?_
  refine xe_putI dX5_parse_39 flX5_47 (st7 hs) (by decide) rfl (Or.inl rfl) rfl rfl ?_
  refine xe_iconst dX5_parse_42 kc_1 ?_
  refine xe_istore_n (i := 3) dX5_parse_43 rfl (by decide) rfl ?_
  refine xe_iconst dX5_parse_44 kc_0 ?_
  refine xe_istore dX5_parse_45 (by decide) rfl ?_
  refine xe_locals (L' := [(0, .ref 7), (1, .ref 1), (2, .ref 10), (3, .int (nI 1)), (4, .int (nI 0))]) (And.intro rfl (And.intro rfl (And.intro rfl (And.intro rfl (And.intro rfl trivial))))) ?_
  refine pr_loop10 l g 401 0 tx_0 0 _ 10 (by exact hs) (fr_I (by decide) (fr_I (by decide) (fr_I (by decide) (fr_I (by decide) ⟨fun r a b => e2 r b, fun r _ _ => congrArg (fun z => z.1 r) e1, congrArg (fun z => z.2) e1⟩)))) ⟨hI2, hI3, ?_, Nat.zero_le _, rfl, rfl⟩ ⟨e3, e4, e5, e6, e7, by decide, rfl, rfl, by decide, fun i q => absurd q (Nat.not_lt_zero _), fun i q => absurd q (Nat.not_lt_zero _), fun i q => absurd q (Nat.not_lt_zero _), e8, ⟨by decide, fun i q => absurd q (Nat.not_lt_zero _)⟩, ⟨by decide, fun i q => absurd q (Nat.not_lt_zero _)⟩, rfl, rfl⟩ (by decide) rfl (by decide)
  refine ⟨hT.1, hT.2.1, fun i hi => ?_⟩
  obtain ⟨z1, z2, z3, z4, z5, z6⟩ := hT.2.2 i hi
  have eJ : q_J h1 5 = q_J h 5 := congrArg (fun z => z.1 5) e1
  exact ⟨z1, z2, (congrFun (e2 3 (by decide)) i).trans z3, (congrFun (e2 4 (by decide)) i).trans z4, fun a => ⟨(congrFun eJ i).trans (z5 a).1, (z5 a).2⟩, fun a => ⟨(congrArg Int64.toInt32 (congrFun eJ i)).trans (z6 a).1, (z6 a).2⟩⟩
theorem c_X3_empty22 (l : Launch) (g : q_GP) (h : q_H) (hs : q_Stat h) : q_Ct l g 1 mX3_empty [.ref 22] h (fun r h1 => r = none ∧ q_emp 22 h h1) := by
  refine q_CtV mvX3_empty (Nat.le_of_ble_eq_true rfl) ?_
  refine xe_aload_n dX3_empty_0 rfl ?_
  refine xe_iconst dX3_empty_1 kc_0 ?_
  refine xe_putI dX3_empty_2 flX3_47 (st22 hs) (by decide) rfl (Or.inl rfl) rfl rfl ?_
  refine xe_aload_n dX3_empty_5 rfl ?_
  refine xe_iconst dX3_empty_6 kc_0 ?_
  refine xe_putI dX3_empty_7 flX3_51 (st22 hs) (by decide) rfl (Or.inl rfl) rfl rfl ?_
  refine xe_aload_n dX3_empty_10 rfl ?_
  refine xe_iconst dX3_empty_11 kc_0 ?_
  refine xe_putI dX3_empty_12 flX3_54 (st22 hs) (by decide) rfl (Or.inl rfl) rfl rfl ?_
  refine xe_aload_n dX3_empty_15 rfl ?_
  refine xe_iconst dX3_empty_16 kc_0 ?_
  refine xe_putI dX3_empty_17 flX3_57 (st22 hs) (by decide) rfl (Or.inl rfl) rfl rfl ?_
  refine xe_aload_n dX3_empty_20 rfl ?_
  refine xe_iconst dX3_empty_21 kc_0 ?_
  refine xe_putI dX3_empty_22 flX3_60 (st22 hs) (by decide) rfl (Or.inl rfl) rfl rfl ?_
  refine xe_aload_n dX3_empty_25 rfl ?_
  refine xe_iconst dX3_empty_26 kc_0 ?_
  refine xe_bipush dX3_empty_27 kb_10 ?_
  refine xe_callVI (d' := 0) (y' := mX3_emit) dX3_empty_29 mlX3_63 mvX3_emit rfl (st22 hs) (by decide) rfl (by decide) (by decide) (Nat.le_of_ble_eq_true rfl) (c_X3_emit22 l g _ (by exact hs) (n := 0) (by exact rfl) (by decide) _ _) rfl ?_
  refine xe_istore_n (i := 1) dX3_empty_32 rfl (by decide) rfl ?_
  refine xe_aload_n dX3_empty_33 rfl ?_
  refine xe_iconst dX3_empty_34 kc_2 ?_
  refine xe_iconst dX3_empty_35 kc_0 ?_
  refine xe_callVI (d' := 0) (y' := mX3_emit) dX3_empty_36 mlX3_63 mvX3_emit rfl (st22 hs) (by decide) rfl (by decide) (by decide) (Nat.le_of_ble_eq_true rfl) (c_X3_emit22 l g _ (by exact hs) (n := 1) (by exact rfl) (by decide) _ _) rfl ?_
  refine xe_pop dX3_empty_39 rfl ?_
  refine xe_aload_n dX3_empty_40 rfl ?_
  refine xe_getP dX3_empty_41 flX3_35 (st22 hs) (by decide) rfl (sp22_12 hs) ?_
  refine xe_iconst dX3_empty_44 kc_0 ?_
  refine xe_aload_n dX3_empty_45 rfl ?_
  refine xe_iconst dX3_empty_46 kc_0 ?_
  refine xe_iconst dX3_empty_47 kc_0 ?_
  refine xe_callVI (d' := 0) (y' := mX3_emit) dX3_empty_48 mlX3_63 mvX3_emit rfl (st22 hs) (by decide) rfl (by decide) (by decide) (Nat.le_of_ble_eq_true rfl) (c_X3_emit22 l g _ (by exact hs) (n := 2) (by exact rfl) (by decide) _ _) rfl ?_
  refine xn_iast dX3_empty_51 (st30 hs) (by omega) (by decide) ?_
  refine xe_aload_n dX3_empty_52 rfl ?_
  refine xe_iconst dX3_empty_53 kc_2 ?_
  refine xe_iconst dX3_empty_54 kc_0 ?_
  refine xe_callVI (d' := 0) (y' := mX3_emit) dX3_empty_55 mlX3_63 mvX3_emit rfl (st22 hs) (by decide) rfl (by decide) (by decide) (Nat.le_of_ble_eq_true rfl) (c_X3_emit22 l g _ (by exact hs) (n := 3) (by exact rfl) (by decide) _ _) rfl ?_
  refine xe_pop dX3_empty_58 rfl ?_
  refine xe_aload_n dX3_empty_59 rfl ?_
  refine xe_getP dX3_empty_60 flX3_38 (st22 hs) (by decide) rfl (sp22_13 hs) ?_
  refine xe_iconst dX3_empty_63 kc_0 ?_
  refine xe_aload_n dX3_empty_64 rfl ?_
  refine xe_iconst dX3_empty_65 kc_1 ?_
  refine xe_iconst dX3_empty_66 kc_0 ?_
  refine xe_callVI (d' := 0) (y' := mX3_emit) dX3_empty_67 mlX3_63 mvX3_emit rfl (st22 hs) (by decide) rfl (by decide) (by decide) (Nat.le_of_ble_eq_true rfl) (c_X3_emit22 l g _ (by exact hs) (n := 4) (by exact rfl) (by decide) _ _) rfl ?_
  refine xn_iast dX3_empty_70 (st31 hs) (by omega) (by decide) ?_
  refine xe_aload_n dX3_empty_71 rfl ?_
  refine xe_iconst dX3_empty_72 kc_1 ?_
  refine xe_iconst dX3_empty_73 kc_3 ?_
  refine xe_callVI (d' := 0) (y' := mX3_emit) dX3_empty_74 mlX3_63 mvX3_emit rfl (st22 hs) (by decide) rfl (by decide) (by decide) (Nat.le_of_ble_eq_true rfl) (c_X3_emit22 l g _ (by exact hs) (n := 5) (by exact rfl) (by decide) _ _) rfl ?_
  refine xe_pop dX3_empty_77 rfl ?_
  refine xe_aload_n dX3_empty_78 rfl ?_
  refine xe_bipush dX3_empty_79 kb_45 ?_
  refine xe_iconst dX3_empty_81 kc_0 ?_
  refine xe_callVI (d' := 0) (y' := mX3_emit) dX3_empty_82 mlX3_63 mvX3_emit rfl (st22 hs) (by decide) rfl (by decide) (by decide) (Nat.le_of_ble_eq_true rfl) (c_X3_emit22 l g _ (by exact hs) (n := 6) (by exact rfl) (by decide) _ _) rfl ?_
  refine xe_pop dX3_empty_85 rfl ?_
  refine xe_aload_n dX3_empty_86 rfl ?_
  refine xe_iconst dX3_empty_87 kc_2 ?_
  refine xe_iconst dX3_empty_88 kc_0 ?_
  refine xe_callVI (d' := 0) (y' := mX3_emit) dX3_empty_89 mlX3_63 mvX3_emit rfl (st22 hs) (by decide) rfl (by decide) (by decide) (Nat.le_of_ble_eq_true rfl) (c_X3_emit22 l g _ (by exact hs) (n := 7) (by exact rfl) (by decide) _ _) rfl ?_
  refine xe_pop dX3_empty_92 rfl ?_
  refine xe_aload_n dX3_empty_93 rfl ?_
  refine xe_iconst dX3_empty_94 kc_1 ?_
  refine xe_iconst dX3_empty_95 kc_0 ?_
  refine xe_callVI (d' := 0) (y' := mX3_emit) dX3_empty_96 mlX3_63 mvX3_emit rfl (st22 hs) (by decide) rfl (by decide) (by decide) (Nat.le_of_ble_eq_true rfl) (c_X3_emit22 l g _ (by exact hs) (n := 8) (by exact rfl) (by decide) _ _) rfl ?_
  refine xe_istore_n (i := 2) dX3_empty_99 rfl (by decide) rfl ?_
  refine xe_aload_n dX3_empty_100 rfl ?_
  refine xe_iconst dX3_empty_101 kc_2 ?_
  refine xe_iconst dX3_empty_102 kc_0 ?_
  refine xe_callVI (d' := 0) (y' := mX3_emit) dX3_empty_103 mlX3_63 mvX3_emit rfl (st22 hs) (by decide) rfl (by decide) (by decide) (Nat.le_of_ble_eq_true rfl) (c_X3_emit22 l g _ (by exact hs) (n := 9) (by exact rfl) (by decide) _ _) rfl ?_
  refine xe_pop dX3_empty_106 rfl ?_
  refine xe_iconst dX3_empty_107 kc_0 ?_
  refine xe_istore_n (i := 3) dX3_empty_108 rfl (by decide) rfl ?_
  refine xe_fin (L' := (fun (i_ : Nat) (s1 : (Nat → Int32) × (Nat → Int32)) => [(0, .ref 22), (1, .int (nI 0)), (2, .int (nI 8)), (3, .int (nI i_))]) 0 (q_I h 28, q_I h 29)) (h' := (fun (i_ : Nat) (s1 : (Nat → Int32) × (Nat → Int32)) => (q_wI (q_wI (q_wI (q_wI (q_wI (q_wI (q_wI h 22 (upd (upd (upd (upd (upd (q_I h 22) 2 (nI 10)) 3 (nI 0)) 4 (nI 0)) 5 (nI 0)) 6 (nI 0))) 23 (upd (upd (upd (upd (upd (upd (upd (upd (upd (upd (q_I h 23) 0 (nI 0)) 1 (nI 2)) 2 (nI 0)) 3 (nI 2)) 4 (nI 1)) 5 (nI 1)) 6 (nI 45)) 7 (nI 2)) 8 (nI 1)) 9 (nI 2))) 24 (upd (upd (upd (upd (upd (upd (upd (upd (upd (upd (q_I h 24) 0 (nI 10)) 1 (nI 0)) 2 (nI 0)) 3 (nI 0)) 4 (nI 0)) 5 (nI 3)) 6 (nI 0)) 7 (nI 0)) 8 (nI 0)) 9 (nI 0))) 28 s1.1) 29 s1.2) 30 (upd (q_I h 30) 0 (nI 2))) 31 (upd (q_I h 31) 0 (nI 4)))) 0 (q_I h 28, q_I h 29)) ?_ (And.intro rfl (And.intro rfl (And.intro rfl (And.intro rfl trivial)))) (q_heq [22, 23, 24, 28, 29, 30, 31] (H := h) (by repeat (first | exact q_out_r | refine q_out_w rfl ?_)) (by repeat (first | exact q_out_r | refine q_out_w rfl ?_)) (And.intro (q_feq [2, 3, 4, 5, 6] (f := q_I h 22) (by repeat (first | exact q_fout_r | refine q_fout_w rfl ?_)) (by repeat (first | exact q_fout_r | refine q_fout_w rfl ?_)) (And.intro rfl (And.intro rfl (And.intro rfl (And.intro rfl (And.intro rfl trivial)))))) (And.intro rfl (And.intro rfl (And.intro rfl (And.intro rfl (And.intro rfl (And.intro rfl trivial))))))))
  refine xe_loopI (σ := (Nat → Int32) × (Nat → Int32)) (8) (fun i s => ∀ k, k < i → s.1 k = nI 0 ∧ s.2 k = nI 8) (fun (i_ : Nat) (s1 : (Nat → Int32) × (Nat → Int32)) => [(0, .ref 22), (1, .int (nI 0)), (2, .int (nI 8)), (3, .int (nI i_))]) (fun (i_ : Nat) (s1 : (Nat → Int32) × (Nat → Int32)) => (q_wI (q_wI (q_wI (q_wI (q_wI (q_wI (q_wI h 22 (upd (upd (upd (upd (upd (q_I h 22) 2 (nI 10)) 3 (nI 0)) 4 (nI 0)) 5 (nI 0)) 6 (nI 0))) 23 (upd (upd (upd (upd (upd (upd (upd (upd (upd (upd (q_I h 23) 0 (nI 0)) 1 (nI 2)) 2 (nI 0)) 3 (nI 2)) 4 (nI 1)) 5 (nI 1)) 6 (nI 45)) 7 (nI 2)) 8 (nI 1)) 9 (nI 2))) 24 (upd (upd (upd (upd (upd (upd (upd (upd (upd (upd (q_I h 24) 0 (nI 10)) 1 (nI 0)) 2 (nI 0)) 3 (nI 0)) 4 (nI 0)) 5 (nI 3)) 6 (nI 0)) 7 (nI 0)) 8 (nI 0)) 9 (nI 0))) 28 s1.1) 29 s1.2) 30 (upd (q_I h 30) 0 (nI 2))) 31 (upd (q_I h 31) 0 (nI 4)))) (q_I h 28, q_I h 29) (fun k q => absurd q (Nat.not_lt_zero _)) (fun i_ hi_ s1 e1 K1 => ?_) (fun s1 e1 => ?_)
  · refine xe_iload_n dX3_empty_109 rfl ?_
    refine xe_bipush dX3_empty_110 kb_8 ?_
    refine xn_icmp_ge (tgt := 135) dX3_empty_112 rfl (by omega) (by omega) (fun c2 => ?_) (fun c2 => ?_)
    · omega
    · refine xe_aload_n dX3_empty_115 rfl ?_
      refine xe_getP dX3_empty_116 flX3_29 (st22 hs) (by decide) rfl (sp22_10 hs) ?_
      refine xe_iload_n dX3_empty_119 rfl ?_
      refine xe_iload_n dX3_empty_120 rfl ?_
      refine xn_iast dX3_empty_121 (st28 hs) (by omega) (by decide) ?_
      refine xe_aload_n dX3_empty_122 rfl ?_
      refine xe_getP dX3_empty_123 flX3_32 (st22 hs) (by decide) rfl (sp22_11 hs) ?_
      refine xe_iload_n dX3_empty_126 rfl ?_
      refine xe_iload_n dX3_empty_127 rfl ?_
      refine xn_iast dX3_empty_128 (st29 hs) (by omega) (by decide) ?_
      refine xn_iinc dX3_empty_129 rfl kc_1 ?_
      refine xe_goto (tgt := 109) dX3_empty_132 rfl ?_
      exact xe_fin (K1 (upd s1.1 i_ (nI 0), upd s1.2 i_ (nI 8)) (fun k q => ⟨q_updw (fun _ => rfl) (fun e => (e1 k (by omega)).1), q_updw (fun _ => rfl) (fun e => (e1 k (by omega)).2)⟩)) (And.intro rfl (And.intro rfl (And.intro rfl (And.intro rfl trivial)))) (q_heq [22, 23, 24, 28, 29, 30, 31] (H := h) (by repeat (first | exact q_out_r | refine q_out_w rfl ?_)) (by repeat (first | exact q_out_r | refine q_out_w rfl ?_)) (And.intro (q_feq [2, 3, 4, 5, 6] (f := q_I h 22) (by repeat (first | exact q_fout_r | refine q_fout_w rfl ?_)) (by repeat (first | exact q_fout_r | refine q_fout_w rfl ?_)) (And.intro rfl (And.intro rfl (And.intro rfl (And.intro rfl (And.intro rfl trivial)))))) (And.intro rfl (And.intro rfl (And.intro rfl (And.intro rfl (And.intro rfl (And.intro rfl trivial))))))))
  · refine xe_iload_n dX3_empty_109 rfl ?_
    refine xe_bipush dX3_empty_110 kb_8 ?_
    refine xn_icmp_ge (tgt := 135) dX3_empty_112 rfl (by omega) (by omega) (fun c3 => ?_) (fun c3 => ?_)
    · refine xe_return dX3_empty_135 rfl ?_
      refine ⟨rfl, rfl, fun r a => ?_, rfl, rfl, rfl, rfl, rfl, ?_⟩
      · repeat (first | exact rfl | refine (q_Ine (by omega)).trans ?_)
      · exact ⟨fun k hk => ⟨0, (e1 k hk).1, by
          rw [show q_lw (fun _ => none) k = ([], [(0, nI 10)]) from if_pos hk]
          exact ⟨⟨rfl, rfl, trivial⟩, ⟨by decide, rfl⟩, rfl, by decide⟩⟩, fun k hk => ⟨8, (e1 k hk).2, by
          rw [show q_lw (fun _ => none) (8 + k) = ([], [(1, nI 0)]) from (if_neg (by omega)).trans (if_pos (by omega))]
          exact ⟨⟨rfl, rfl, trivial⟩, ⟨by decide, ⟨0, by decide, rfl⟩, rfl⟩, rfl, by decide⟩⟩, ⟨2, rfl, ⟨⟨rfl, rfl, trivial⟩, ⟨by decide, rfl⟩, rfl, by decide⟩⟩, ⟨4, rfl, ⟨⟨rfl, rfl, rfl, rfl, rfl, rfl, trivial⟩, ⟨by decide, ⟨0, by decide, rfl⟩, by decide, ⟨3, by decide, rfl⟩, by decide, by decide, rfl⟩, rfl, by decide⟩⟩⟩
    · omega
theorem pr_out22 (l : Launch) (g : q_GP) (h : q_H) {d i : Nat} (hi : i ≤ 402) {Q : Option Value → q_H → Prop} (q : Q none h) : q_Ex l g d mX5_parse 47 [(0, .ref 7), (1, .ref 1), (2, .ref 22), (3, .int (nI 0)), (4, .int (nI i))] [] h Q := by
  refine xe_iload dX5_parse_47 rfl ?_
  refine xe_sipush dX5_parse_49 ks_400 ?_
  refine xn_icmp_ge (tgt := 77) dX5_parse_52 rfl (by omega) (by omega) (fun c1 => ?_) (fun c1 => ?_)
  · refine xe_iload_n dX5_parse_77 rfl ?_
    refine xn_if_eq (tgt := 104) dX5_parse_78 rfl (by omega) (fun c2 => ?_) (fun c2 => ?_)
    · refine xe_return dX5_parse_104 rfl ?_
      exact q
    · omega
  · refine xe_iload_n dX5_parse_55 rfl ?_
    refine xn_if_eq (tgt := 77) dX5_parse_56 rfl (by omega) (fun c3 => ?_) (fun c3 => ?_)
    · refine xe_iload_n dX5_parse_77 rfl ?_
      refine xn_if_eq (tgt := 104) dX5_parse_78 rfl (by omega) (fun c4 => ?_) (fun c4 => ?_)
      · refine xe_return dX5_parse_104 rfl ?_
        exact q
      · omega
    · omega
theorem pr_loop22 (l : Launch) (g : q_GP) {K : q_TK} {m : Nat} {h0 : q_H} : ∀ (f i : Nat) (s : q_PS) (t : Nat) (h : q_H) (n : Nat), q_Stat h → q_fr 22 h0 h → ck_R h K m 22 t → ck_V h K 22 n s → n ≤ 10 + t → i + f = 401 → 2 * i ≤ t → q_Ex l g 24 mX5_parse 47 [(0, .ref 7), (1, .ref 1), (2, .ref 22), (3, .int (nI 1)), (4, .int (nI i))] [] h (q_prA K m 22 h0 (tx_all K f s t)) := by
  intro f
  induction f with
  | zero =>
    intro i s t h n hs hf hR hV hnt hif hit
    have h4m := hR.2.2.1.1
    have htm := hR.2.2.2.1
    omega
  | succ f ih =>
    intro i s t h n hs hf hR hV hnt hif hit
    have hI2 := hR.1
    have hI3 := hR.2.1
    have h4 := hR.2.2.2.2.1
    have h5 := hR.2.2.2.2.2
    have h4m := hR.2.2.1.1
    have htm := hR.2.2.2.1
    have hok := (hR.2.2.1.2.2 t htm).1
    rw [tx_all]
    by_cases h0t : tk_T K t = 0
    · rw [if_pos h0t]
      have hk5 : q_I h 7 5 = nI 0 := h5.trans (by rw [h0t]; rfl)
      have vE := hV.2.2.2.2.2.2.2.2.2.2.2.2.2.2.2.1
      have v7 := hV.2.2.2.2.2.2.2.2.2.2.2.2.2.2.2.2
      show q_Ex l g 24 mX5_parse 47 _ [] h (fun r h1 => r = none ∧ q_fr 22 h0 h1 ∧ match ps_e s with | none => q_I h1 7 7 = nI 0 ∧ ∃ n, n ≤ 410 ∧ ck_V h1 K 22 n s | some e => q_I h1 7 7 = nI e.1 ∧ q_I h1 7 8 = nI (tk_P K e.2))
      cases he : ps_e s with
      | none =>
        rw [he] at vE
        have l9 : q_I h 7 9 = nI 0 := vE
        refine xe_iload dX5_parse_47 rfl ?_
        refine xe_sipush dX5_parse_49 ks_400 ?_
        refine xn_icmp_ge (tgt := 77) dX5_parse_52 rfl (by omega) (by omega) (fun c1 => ?_) (fun c1 => ?_)
        · omega
        · refine xe_iload_n dX5_parse_55 rfl ?_
          refine xn_if_eq (tgt := 77) dX5_parse_56 rfl (by omega) (fun c2 => ?_) (fun c2 => ?_)
          · omega
          · refine xe_aload_n dX5_parse_59 rfl ?_
            refine xe_getIv dX5_parse_60 flX5_41 (st7 hs) (by decide) rfl (v := nI 0) (hk5) ?_
            refine xn_if_eq (tgt := 77) dX5_parse_63 rfl (by omega) (fun c3 => ?_) (fun c3 => ?_)
            · refine xe_iload_n dX5_parse_77 rfl ?_
              refine xn_if_eq (tgt := 104) dX5_parse_78 rfl (by omega) (fun c4 => ?_) (fun c4 => ?_)
              · omega
              · refine xe_aload_n dX5_parse_81 rfl ?_
                refine xe_getIv dX5_parse_82 flX5_47 (st7 hs) (by decide) rfl (v := nI 0) (l9) ?_
                refine xn_if_eq (tgt := 104) dX5_parse_85 rfl (by omega) (fun c5 => ?_) (fun c5 => ?_)
                · refine xe_return dX5_parse_104 rfl ?_
                  exact ⟨rfl, hf, v7, n, by omega, hV⟩
                · omega
            · omega
      | some e =>
        rw [he] at vE
        obtain ⟨l9, l1, l5, l10⟩ := vE
        refine xe_iload dX5_parse_47 rfl ?_
        refine xe_sipush dX5_parse_49 ks_400 ?_
        refine xn_icmp_ge (tgt := 77) dX5_parse_52 rfl (by omega) (by omega) (fun c1 => ?_) (fun c1 => ?_)
        · omega
        · refine xe_iload_n dX5_parse_55 rfl ?_
          refine xn_if_eq (tgt := 77) dX5_parse_56 rfl (by omega) (fun c2 => ?_) (fun c2 => ?_)
          · omega
          · refine xe_aload_n dX5_parse_59 rfl ?_
            refine xe_getIv dX5_parse_60 flX5_41 (st7 hs) (by decide) rfl (v := nI 0) (hk5) ?_
            refine xn_if_eq (tgt := 77) dX5_parse_63 rfl (by omega) (fun c3 => ?_) (fun c3 => ?_)
            · refine xe_iload_n dX5_parse_77 rfl ?_
              refine xn_if_eq (tgt := 104) dX5_parse_78 rfl (by omega) (fun c4 => ?_) (fun c4 => ?_)
              · omega
              · refine xe_aload_n dX5_parse_81 rfl ?_
                refine xe_getIv dX5_parse_82 flX5_47 (st7 hs) (by decide) rfl (v := nI e.1) (l9) ?_
                refine xn_if_eq (tgt := 104) dX5_parse_85 rfl (by omega) (fun c5 => ?_) (fun c5 => ?_)
                · omega
                · refine xe_aload_n dX5_parse_88 rfl ?_
                  refine xe_aload_n dX5_parse_89 rfl ?_
                  refine xe_getIv dX5_parse_90 flX5_47 (st7 hs) (by decide) rfl (v := nI e.1) (l9) ?_
                  refine xe_putI dX5_parse_93 flX5_44 (st7 hs) (by decide) rfl (Or.inl rfl) rfl rfl ?_
                  refine xe_aload_n dX5_parse_96 rfl ?_
                  refine xe_aload_n dX5_parse_97 rfl ?_
                  refine xe_getIv dX5_parse_98 flX5_54 (st7 hs) (by decide) rfl (v := nI (tk_P K e.2)) (l10) ?_
                  refine xe_putI dX5_parse_101 flX5_57 (st7 hs) (by decide) rfl (Or.inl rfl) rfl rfl ?_
                  refine xe_return dX5_parse_104 rfl ?_
                  exact ⟨rfl, fr_I (by decide) (fr_I (by decide) hf), rfl, rfl⟩
            · omega
    · rw [if_neg h0t]
      have hkn : ¬ q_kap (tk_T K t) = 0 := fun q => h0t (q_kap_inj (b := 0) hok (by decide) (by decide) q)
      have hC := c_X5_takeTell22 l g h hs hR hV hnt
      cases he : tx_tell K s t with
      | inl er =>
        rw [he] at hC
        refine xe_iload dX5_parse_47 rfl ?_
        refine xe_sipush dX5_parse_49 ks_400 ?_
        refine xn_icmp_ge (tgt := 77) dX5_parse_52 rfl (by omega) (by omega) (fun c1 => ?_) (fun c1 => ?_)
        · omega
        · refine xe_iload_n dX5_parse_55 rfl ?_
          refine xn_if_eq (tgt := 77) dX5_parse_56 rfl (by omega) (fun c2 => ?_) (fun c2 => ?_)
          · omega
          · refine xe_aload_n dX5_parse_59 rfl ?_
            refine xe_getIv dX5_parse_60 flX5_41 (st7 hs) (by decide) rfl (v := (q_kap (tk_T K t))) (h5) ?_
            refine xe_if_eq (tgt := 77) dX5_parse_63 rfl (fun c3 => ?_) (fun c3 => ?_)
            · exact absurd c3 hkn
            · refine xe_aload_n dX5_parse_66 rfl ?_
              refine xe_callVIq (d' := 23) (y' := mX5_takeTell) dX5_parse_67 mlX5_50 mvX5_takeTell rfl (st7 hs) (by decide) rfl (by decide) (by decide) (Nat.le_of_ble_eq_true rfl) (hC) rfl (fun h1 hq => ?_)
              refine xe_istore_n (i := 3) dX5_parse_70 rfl (by decide) rfl ?_
              refine xn_iinc dX5_parse_71 rfl kc_1 ?_
              refine xe_goto (tgt := 47) dX5_parse_74 rfl ?_
              refine xe_locals (L' := [(0, .ref 7), (1, .ref 1), (2, .ref 22), (3, .int (nI 0)), (4, .int (nI (i + 1)))]) (And.intro rfl (And.intro rfl (And.intro rfl (And.intro rfl (And.intro rfl trivial))))) ?_
              exact pr_out22 l g _ (by omega) ⟨rfl, fr_t hf hq.1, hq.2.1, hq.2.2⟩
      | inr x =>
        rw [he] at hC
        have hlt := tx_tell_lt he
        refine xe_iload dX5_parse_47 rfl ?_
        refine xe_sipush dX5_parse_49 ks_400 ?_
        refine xn_icmp_ge (tgt := 77) dX5_parse_52 rfl (by omega) (by omega) (fun c1 => ?_) (fun c1 => ?_)
        · omega
        · refine xe_iload_n dX5_parse_55 rfl ?_
          refine xn_if_eq (tgt := 77) dX5_parse_56 rfl (by omega) (fun c2 => ?_) (fun c2 => ?_)
          · omega
          · refine xe_aload_n dX5_parse_59 rfl ?_
            refine xe_getIv dX5_parse_60 flX5_41 (st7 hs) (by decide) rfl (v := (q_kap (tk_T K t))) (h5) ?_
            refine xe_if_eq (tgt := 77) dX5_parse_63 rfl (fun c3 => ?_) (fun c3 => ?_)
            · exact absurd c3 hkn
            · refine xe_aload_n dX5_parse_66 rfl ?_
              refine xe_callVIq (d' := 23) (y' := mX5_takeTell) dX5_parse_67 mlX5_50 mvX5_takeTell rfl (st7 hs) (by decide) rfl (by decide) (by decide) (Nat.le_of_ble_eq_true rfl) (hC) rfl (fun h1 hq => ?_)
              refine xe_istore_n (i := 3) dX5_parse_70 rfl (by decide) rfl ?_
              refine xn_iinc dX5_parse_71 rfl kc_1 ?_
              refine xe_goto (tgt := 47) dX5_parse_74 rfl ?_
              refine xe_locals (L' := [(0, .ref 7), (1, .ref 1), (2, .ref 22), (3, .int (nI 1)), (4, .int (nI (i + 1)))]) (And.intro rfl (And.intro rfl (And.intro rfl (And.intro rfl (And.intro rfl trivial))))) ?_
              obtain ⟨q1, q2, q3, q4, n1, q5, q6⟩ := hq
              refine ih (i + 1) x.1 x.2 h1 n1 (q_Stat_3 q1.2.2 hs) (fr_t hf q1) ?_ q6 q5 (by omega) (by omega)
              exact ck_R_t hR (congrArg (fun z => z.1 7) q1.2.2) (q1.1 3 (by decide) (by decide)) (q1.1 4 (by decide) (by decide)) (q1.2.1 5 (by decide) (by decide)) q2 q3 q4
theorem pr_10_22 (l : Launch) (g : q_GP) (h : q_H) (hs : q_Stat h) {K : q_TK} {m : Nat} (hI2 : q_P h 7 2 = some 1) (hI3 : q_P h 7 3 = some 22) (hT : ck_T h K m) : q_Ex l g 24 mX5_parse 10 [(0, .ref 7), (1, .ref 1), (2, .ref 22)] [] h (q_prA K m 22 h (tx_all K 401 tx_0 0)) := by
  have hk0 := (hT.2.2 0 (Nat.zero_le _)).2.2.1
  refine xe_aload_n dX5_parse_10 rfl ?_
  refine xe_getP dX5_parse_11 flX5_26 (st7 hs) (by decide) rfl hI3 ?_
  refine xe_callVVq (d' := 1) (y' := mX3_empty) dX5_parse_14 mlX5_30 mvX3_empty rfl (st22 hs) (by decide) rfl (by decide) (by decide) (Nat.le_of_ble_eq_true rfl) (c_X3_empty22 l g _ hs) rfl (fun h1 hq => ?_)
  obtain ⟨e1, e2, e3, e4, e5, e6, e7, e8⟩ := hq
  have hI2 : q_P h1 7 2 = some 1 := (congrArg (fun z => z.2.1 7 2) e1).trans hI2
  have hI3 : q_P h1 7 3 = some 22 := (congrArg (fun z => z.2.1 7 3) e1).trans hI3
  have hs : q_Stat h1 := q_Stat_2 e1 hs
  have hk0 : q_I h1 3 0 = q_kap (tk_T K 0) := (congrFun (e2 3 (by decide)) 0).trans hk0
  refine xe_aload_n dX5_parse_17 rfl ?_
  refine xe_iconst dX5_parse_18 kc_0 ?_
  refine xe_putI dX5_parse_19 flX5_33 (st7 hs) (by decide) rfl (Or.inl rfl) rfl rfl ?_
  refine xe_aload_n dX5_parse_22 rfl ?_
  refine xe_aload_n dX5_parse_23 rfl ?_
  refine xe_getP dX5_parse_24 flX5_37 (st1 hs) (by decide) rfl (sp1_2 hs) ?_
  refine xe_iconst dX5_parse_27 kc_0 ?_
  refine xn_ialdv dX5_parse_28 (st3 hs) (by omega) (by decide) (v := (q_kap (tk_T K 0))) (hk0) ?_
  refine xe_putI dX5_parse_29 flX5_41 (st7 hs) (by decide) rfl (Or.inl rfl) rfl rfl ?_
  refine xe_aload_n dX5_parse_32 rfl ?_
  refine xe_iconst dX5_parse_33 kc_0 ?_
  refine xe_putI dX5_parse_34 flX5_44 (st7 hs) (by decide) rfl (Or.inl rfl) rfl rfl ?_
  refine xe_aload_n dX5_parse_37 rfl ?_
  refine xe_iconst dX5_parse_38 kc_0 ?_
  refine xe_putI dX5_parse_39 flX5_47 (st7 hs) (by decide) rfl (Or.inl rfl) rfl rfl ?_
  refine xe_iconst dX5_parse_42 kc_1 ?_
  refine xe_istore_n (i := 3) dX5_parse_43 rfl (by decide) rfl ?_
  refine xe_iconst dX5_parse_44 kc_0 ?_
  refine xe_istore dX5_parse_45 (by decide) rfl ?_
  refine xe_locals (L' := [(0, .ref 7), (1, .ref 1), (2, .ref 22), (3, .int (nI 1)), (4, .int (nI 0))]) (And.intro rfl (And.intro rfl (And.intro rfl (And.intro rfl (And.intro rfl trivial))))) ?_
  refine pr_loop22 l g 401 0 tx_0 0 _ 10 (by exact hs) (fr_I (by decide) (fr_I (by decide) (fr_I (by decide) (fr_I (by decide) ⟨fun r a b => e2 r b, fun r _ _ => congrArg (fun z => z.1 r) e1, congrArg (fun z => z.2) e1⟩)))) ⟨hI2, hI3, ?_, Nat.zero_le _, rfl, rfl⟩ ⟨e3, e4, e5, e6, e7, by decide, rfl, rfl, by decide, fun i q => absurd q (Nat.not_lt_zero _), fun i q => absurd q (Nat.not_lt_zero _), fun i q => absurd q (Nat.not_lt_zero _), e8, ⟨by decide, fun i q => absurd q (Nat.not_lt_zero _)⟩, ⟨by decide, fun i q => absurd q (Nat.not_lt_zero _)⟩, rfl, rfl⟩ (by decide) rfl (by decide)
  refine ⟨hT.1, hT.2.1, fun i hi => ?_⟩
  obtain ⟨z1, z2, z3, z4, z5, z6⟩ := hT.2.2 i hi
  have eJ : q_J h1 5 = q_J h 5 := congrArg (fun z => z.1 5) e1
  exact ⟨z1, z2, (congrFun (e2 3 (by decide)) i).trans z3, (congrFun (e2 4 (by decide)) i).trans z4, fun a => ⟨(congrFun eJ i).trans (z5 a).1, (z5 a).2⟩, fun a => ⟨(congrArg Int64.toInt32 (congrFun eJ i)).trans (z6 a).1, (z6 a).2⟩⟩
