/-! the class: votes -/
/-- the first of the first n + 1 that is worth most -/
def q_chc (f : Nat → Int32) : Nat → Nat
  | 0 => 0
  | i + 1 => if f (i + 1) ≤ f (q_chc f i) then q_chc f i else i + 1
theorem q_chc_s (f : Nat → Int32) (i : Nat) : q_chc f (i + 1) = if f (i + 1) ≤ f (q_chc f i) then q_chc f i else i + 1 := rfl
theorem q_chc_le (f : Nat → Int32) : ∀ i, q_chc f i ≤ i
  | 0 => Nat.le_refl _
  | i + 1 => by
    have := q_chc_le f i
    unfold q_chc
    split <;> omega
theorem q_chc_vb (f : Nat → Int32) : ∀ n, q_vb f (n + 1) = (q_chc f n, f (q_chc f n))
  | 0 => rfl
  | n + 1 => by
    have ih := q_chc_vb f n
    have e : q_vb f (n + 1 + 1) = if n + 1 ≠ 0 ∧ f (n + 1) ≤ (q_vb f (n + 1)).2 then q_vb f (n + 1) else (n + 1, f (n + 1)) := rfl
    rw [e, ih, q_chc_s]
    by_cases h : f (n + 1) ≤ f (q_chc f n)
    · rw [if_pos ⟨by omega, h⟩, if_pos h]
    · rw [if_neg (fun q => h q.2), if_neg h]
theorem q_chc_co {f g : Nat → Int32} : ∀ n, (∀ k, k ≤ n → f k = g k) → q_chc f n = q_chc g n
  | 0, _ => rfl
  | n + 1, h => by
    have ih := q_chc_co n (fun k hk => h k (by omega))
    have := q_chc_le g n
    rw [q_chc_s, q_chc_s, ih, h _ (by omega), h _ (by omega)]
theorem c_X2_choiceOf (l : Launch) (g : q_GP) (h : q_H) (hs : q_Stat h) {nm : Nat} (hm0 : q_I h 116 3 = nI nm) (hn0 : 0 < nm) (hn8 : nm ≤ 8) {v : Nat} (hv : v < nm) : q_Cd l g 0 mX2_choiceOf [.ref 116, .int (nI v)] h (some (.int (nI (q_chc (fun o => q_I h 117 (v * 8 + o)) (nm - 1))))) h := by
  refine q_CdV mvX2_choiceOf (Nat.le_of_ble_eq_true rfl) ?_
  refine xe_iconst dX2_choiceOf_0 kc_0 ?_
  refine xe_istore_n (i := 2) dX2_choiceOf_1 rfl (by decide) rfl ?_
  refine xe_iconst dX2_choiceOf_2 kc_1 ?_
  refine xe_istore_n (i := 3) dX2_choiceOf_3 rfl (by decide) rfl ?_
  refine xe_fin (L' := (fun (i_ : Nat) (s1 : Nat) => [(0, .ref 116), (1, .int (nI v)), (2, .int (nI s1)), (3, .int (nI (1 + i_)))]) 0 0) (h' := (fun (_ : Nat) (_ : Nat) => h) 0 0) ?_ (And.intro rfl (And.intro rfl (And.intro rfl (And.intro rfl trivial)))) rfl
  refine xe_loopI (σ := Nat) (nm - 1) (fun i s => s = q_chc (fun o => q_I h 117 (v * 8 + o)) i) (fun (i_ : Nat) (s1 : Nat) => [(0, .ref 116), (1, .int (nI v)), (2, .int (nI s1)), (3, .int (nI (1 + i_)))]) (fun (_ : Nat) (_ : Nat) => h) 0 (rfl) (fun i_ hi_ s1 e1 K1 => ?_) (fun s1 e1 => ?_)
  · have hc := q_chc_le (fun o => q_I h 117 (v * 8 + o)) i_
    rw [← e1] at hc
    refine xe_iload_n dX2_choiceOf_4 rfl ?_
    refine xe_aload_n dX2_choiceOf_5 rfl ?_
    refine xe_getIv dX2_choiceOf_6 flX2_21 (st116 hs) (by decide) rfl (v := nI nm) (hm0) ?_
    refine xn_icmp_ge (tgt := 45) dX2_choiceOf_9 rfl (by omega) (by omega) (fun c2 => ?_) (fun c2 => ?_)
    · omega
    · refine xe_aload_n dX2_choiceOf_12 rfl ?_
      refine xe_getP dX2_choiceOf_13 flX2_9 (st116 hs) (by decide) rfl (sp116_0 hs) ?_
      refine xe_iload_n dX2_choiceOf_16 rfl ?_
      refine xe_bipush dX2_choiceOf_17 kb_8 ?_
      refine xn_imul dX2_choiceOf_19 ?_
      refine xe_iload_n dX2_choiceOf_20 rfl ?_
      refine xn_iadd dX2_choiceOf_21 ?_
      refine xn_ialdv dX2_choiceOf_22 (st117 hs) (by omega) (by decide) (v := ((q_I h 117) ((v * 8) + (1 + i_)))) (rfl) ?_
      refine xe_aload_n dX2_choiceOf_23 rfl ?_
      refine xe_getP dX2_choiceOf_24 flX2_9 (st116 hs) (by decide) rfl (sp116_0 hs) ?_
      refine xe_iload_n dX2_choiceOf_27 rfl ?_
      refine xe_bipush dX2_choiceOf_28 kb_8 ?_
      refine xn_imul dX2_choiceOf_30 ?_
      refine xe_iload_n dX2_choiceOf_31 rfl ?_
      refine xn_iadd dX2_choiceOf_32 ?_
      refine xn_ialdv dX2_choiceOf_33 (st117 hs) (by omega) (by decide) (v := ((q_I h 117) ((v * 8) + s1))) (rfl) ?_
      refine xe_icmp_le (tgt := 39) dX2_choiceOf_34 rfl (fun c3 => ?_) (fun c3 => ?_)
      · refine xn_iinc dX2_choiceOf_39 rfl kc_1 ?_
        refine xe_goto (tgt := 4) dX2_choiceOf_42 rfl ?_
        exact xe_fin (K1 s1 (by rw [e1]; exact (if_pos (by have c := c3; rw [e1, Nat.add_comm 1] at c; exact c)).symm)) (And.intro rfl (And.intro rfl (And.intro rfl (And.intro rfl trivial)))) rfl
      · refine xe_iload_n dX2_choiceOf_37 rfl ?_
        refine xe_istore_n (i := 2) dX2_choiceOf_38 rfl (by decide) rfl ?_
        refine xn_iinc dX2_choiceOf_39 rfl kc_1 ?_
        refine xe_goto (tgt := 4) dX2_choiceOf_42 rfl ?_
        exact xe_fin (K1 (1 + i_) (by rw [Nat.add_comm 1]; exact (if_neg (by have c := c3; rw [e1, Nat.add_comm 1] at c; exact c)).symm)) (And.intro rfl (And.intro rfl (And.intro rfl (And.intro rfl trivial)))) rfl
  · refine xe_iload_n dX2_choiceOf_4 rfl ?_
    refine xe_aload_n dX2_choiceOf_5 rfl ?_
    refine xe_getIv dX2_choiceOf_6 flX2_21 (st116 hs) (by decide) rfl (v := nI nm) (hm0) ?_
    refine xn_icmp_ge (tgt := 45) dX2_choiceOf_9 rfl (by omega) (by omega) (fun c4 => ?_) (fun c4 => ?_)
    · refine xe_iload_n dX2_choiceOf_45 rfl ?_
      refine xe_ireturn dX2_choiceOf_46 rfl (by first | rfl | decide +kernel) ?_
      exact ⟨congrArg (fun v => some (Value.int (nI v))) e1, rfl⟩
    · omega
theorem c_X2_elect (l : Launch) (g : q_GP) (h : q_H) (hs : q_Stat h) {nm : Nat} (hm0 : q_I h 116 3 = nI nm) (hn0 : 0 < nm) (hn8 : nm ≤ 8) : q_Ct l g 1 mX2_elect [.ref 116] h (fun r h1 => r = some (.int (nI (q_el (q_vt (fun v => q_chc (fun o => q_I h 117 (v * 8 + o)) (nm - 1)) (fun _ => nI 0) nm) (q_I h 118) (nm - 1)))) ∧ ∃ T, h1 = q_wI h 119 T ∧ ∀ k, k < nm → T k = q_vt (fun v => q_chc (fun o => q_I h 117 (v * 8 + o)) (nm - 1)) (fun _ => nI 0) nm k) := by
  refine q_CtV mvX2_elect (Nat.le_of_ble_eq_true rfl) ?_
  refine xe_iconst dX2_elect_0 kc_0 ?_
  refine xe_istore_n (i := 1) dX2_elect_1 rfl (by decide) rfl ?_
  refine xe_fin (L' := (fun (i_ : Nat) (s1 : (Nat → Int32)) => [(0, .ref 116), (1, .int (nI i_))]) 0 (q_I h 119)) (h' := (fun (i_ : Nat) (s1 : (Nat → Int32)) => (q_wI h 119 s1)) 0 (q_I h 119)) ?_ (And.intro rfl (And.intro rfl trivial)) (q_heq [119] (H := h) (by repeat (first | exact q_out_r | refine q_out_w rfl ?_)) (by repeat (first | exact q_out_r | refine q_out_w rfl ?_)) (And.intro rfl trivial))
  refine xe_loopI (σ := (Nat → Int32)) (nm) (fun i s => ∀ k, k < i → s k = nI 0) (fun (i_ : Nat) (s1 : (Nat → Int32)) => [(0, .ref 116), (1, .int (nI i_))]) (fun (i_ : Nat) (s1 : (Nat → Int32)) => (q_wI h 119 s1)) (q_I h 119) (fun _ q => absurd q (Nat.not_lt_zero _)) (fun i_ hi_ s1 e1 K1 => ?_) (fun s1 e1 => ?_)
  · refine xe_iload_n dX2_elect_2 rfl ?_
    refine xe_aload_n dX2_elect_3 rfl ?_
    refine xe_getIv dX2_elect_4 flX2_21 (st116 hs) (by decide) rfl (v := nI nm) (hm0) ?_
    refine xn_icmp_ge (tgt := 23) dX2_elect_7 rfl (by omega) (by omega) (fun c2 => ?_) (fun c2 => ?_)
    · omega
    · refine xe_aload_n dX2_elect_10 rfl ?_
      refine xe_getP dX2_elect_11 flX2_18 (st116 hs) (by decide) rfl (sp116_2 hs) ?_
      refine xe_iload_n dX2_elect_14 rfl ?_
      refine xe_iconst dX2_elect_15 kc_0 ?_
      refine xn_iast dX2_elect_16 (st119 hs) (by omega) (by decide) ?_
      refine xn_iinc dX2_elect_17 rfl kc_1 ?_
      refine xe_goto (tgt := 2) dX2_elect_20 rfl ?_
      exact xe_fin (K1 (upd s1 i_ (nI 0)) (fun k q => q_updw (fun _ => rfl) (fun e => e1 k (by omega)))) (And.intro rfl (And.intro rfl trivial)) (q_heq [119] (H := h) (by repeat (first | exact q_out_r | refine q_out_w rfl ?_)) (by repeat (first | exact q_out_r | refine q_out_w rfl ?_)) (And.intro rfl trivial))
  · refine xe_iload_n dX2_elect_2 rfl ?_
    refine xe_aload_n dX2_elect_3 rfl ?_
    refine xe_getIv dX2_elect_4 flX2_21 (st116 hs) (by decide) rfl (v := nI nm) (hm0) ?_
    refine xn_icmp_ge (tgt := 23) dX2_elect_7 rfl (by omega) (by omega) (fun c3 => ?_) (fun c3 => ?_)
    · refine xe_iconst dX2_elect_23 kc_0 ?_
      refine xe_istore_n (i := 1) dX2_elect_24 rfl (by decide) rfl ?_
      refine xe_fin (L' := (fun (i_ : Nat) (s4 : (Nat → Int32)) => [(0, .ref 116), (1, .int (nI i_))]) 0 s1) (h' := (fun (i_ : Nat) (s4 : (Nat → Int32)) => (q_wI h 119 s4)) 0 s1) ?_ (And.intro rfl (And.intro rfl trivial)) (q_heq [119] (H := h) (by repeat (first | exact q_out_r | refine q_out_w rfl ?_)) (by repeat (first | exact q_out_r | refine q_out_w rfl ?_)) (And.intro rfl trivial))
      refine xe_loopI (σ := (Nat → Int32)) (nm) (fun i s => ∀ k, k < nm → s k = q_vt (fun v => q_chc (fun o => q_I h 117 (v * 8 + o)) (nm - 1)) (fun _ => nI 0) i k) (fun (i_ : Nat) (s4 : (Nat → Int32)) => [(0, .ref 116), (1, .int (nI i_))]) (fun (i_ : Nat) (s4 : (Nat → Int32)) => (q_wI h 119 s4)) s1 (fun k hk => e1 k hk) (fun i_ hi_ s4 e4 K4 => ?_) (fun s4 e4 => ?_)
      · have hc := q_chc_le (fun o => q_I h 117 (i_ * 8 + o)) (nm - 1)
        refine xe_iload_n dX2_elect_25 rfl ?_
        refine xe_aload_n dX2_elect_26 rfl ?_
        refine xe_getIv dX2_elect_27 flX2_21 (st116 hs) (by decide) rfl (v := nI nm) (hm0) ?_
        refine xn_icmp_ge (tgt := 53) dX2_elect_30 rfl (by omega) (by omega) (fun c5 => ?_) (fun c5 => ?_)
        · omega
        · refine xe_aload_n dX2_elect_33 rfl ?_
          refine xe_getP dX2_elect_34 flX2_18 (st116 hs) (by decide) rfl (sp116_2 hs) ?_
          refine xe_aload_n dX2_elect_37 rfl ?_
          refine xe_iload_n dX2_elect_38 rfl ?_
          refine xe_callVI (d' := 0) (y' := mX2_choiceOf) dX2_elect_39 mlX2_25 mvX2_choiceOf rfl (st116 hs) (by decide) rfl (by decide) (by decide) (Nat.le_of_ble_eq_true rfl) (c_X2_choiceOf l g _ (by exact hs) (by exact hm0) hn0 hn8 (by omega)) rfl ?_
          refine xe_top (v' := nI (q_chc (fun o => (q_I h 117) (i_ * 8 + o)) (nm - 1))) rfl ?_
          refine xe_dup2 dX2_elect_42 rfl rfl ?_
          refine xn_ialdv dX2_elect_43 (st119 hs) (by omega) (by decide) (v := (s4 (q_chc (fun o => (q_I h 117) (i_ * 8 + o)) (nm - 1)))) (rfl) ?_
          refine xe_iconst dX2_elect_44 kc_1 ?_
          refine xe_iadd dX2_elect_45 ?_
          refine xn_iast dX2_elect_46 (st119 hs) (by omega) (by decide) ?_
          refine xn_iinc dX2_elect_47 rfl kc_1 ?_
          refine xe_goto (tgt := 25) dX2_elect_50 rfl ?_
          exact xe_fin (K4 (upd s4 (q_chc (fun o => (q_I h 117) (i_ * 8 + o)) (nm - 1)) ((s4 (q_chc (fun o => (q_I h 117) (i_ * 8 + o)) (nm - 1))) + (nI 1))) (fun k hk => by show upd _ _ _ k = upd (q_vt (fun v => q_chc (fun o => q_I h 117 (v * 8 + o)) (nm - 1)) (fun _ => nI 0) i_) (q_chc (fun o => q_I h 117 (i_ * 8 + o)) (nm - 1)) ((q_vt (fun v => q_chc (fun o => q_I h 117 (v * 8 + o)) (nm - 1)) (fun _ => nI 0) i_) (q_chc (fun o => q_I h 117 (i_ * 8 + o)) (nm - 1)) + nI 1) k; unfold upd; rw [e4 _ (by omega), e4 k hk])) (And.intro rfl (And.intro rfl trivial)) (q_heq [119] (H := h) (by repeat (first | exact q_out_r | refine q_out_w rfl ?_)) (by repeat (first | exact q_out_r | refine q_out_w rfl ?_)) (And.intro rfl trivial))
      · refine xe_iload_n dX2_elect_25 rfl ?_
        refine xe_aload_n dX2_elect_26 rfl ?_
        refine xe_getIv dX2_elect_27 flX2_21 (st116 hs) (by decide) rfl (v := nI nm) (hm0) ?_
        refine xn_icmp_ge (tgt := 53) dX2_elect_30 rfl (by omega) (by omega) (fun c6 => ?_) (fun c6 => ?_)
        · refine xe_iconst dX2_elect_53 kc_0 ?_
          refine xe_istore_n (i := 1) dX2_elect_54 rfl (by decide) rfl ?_
          refine xe_iconst dX2_elect_55 kc_1 ?_
          refine xe_istore_n (i := 2) dX2_elect_56 rfl (by decide) rfl ?_
          refine xe_fin (L' := (fun (i_ : Nat) (s7 : Nat) => [(0, .ref 116), (1, .int (nI s7)), (2, .int (nI (1 + i_)))]) 0 0) (h' := (fun (i_ : Nat) (s7 : Nat) => (q_wI h 119 s4)) 0 0) ?_ (And.intro rfl (And.intro rfl (And.intro rfl trivial))) (q_heq [119] (H := h) (by repeat (first | exact q_out_r | refine q_out_w rfl ?_)) (by repeat (first | exact q_out_r | refine q_out_w rfl ?_)) (And.intro rfl trivial))
          refine xe_loopI (σ := Nat) (nm - 1) (fun i s => s = q_el (q_vt (fun v => q_chc (fun o => q_I h 117 (v * 8 + o)) (nm - 1)) (fun _ => nI 0) nm) (q_I h 118) i) (fun (i_ : Nat) (s7 : Nat) => [(0, .ref 116), (1, .int (nI s7)), (2, .int (nI (1 + i_)))]) (fun (i_ : Nat) (s7 : Nat) => (q_wI h 119 s4)) 0 (rfl) (fun i_ hi_ s7 e7 K7 => ?_) (fun s7 e7 => ?_)
          · have hc := q_el_lt (q_vt (fun v => q_chc (fun o => q_I h 117 (v * 8 + o)) (nm - 1)) (fun _ => nI 0) nm) (q_I h 118) i_
            rw [← e7] at hc
            refine xe_iload_n dX2_elect_57 rfl ?_
            refine xe_aload_n dX2_elect_58 rfl ?_
            refine xe_getIv dX2_elect_59 flX2_21 (st116 hs) (by decide) rfl (v := nI nm) (hm0) ?_
            refine xn_icmp_ge (tgt := 128) dX2_elect_62 rfl (by omega) (by omega) (fun c8 => ?_) (fun c8 => ?_)
            · omega
            · refine xe_aload_n dX2_elect_65 rfl ?_
              refine xe_getP dX2_elect_66 flX2_18 (st116 hs) (by decide) rfl (sp116_2 hs) ?_
              refine xe_iload_n dX2_elect_69 rfl ?_
              refine xn_ialdv dX2_elect_70 (st119 hs) (by omega) (by decide) (v := (s4 (1 + i_))) (rfl) ?_
              refine xe_aload_n dX2_elect_71 rfl ?_
              refine xe_getP dX2_elect_72 flX2_18 (st116 hs) (by decide) rfl (sp116_2 hs) ?_
              refine xe_iload_n dX2_elect_75 rfl ?_
              refine xn_ialdv dX2_elect_76 (st119 hs) (by omega) (by decide) (v := (s4 s7)) (rfl) ?_
              refine xe_icmp_ne (tgt := 84) dX2_elect_77 rfl (fun c_77 => ?_) (fun c_77 => ?_)
              · refine xe_iconst dX2_elect_84 kc_0 ?_
                refine xe_istore_n (i := 3) dX2_elect_85 rfl (by decide) rfl ?_
                refine xe_aload_n dX2_elect_86 rfl ?_
                refine xe_getP dX2_elect_87 flX2_18 (st116 hs) (by decide) rfl (sp116_2 hs) ?_
                refine xe_iload_n dX2_elect_90 rfl ?_
                refine xn_ialdv dX2_elect_91 (st119 hs) (by omega) (by decide) (v := (s4 (1 + i_))) (rfl) ?_
                refine xe_aload_n dX2_elect_92 rfl ?_
                refine xe_getP dX2_elect_93 flX2_18 (st116 hs) (by decide) rfl (sp116_2 hs) ?_
                refine xe_iload_n dX2_elect_96 rfl ?_
                refine xn_ialdv dX2_elect_97 (st119 hs) (by omega) (by decide) (v := (s4 s7)) (rfl) ?_
                refine xe_icmp_gt (tgt := 120) dX2_elect_98 rfl (fun c_98 => ?_) (fun c_98 => ?_)
                · skip
                  refine xe_iload_n dX2_elect_120 rfl ?_
                  refine xe_istore_n (i := 1) dX2_elect_121 rfl (by decide) rfl ?_
                  refine xn_iinc dX2_elect_122 rfl kc_1 ?_
                  refine xe_goto (tgt := 57) dX2_elect_125 rfl ?_
                  exact xe_fin (K7 (1 + i_) (by rw [Nat.add_comm 1]; exact (if_pos (Or.inl (by have c := c_98; rw [e4 _ (by omega), e4 _ (by omega), e7, Nat.add_comm 1] at c; exact c))).symm)) (And.intro rfl (And.intro rfl (And.intro rfl trivial))) (q_heq [119] (H := h) (by repeat (first | exact q_out_r | refine q_out_w rfl ?_)) (by repeat (first | exact q_out_r | refine q_out_w rfl ?_)) (And.intro rfl trivial))
                · refine xe_iload_n dX2_elect_101 rfl ?_
                  refine xn_if_eq (tgt := 122) dX2_elect_102 rfl (by omega) (fun c9 => ?_) (fun c9 => ?_)
                  · skip
                    refine xn_iinc dX2_elect_122 rfl kc_1 ?_
                    refine xe_goto (tgt := 57) dX2_elect_125 rfl ?_
                    exact xe_fin (K7 s7 (by rw [e7]; exact (if_neg (fun q => q.elim (fun q => c_98 (by rw [e4 _ (by omega), e4 _ (by omega), e7, Nat.add_comm 1]; exact q)) (fun q => c_77 (by rw [e4 _ (by omega), e4 _ (by omega), e7, Nat.add_comm 1]; exact q.1)))).symm)) (And.intro rfl (And.intro rfl (And.intro rfl trivial))) (q_heq [119] (H := h) (by repeat (first | exact q_out_r | refine q_out_w rfl ?_)) (by repeat (first | exact q_out_r | refine q_out_w rfl ?_)) (And.intro rfl trivial))
                  · omega
              · refine xe_iconst dX2_elect_80 kc_1 ?_
                refine xe_goto (tgt := 85) dX2_elect_81 rfl ?_
                refine xe_istore_n (i := 3) dX2_elect_85 rfl (by decide) rfl ?_
                refine xe_aload_n dX2_elect_86 rfl ?_
                refine xe_getP dX2_elect_87 flX2_18 (st116 hs) (by decide) rfl (sp116_2 hs) ?_
                refine xe_iload_n dX2_elect_90 rfl ?_
                refine xn_ialdv dX2_elect_91 (st119 hs) (by omega) (by decide) (v := (s4 (1 + i_))) (rfl) ?_
                refine xe_aload_n dX2_elect_92 rfl ?_
                refine xe_getP dX2_elect_93 flX2_18 (st116 hs) (by decide) rfl (sp116_2 hs) ?_
                refine xe_iload_n dX2_elect_96 rfl ?_
                refine xn_ialdv dX2_elect_97 (st119 hs) (by omega) (by decide) (v := (s4 s7)) (rfl) ?_
                refine xe_icmp_gt (tgt := 120) dX2_elect_98 rfl (fun c_98 => ?_) (fun c_98 => ?_)
                · skip
                  refine xe_iload_n dX2_elect_120 rfl ?_
                  refine xe_istore_n (i := 1) dX2_elect_121 rfl (by decide) rfl ?_
                  refine xn_iinc dX2_elect_122 rfl kc_1 ?_
                  refine xe_goto (tgt := 57) dX2_elect_125 rfl ?_
                  exact xe_fin (K7 (1 + i_) (by rw [Nat.add_comm 1]; exact (if_pos (Or.inl (by have c := c_98; rw [e4 _ (by omega), e4 _ (by omega), e7, Nat.add_comm 1] at c; exact c))).symm)) (And.intro rfl (And.intro rfl (And.intro rfl trivial))) (q_heq [119] (H := h) (by repeat (first | exact q_out_r | refine q_out_w rfl ?_)) (by repeat (first | exact q_out_r | refine q_out_w rfl ?_)) (And.intro rfl trivial))
                · refine xe_iload_n dX2_elect_101 rfl ?_
                  refine xn_if_eq (tgt := 122) dX2_elect_102 rfl (by omega) (fun c10 => ?_) (fun c10 => ?_)
                  · omega
                  · refine xe_aload_n dX2_elect_105 rfl ?_
                    refine xe_getP dX2_elect_106 flX2_15 (st116 hs) (by decide) rfl (sp116_1 hs) ?_
                    refine xe_iload_n dX2_elect_109 rfl ?_
                    refine xn_ialdv dX2_elect_110 (st118 hs) (by omega) (by decide) (v := ((q_I h 118) (1 + i_))) (rfl) ?_
                    refine xe_aload_n dX2_elect_111 rfl ?_
                    refine xe_getP dX2_elect_112 flX2_15 (st116 hs) (by decide) rfl (sp116_1 hs) ?_
                    refine xe_iload_n dX2_elect_115 rfl ?_
                    refine xn_ialdv dX2_elect_116 (st118 hs) (by omega) (by decide) (v := ((q_I h 118) s7)) (rfl) ?_
                    refine xe_icmp_ge (tgt := 122) dX2_elect_117 rfl (fun c_117 => ?_) (fun c_117 => ?_)
                    · skip
                      refine xn_iinc dX2_elect_122 rfl kc_1 ?_
                      refine xe_goto (tgt := 57) dX2_elect_125 rfl ?_
                      exact xe_fin (K7 s7 (by rw [e7]; exact (if_neg (fun q => q.elim (fun q => c_98 (by rw [e4 _ (by omega), e4 _ (by omega), e7, Nat.add_comm 1]; exact q)) (fun q => absurd q.2 (Int32.not_lt.mpr (by have c := c_117; rw [e7, Nat.add_comm 1] at c; exact c))))).symm)) (And.intro rfl (And.intro rfl (And.intro rfl trivial))) (q_heq [119] (H := h) (by repeat (first | exact q_out_r | refine q_out_w rfl ?_)) (by repeat (first | exact q_out_r | refine q_out_w rfl ?_)) (And.intro rfl trivial))
                    · skip
                      refine xe_iload_n dX2_elect_120 rfl ?_
                      refine xe_istore_n (i := 1) dX2_elect_121 rfl (by decide) rfl ?_
                      refine xn_iinc dX2_elect_122 rfl kc_1 ?_
                      refine xe_goto (tgt := 57) dX2_elect_125 rfl ?_
                      exact xe_fin (K7 (1 + i_) (by rw [Nat.add_comm 1]; exact (if_pos (Or.inr ⟨by have c := c_77; rw [e4 _ (by omega), e4 _ (by omega), e7, Nat.add_comm 1] at c; exact c, by have c := Int32.not_le.mp c_117; rw [e7, Nat.add_comm 1] at c; exact c⟩)).symm)) (And.intro rfl (And.intro rfl (And.intro rfl trivial))) (q_heq [119] (H := h) (by repeat (first | exact q_out_r | refine q_out_w rfl ?_)) (by repeat (first | exact q_out_r | refine q_out_w rfl ?_)) (And.intro rfl trivial))
          · refine xe_iload_n dX2_elect_57 rfl ?_
            refine xe_aload_n dX2_elect_58 rfl ?_
            refine xe_getIv dX2_elect_59 flX2_21 (st116 hs) (by decide) rfl (v := nI nm) (hm0) ?_
            refine xn_icmp_ge (tgt := 128) dX2_elect_62 rfl (by omega) (by omega) (fun c11 => ?_) (fun c11 => ?_)
            · refine xe_iload_n dX2_elect_128 rfl ?_
              refine xe_ireturn dX2_elect_129 rfl (by first | rfl | decide +kernel) ?_
              exact ⟨congrArg (fun v => some (Value.int (nI v))) e7, _, rfl, e4⟩
            · omega
        · omega
    · omega
