/-! the class: read -/
theorem q_Stat_wP {h : q_H} {r k : Nat} {v : Option Nat} (hk : q_p0 r k = none) (hs : q_Stat h) : q_Stat (q_wP h r (va_up (q_P h r) k v)) := by
  refine ⟨hs.1, fun r' k' a e => ?_⟩
  show (if r' = r then va_up (q_P h r) k v else q_P h r') k' = some a
  by_cases hr : r' = r
  · rw [if_pos hr]
    by_cases hk2 : k' = k
    · rw [hr, hk2, hk] at e
      cases e
    · rw [va_up_ne _ _ hk2, ← hr]
      exact hs.2 r' k' a e
  · rw [if_neg hr]
    exact hs.2 r' k' a e
/-- what reading leaves alone -/
def cd_fr (h h1 : q_H) : Prop := q_T h1 = q_T h ∧ q_L h1 = q_L h ∧ q_N h1 = q_N h ∧ q_K h1 = q_K h ∧ (∀ r, r ≠ 7 → r ≠ 0 → q_P h1 r = q_P h r) ∧ (∀ k, k ≠ 2 → k ≠ 3 → q_P h1 0 k = q_P h 0 k) ∧ (∀ k, k ≠ 2 → k ≠ 3 → q_P h1 7 k = q_P h 7 k) ∧ ∀ r, r ≠ 5 → r ≠ 8 → r ≠ 9 → q_J h1 r = q_J h r
theorem cd_st {h h1 : q_H} (a : cd_fr h h1) (hs : q_Stat h) : q_Stat h1 := by
  obtain ⟨a1, a2, a3, a4, a5, a6, a7, a8⟩ := a
  refine ⟨fun r t n e => ?_, fun r k x e => ?_⟩
  · obtain ⟨b1, b2, b3⟩ := hs.1 r t n e
    exact ⟨by rw [a3]; exact b1, by rw [a1]; exact b2, by rw [a2]; exact b3⟩
  · have b := hs.2 r k x e
    by_cases h0 : r = 0
    · subst h0
      rw [a6 k (fun q => by subst q; cases e) (fun q => by subst q; cases e)]
      exact b
    · by_cases h7 : r = 7
      · subst h7
        rw [a7 k (fun q => by subst q; cases e) (fun q => by subst q; cases e)]
        exact b
      · rw [a5 r h7 h0]
        exact b
def cd_F (K : q_TK) (q : Nat) (h h1 : q_H) (r : Option Value) (e : Nat × Nat) : Prop := r = some (.int (nI e.1)) ∧ cd_fr h h1 ∧ q_P h1 0 = q_P h 0 ∧ (∀ r, r ≠ 1 → r ≠ 3 → r ≠ 4 → r ≠ 7 → r < q ∨ q + 9 < r → q_I h1 r = q_I h r) ∧ q_I h1 1 1 = nI 0 ∧ q_I h1 7 7 = nI e.1 ∧ q_I h1 7 8 = nI (tk_P K e.2)
def cd_G (q p : Nat) (h h1 : q_H) (r : Option Value) (s : q_PS) : Prop := r = some (.int (nI 0)) ∧ cd_fr h h1 ∧ q_P h1 0 2 = some q ∧ q_P h1 0 3 = some p ∧ (∀ r, r ≠ 1 → r ≠ 3 → r ≠ 4 → r ≠ 7 → r ≠ 34 → r ≠ 35 → r ≠ 36 → r ≠ 37 → r ≠ 41 → r ≠ 42 → r ≠ 94 → r < q ∨ q + 9 < r → q_I h1 r = q_I h r) ∧ q_I h1 1 1 = nI 0 ∧ q_I h1 7 7 = nI 0 ∧ q_I h1 34 5 = nI 0 ∧ q_I h1 34 6 = nI 0 ∧ (∀ k, k < 72 → q_I h1 35 k = q_nR (ps_f s) (ps_m s).length k) ∧ (∀ k, k < 64 → q_I h1 36 k = nI 0) ∧ (∀ k, k < 64 → q_I h1 37 k = nI 0) ∧ (∀ k, k < 3 → q_I h1 41 k = nI 0) ∧ q_I h1 42 2 = nI 0 ∧ q_I h1 42 1 = q_I h 42 1 ∧ q_I h1 94 3 = nI 0 ∧
  ∃ n, n ≤ 410 ∧ q_I h1 q 2 = nI n ∧ q_I h1 q 3 = nI (ps_m s).length ∧ q_I h1 q 4 = nI (ps_d s).length ∧ q_I h1 q 5 = nI (ps_c s).length ∧ q_I h1 q 6 = nI (ps_o s) ∧ (ps_f s).length = (ps_m s).length ∧ (ps_g s).length = (ps_d s).length ∧ (ps_c s).length ≤ 12 ∧ (ps_m s).length ≤ 8 ∧ (ps_d s).length ≤ 8 ∧ (∀ i, i < (ps_g s).length → q_I h1 (q + 4) i = nI ((ps_g s).getD i 0)) ∧ (∀ i, i < (ps_c s).length → q_I h1 (q + 5) i = nI ((ps_c s).getD i 0)) ∧ rk_L h1 q n (ps_L s)
def cd_A (K : q_TK) (q p : Nat) (h : q_H) (o : (Nat × Nat) ⊕ (q_PS × Nat)) (r : Option Value) (h1 : q_H) : Prop := match o with
  | .inl e => cd_F K q h h1 r e
  | .inr x => match ps_e x.1 with
    | some e => cd_F K q h h1 r e
    | none => cd_G q p h h1 r x.1
theorem c_X6_empty (l : Launch) (g : q_GP) (h : q_H) (hs : q_Stat h) : q_Ct l g 0 mX6_empty [.ref 34] h (fun r h1 => r = none ∧ ∃ F D T, h1 = q_wI (q_wI (q_wI (q_wI h 34 (upd (upd (q_I h 34) 5 (nI 0)) 6 (nI 0))) 35 F) 36 D) 37 T ∧ (∀ j, j < 72 → F j = nI 0) ∧ (∀ j, j < 64 → D j = nI 0) ∧ ∀ j, j < 64 → T j = nI 0) := by
  refine q_CtV mvX6_empty (Nat.le_of_ble_eq_true rfl) ?_
  refine xe_iconst dX6_empty_0 kc_0 ?_
  refine xe_istore_n (i := 1) dX6_empty_1 rfl (by decide) rfl ?_
  refine xe_fin (L' := (fun (i : Nat) (s1 : (Nat → Int32)) => [(0, .ref 34), (1, .int (nI i))]) 0 (q_I h 35)) (h' := (fun (i : Nat) (s1 : (Nat → Int32)) => (q_wI h 35 s1)) 0 (q_I h 35)) ?_ (And.intro rfl (And.intro rfl trivial)) (q_heq [35] (H := h) (by repeat (first | exact q_out_r | refine q_out_w rfl ?_)) (by repeat (first | exact q_out_r | refine q_out_w rfl ?_)) (And.intro rfl trivial))
  refine xe_loopI (σ := (Nat → Int32)) (72) (fun i s => ∀ j, j < i → s j = nI 0) (fun (i : Nat) (s1 : (Nat → Int32)) => [(0, .ref 34), (1, .int (nI i))]) (fun (i : Nat) (s1 : (Nat → Int32)) => (q_wI h 35 s1)) (q_I h 35) ((fun j hj => absurd hj (Nat.not_lt_zero _))) (fun i hi s1 e1 K1 => ?_) (fun s1 e1 => ?_)
  · refine xe_iload_n dX6_empty_2 rfl ?_
    refine xe_aload_n dX6_empty_3 rfl ?_
    refine xe_getP dX6_empty_4 flX6_9 (st34 hs) (by decide) rfl (sp34_0 hs) ?_
    refine xe_alen dX6_empty_7 (st35 hs) (by decide) ⟨0, _, rfl⟩ (v := nI 72) rfl ?_
    refine xn_icmp_ge (tgt := 24) dX6_empty_8 rfl (by omega) (by omega) (fun c2 => ?_) (fun c2 => ?_)
    · omega
    · refine xe_aload_n dX6_empty_11 rfl ?_
      refine xe_getP dX6_empty_12 flX6_9 (st34 hs) (by decide) rfl (sp34_0 hs) ?_
      refine xe_iload_n dX6_empty_15 rfl ?_
      refine xe_iconst dX6_empty_16 kc_0 ?_
      refine xn_iast dX6_empty_17 (st35 hs) (by omega) (by decide) ?_
      refine xn_iinc dX6_empty_18 rfl kc_1 ?_
      refine xe_goto (tgt := 2) dX6_empty_21 rfl ?_
      exact xe_fin (K1 (upd s1 i (nI 0)) ((fun j hj => by
        by_cases q : j = i
        · subst q
          exact if_pos rfl
        · exact (pk_un q).trans (e1 j (by omega))))) (And.intro rfl (And.intro rfl trivial)) (q_heq [35] (H := h) (by repeat (first | exact q_out_r | refine q_out_w rfl ?_)) (by repeat (first | exact q_out_r | refine q_out_w rfl ?_)) (And.intro rfl trivial))
  · refine xe_iload_n dX6_empty_2 rfl ?_
    refine xe_aload_n dX6_empty_3 rfl ?_
    refine xe_getP dX6_empty_4 flX6_9 (st34 hs) (by decide) rfl (sp34_0 hs) ?_
    refine xe_alen dX6_empty_7 (st35 hs) (by decide) ⟨0, _, rfl⟩ (v := nI 72) rfl ?_
    refine xn_icmp_ge (tgt := 24) dX6_empty_8 rfl (by omega) (by omega) (fun c3 => ?_) (fun c3 => ?_)
    · refine xe_iconst dX6_empty_24 kc_0 ?_
      refine xe_istore_n (i := 1) dX6_empty_25 rfl (by decide) rfl ?_
      refine xe_fin (L' := (fun (k : Nat) (s4 : (Nat → Int32)) => [(0, .ref 34), (1, .int (nI k))]) 0 (q_I h 36)) (h' := (fun (k : Nat) (s4 : (Nat → Int32)) => (q_wI (q_wI h 35 s1) 36 s4)) 0 (q_I h 36)) ?_ (And.intro rfl (And.intro rfl trivial)) (q_heq [35, 36] (H := h) (by repeat (first | exact q_out_r | refine q_out_w rfl ?_)) (by repeat (first | exact q_out_r | refine q_out_w rfl ?_)) (And.intro rfl (And.intro rfl trivial)))
      refine xe_loopI (σ := (Nat → Int32)) (64) (fun i s => ∀ j, j < i → s j = nI 0) (fun (k : Nat) (s4 : (Nat → Int32)) => [(0, .ref 34), (1, .int (nI k))]) (fun (k : Nat) (s4 : (Nat → Int32)) => (q_wI (q_wI h 35 s1) 36 s4)) (q_I h 36) ((fun j hj => absurd hj (Nat.not_lt_zero _))) (fun k hk s4 e4 K4 => ?_) (fun s4 e4 => ?_)
      · refine xe_iload_n dX6_empty_26 rfl ?_
        refine xe_aload_n dX6_empty_27 rfl ?_
        refine xe_getP dX6_empty_28 flX6_15 (st34 hs) (by decide) rfl (sp34_1 hs) ?_
        refine xe_alen dX6_empty_31 (st36 hs) (by decide) ⟨0, _, rfl⟩ (v := nI 64) rfl ?_
        refine xn_icmp_ge (tgt := 48) dX6_empty_32 rfl (by omega) (by omega) (fun c5 => ?_) (fun c5 => ?_)
        · omega
        · refine xe_aload_n dX6_empty_35 rfl ?_
          refine xe_getP dX6_empty_36 flX6_15 (st34 hs) (by decide) rfl (sp34_1 hs) ?_
          refine xe_iload_n dX6_empty_39 rfl ?_
          refine xe_iconst dX6_empty_40 kc_0 ?_
          refine xn_iast dX6_empty_41 (st36 hs) (by omega) (by decide) ?_
          refine xn_iinc dX6_empty_42 rfl kc_1 ?_
          refine xe_goto (tgt := 26) dX6_empty_45 rfl ?_
          exact xe_fin (K4 (upd s4 k (nI 0)) ((fun j hj => by
            by_cases q : j = k
            · subst q
              exact if_pos rfl
            · exact (pk_un q).trans (e4 j (by omega))))) (And.intro rfl (And.intro rfl trivial)) (q_heq [35, 36] (H := h) (by repeat (first | exact q_out_r | refine q_out_w rfl ?_)) (by repeat (first | exact q_out_r | refine q_out_w rfl ?_)) (And.intro rfl (And.intro rfl trivial)))
      · refine xe_iload_n dX6_empty_26 rfl ?_
        refine xe_aload_n dX6_empty_27 rfl ?_
        refine xe_getP dX6_empty_28 flX6_15 (st34 hs) (by decide) rfl (sp34_1 hs) ?_
        refine xe_alen dX6_empty_31 (st36 hs) (by decide) ⟨0, _, rfl⟩ (v := nI 64) rfl ?_
        refine xn_icmp_ge (tgt := 48) dX6_empty_32 rfl (by omega) (by omega) (fun c6 => ?_) (fun c6 => ?_)
        · refine xe_iconst dX6_empty_48 kc_0 ?_
          refine xe_istore_n (i := 1) dX6_empty_49 rfl (by decide) rfl ?_
          refine xe_fin (L' := (fun (u : Nat) (s7 : (Nat → Int32)) => [(0, .ref 34), (1, .int (nI u))]) 0 (q_I h 37)) (h' := (fun (u : Nat) (s7 : (Nat → Int32)) => (q_wI (q_wI (q_wI h 35 s1) 36 s4) 37 s7)) 0 (q_I h 37)) ?_ (And.intro rfl (And.intro rfl trivial)) (q_heq [35, 36, 37] (H := h) (by repeat (first | exact q_out_r | refine q_out_w rfl ?_)) (by repeat (first | exact q_out_r | refine q_out_w rfl ?_)) (And.intro rfl (And.intro rfl (And.intro rfl trivial))))
          refine xe_loopI (σ := (Nat → Int32)) (64) (fun i s => ∀ j, j < i → s j = nI 0) (fun (u : Nat) (s7 : (Nat → Int32)) => [(0, .ref 34), (1, .int (nI u))]) (fun (u : Nat) (s7 : (Nat → Int32)) => (q_wI (q_wI (q_wI h 35 s1) 36 s4) 37 s7)) (q_I h 37) ((fun j hj => absurd hj (Nat.not_lt_zero _))) (fun u hu s7 e7 K7 => ?_) (fun s7 e7 => ?_)
          · refine xe_iload_n dX6_empty_50 rfl ?_
            refine xe_aload_n dX6_empty_51 rfl ?_
            refine xe_getP dX6_empty_52 flX6_18 (st34 hs) (by decide) rfl (sp34_2 hs) ?_
            refine xe_alen dX6_empty_55 (st37 hs) (by decide) ⟨0, _, rfl⟩ (v := nI 64) rfl ?_
            refine xn_icmp_ge (tgt := 72) dX6_empty_56 rfl (by omega) (by omega) (fun c8 => ?_) (fun c8 => ?_)
            · omega
            · refine xe_aload_n dX6_empty_59 rfl ?_
              refine xe_getP dX6_empty_60 flX6_18 (st34 hs) (by decide) rfl (sp34_2 hs) ?_
              refine xe_iload_n dX6_empty_63 rfl ?_
              refine xe_iconst dX6_empty_64 kc_0 ?_
              refine xn_iast dX6_empty_65 (st37 hs) (by omega) (by decide) ?_
              refine xn_iinc dX6_empty_66 rfl kc_1 ?_
              refine xe_goto (tgt := 50) dX6_empty_69 rfl ?_
              exact xe_fin (K7 (upd s7 u (nI 0)) ((fun j hj => by
                by_cases q : j = u
                · subst q
                  exact if_pos rfl
                · exact (pk_un q).trans (e7 j (by omega))))) (And.intro rfl (And.intro rfl trivial)) (q_heq [35, 36, 37] (H := h) (by repeat (first | exact q_out_r | refine q_out_w rfl ?_)) (by repeat (first | exact q_out_r | refine q_out_w rfl ?_)) (And.intro rfl (And.intro rfl (And.intro rfl trivial))))
          · refine xe_iload_n dX6_empty_50 rfl ?_
            refine xe_aload_n dX6_empty_51 rfl ?_
            refine xe_getP dX6_empty_52 flX6_18 (st34 hs) (by decide) rfl (sp34_2 hs) ?_
            refine xe_alen dX6_empty_55 (st37 hs) (by decide) ⟨0, _, rfl⟩ (v := nI 64) rfl ?_
            refine xn_icmp_ge (tgt := 72) dX6_empty_56 rfl (by omega) (by omega) (fun c9 => ?_) (fun c9 => ?_)
            · refine xe_aload_n dX6_empty_72 rfl ?_
              refine xe_iconst dX6_empty_73 kc_0 ?_
              refine xe_putI dX6_empty_74 flX6_27 (st34 hs) (by decide) rfl (Or.inl rfl) rfl rfl ?_
              refine xe_aload_n dX6_empty_77 rfl ?_
              refine xe_iconst dX6_empty_78 kc_0 ?_
              refine xe_putI dX6_empty_79 flX6_31 (st34 hs) (by decide) rfl (Or.inl rfl) rfl rfl ?_
              refine xe_return dX6_empty_82 rfl ?_
              exact ⟨rfl, _, _, _, (q_heq [34, 35, 36, 37] (H := h) (by repeat (first | exact q_out_r | refine q_out_w rfl ?_)) (by repeat (first | exact q_out_r | refine q_out_w rfl ?_)) (And.intro (q_feq [5, 6] (f := q_I h 34) (by repeat (first | exact q_fout_r | refine q_fout_w rfl ?_)) (by repeat (first | exact q_fout_r | refine q_fout_w rfl ?_)) (And.intro rfl (And.intro rfl trivial))) (And.intro rfl (And.intro rfl (And.intro rfl trivial))))), e1, e4, e7⟩
            · omega
        · omega
    · omega
theorem c_X9_beginAnew10 (l : Launch) (g : q_GP) (h : q_H) (hs : q_Stat h) (hP : q_P h 0 2 = some 10) {nm : Nat} {f : List Nat} (h3 : q_I h 10 3 = nI nm) (hnm : nm ≤ 8) (hf : ∀ i, i < nm → q_I h 13 i = nI (f.getD i 0)) : q_Ct l g 1 mX9_beginAnew [.ref 0] h (fun r h1 => r = none ∧ ∃ F D T U, h1 = q_wI (q_wI (q_wI (q_wI (q_wI (q_wI (q_wI h 34 (upd (upd (q_I h 34) 5 (nI 0)) 6 (nI 0))) 35 F) 36 D) 37 T) 41 U) 42 (upd (q_I h 42) 2 (nI 0))) 94 (upd (q_I h 94) 3 (nI 0)) ∧ (∀ k, k < 72 → F k = q_nR f nm k) ∧ (∀ j, j < 64 → D j = nI 0) ∧ (∀ j, j < 64 → T j = nI 0) ∧ ∀ j, j < 3 → U j = nI 0) := by
  refine q_CtV mvX9_beginAnew (Nat.le_of_ble_eq_true rfl) ?_
  refine xe_aload_n dX9_beginAnew_0 rfl ?_
  refine xe_getP dX9_beginAnew_1 flX9_36 (st0 hs) (by decide) rfl (sp0_4 hs) ?_
  refine xe_callVVq (d' := 0) (y' := mX6_empty) dX9_beginAnew_4 mlX9_114 mvX6_empty rfl (st34 hs) (by decide) rfl (by decide) (by decide) (Nat.le_of_ble_eq_true rfl) (c_X6_empty l g _ (by exact hs)) rfl (fun hE hEq => ?_)
  obtain ⟨F0, D0, T0, rfl, f1, f2, f3⟩ := hEq
  refine xe_iconst dX9_beginAnew_7 kc_0 ?_
  refine xe_istore_n (i := 1) dX9_beginAnew_8 rfl (by decide) rfl ?_
  refine xe_fin (L' := (fun (i : Nat) (s1 : (Nat → Int32)) => [(0, .ref 0), (1, .int (nI i))]) 0 F0) (h' := (fun (i : Nat) (s1 : (Nat → Int32)) => (q_wI (q_wI (q_wI (q_wI h 34 (upd (upd (q_I h 34) 5 (nI 0)) 6 (nI 0))) 35 s1) 36 D0) 37 T0)) 0 F0) ?_ (And.intro rfl (And.intro rfl trivial)) (q_heq [34, 35, 36, 37] (H := h) (by repeat (first | exact q_out_r | refine q_out_w rfl ?_)) (by repeat (first | exact q_out_r | refine q_out_w rfl ?_)) (And.intro (q_feq [5, 6] (f := q_I h 34) (by repeat (first | exact q_fout_r | refine q_fout_w rfl ?_)) (by repeat (first | exact q_fout_r | refine q_fout_w rfl ?_)) (And.intro rfl (And.intro rfl trivial))) (And.intro rfl (And.intro rfl (And.intro rfl trivial)))))
  refine xe_loopI (σ := (Nat → Int32)) (nm) (fun i z => ∀ k, k < 72 → z k = q_nR f i k) (fun (i : Nat) (s1 : (Nat → Int32)) => [(0, .ref 0), (1, .int (nI i))]) (fun (i : Nat) (s1 : (Nat → Int32)) => (q_wI (q_wI (q_wI (q_wI h 34 (upd (upd (q_I h 34) 5 (nI 0)) 6 (nI 0))) 35 s1) 36 D0) 37 T0)) F0 ((fun k hk => (f1 k hk).trans q_nR_0.symm)) (fun i hi s1 e1 K1 => ?_) (fun s1 e1 => ?_)
  · refine xe_iload_n dX9_beginAnew_9 rfl ?_
    refine xe_aload_n dX9_beginAnew_10 rfl ?_
    refine xe_getP dX9_beginAnew_11 flX9_26 (st0 hs) (by decide) rfl hP ?_
    refine xe_getIv dX9_beginAnew_14 flX9_117 (st10 hs) (by decide) rfl (v := nI nm) (h3) ?_
    refine xn_icmp_ge (tgt := 49) dX9_beginAnew_17 rfl (by omega) (by omega) (fun c2 => ?_) (fun c2 => ?_)
    · omega
    · refine xe_aload_n dX9_beginAnew_20 rfl ?_
      refine xe_getP dX9_beginAnew_21 flX9_36 (st0 hs) (by decide) rfl (sp0_4 hs) ?_
      refine xe_getP dX9_beginAnew_24 flX9_120 (st34 hs) (by decide) rfl (sp34_0 hs) ?_
      refine xe_iload_n dX9_beginAnew_27 rfl ?_
      refine xe_bipush dX9_beginAnew_28 kb_8 ?_
      refine xn_imul dX9_beginAnew_30 ?_
      refine xe_iload_n dX9_beginAnew_31 rfl ?_
      refine xn_iadd dX9_beginAnew_32 ?_
      refine xe_aload_n dX9_beginAnew_33 rfl ?_
      refine xe_getP dX9_beginAnew_34 flX9_26 (st0 hs) (by decide) rfl hP ?_
      refine xe_getP dX9_beginAnew_37 flX9_123 (st10 hs) (by decide) rfl (sp10_7 hs) ?_
      refine xe_iload_n dX9_beginAnew_40 rfl ?_
      refine xn_ialdv dX9_beginAnew_41 (st13 hs) (by omega) (by decide) (v := nI (f.getD i 0)) (hf i (by omega)) ?_
      refine xn_iast dX9_beginAnew_42 (st35 hs) (by omega) (by decide) ?_
      refine xn_iinc dX9_beginAnew_43 rfl kc_1 ?_
      refine xe_goto (tgt := 9) dX9_beginAnew_46 rfl ?_
      exact xe_fin (K1 (upd s1 ((i * 8) + i) (nI (f.getD i 0))) ((fun k hk => by rw [show i * 8 + i = 9 * i by omega]; exact q_nR_s (e1 k hk)))) (And.intro rfl (And.intro rfl trivial)) (q_heq [34, 35, 36, 37] (H := h) (by repeat (first | exact q_out_r | refine q_out_w rfl ?_)) (by repeat (first | exact q_out_r | refine q_out_w rfl ?_)) (And.intro (q_feq [5, 6] (f := q_I h 34) (by repeat (first | exact q_fout_r | refine q_fout_w rfl ?_)) (by repeat (first | exact q_fout_r | refine q_fout_w rfl ?_)) (And.intro rfl (And.intro rfl trivial))) (And.intro rfl (And.intro rfl (And.intro rfl trivial)))))
  · refine xe_iload_n dX9_beginAnew_9 rfl ?_
    refine xe_aload_n dX9_beginAnew_10 rfl ?_
    refine xe_getP dX9_beginAnew_11 flX9_26 (st0 hs) (by decide) rfl hP ?_
    refine xe_getIv dX9_beginAnew_14 flX9_117 (st10 hs) (by decide) rfl (v := nI nm) (h3) ?_
    refine xn_icmp_ge (tgt := 49) dX9_beginAnew_17 rfl (by omega) (by omega) (fun c3 => ?_) (fun c3 => ?_)
    · refine xe_aload_n dX9_beginAnew_49 rfl ?_
      refine xe_getP dX9_beginAnew_50 flX9_51 (st0 hs) (by decide) rfl (sp0_7 hs) ?_
      refine xe_iconst dX9_beginAnew_53 kc_0 ?_
      refine xe_putI dX9_beginAnew_54 flX9_124 (st42 hs) (by decide) rfl (Or.inl rfl) rfl rfl ?_
      refine xe_aload_n dX9_beginAnew_57 rfl ?_
      refine xe_getP dX9_beginAnew_58 flX9_58 (st0 hs) (by decide) rfl (sp0_8 hs) ?_
      refine xe_iconst dX9_beginAnew_61 kc_0 ?_
      refine xe_putI dX9_beginAnew_62 flX9_127 (st94 hs) (by decide) rfl (Or.inl rfl) rfl rfl ?_
      refine xe_iconst dX9_beginAnew_65 kc_0 ?_
      refine xe_istore_n (i := 1) dX9_beginAnew_66 rfl (by decide) rfl ?_
      refine xe_fin (L' := (fun (u : Nat) (s4 : (Nat → Int32)) => [(0, .ref 0), (1, .int (nI u))]) 0 (q_I h 41)) (h' := (fun (u : Nat) (s4 : (Nat → Int32)) => (q_wI (q_wI (q_wI (q_wI (q_wI (q_wI (q_wI h 34 (upd (upd (q_I h 34) 5 (nI 0)) 6 (nI 0))) 35 s1) 36 D0) 37 T0) 41 s4) 42 (upd (q_I h 42) 2 (nI 0))) 94 (upd (q_I h 94) 3 (nI 0)))) 0 (q_I h 41)) ?_ (And.intro rfl (And.intro rfl trivial)) (q_heq [34, 35, 36, 37, 41, 42, 94] (H := h) (by repeat (first | exact q_out_r | refine q_out_w rfl ?_)) (by repeat (first | exact q_out_r | refine q_out_w rfl ?_)) (And.intro (q_feq [5, 6] (f := q_I h 34) (by repeat (first | exact q_fout_r | refine q_fout_w rfl ?_)) (by repeat (first | exact q_fout_r | refine q_fout_w rfl ?_)) (And.intro rfl (And.intro rfl trivial))) (And.intro rfl (And.intro rfl (And.intro rfl (And.intro rfl (And.intro (q_feq [2] (f := q_I h 42) (by repeat (first | exact q_fout_r | refine q_fout_w rfl ?_)) (by repeat (first | exact q_fout_r | refine q_fout_w rfl ?_)) (And.intro rfl trivial)) (And.intro (q_feq [3] (f := q_I h 94) (by repeat (first | exact q_fout_r | refine q_fout_w rfl ?_)) (by repeat (first | exact q_fout_r | refine q_fout_w rfl ?_)) (And.intro rfl trivial)) trivial))))))))
      refine xe_loopI (σ := (Nat → Int32)) (3) (fun i s => ∀ j, j < i → s j = nI 0) (fun (u : Nat) (s4 : (Nat → Int32)) => [(0, .ref 0), (1, .int (nI u))]) (fun (u : Nat) (s4 : (Nat → Int32)) => (q_wI (q_wI (q_wI (q_wI (q_wI (q_wI (q_wI h 34 (upd (upd (q_I h 34) 5 (nI 0)) 6 (nI 0))) 35 s1) 36 D0) 37 T0) 41 s4) 42 (upd (q_I h 42) 2 (nI 0))) 94 (upd (q_I h 94) 3 (nI 0)))) (q_I h 41) ((fun j hj => absurd hj (Nat.not_lt_zero _))) (fun u hu s4 e4 K4 => ?_) (fun s4 e4 => ?_)
      · refine xe_iload_n dX9_beginAnew_67 rfl ?_
        refine xe_iconst dX9_beginAnew_68 kc_3 ?_
        refine xn_icmp_ge (tgt := 85) dX9_beginAnew_69 rfl (by omega) (by omega) (fun c5 => ?_) (fun c5 => ?_)
        · omega
        · refine xe_aload_n dX9_beginAnew_72 rfl ?_
          refine xe_getP dX9_beginAnew_73 flX9_44 (st0 hs) (by decide) rfl (sp0_6 hs) ?_
          refine xe_iload_n dX9_beginAnew_76 rfl ?_
          refine xe_iconst dX9_beginAnew_77 kc_0 ?_
          refine xn_zast dX9_beginAnew_78 (st41 hs) (by omega) (by decide) rfl ?_
          refine xn_iinc dX9_beginAnew_79 rfl kc_1 ?_
          refine xe_goto (tgt := 67) dX9_beginAnew_82 rfl ?_
          exact xe_fin (K4 (upd s4 u (nI 0)) ((fun j hj => by
            by_cases q : j = u
            · subst q
              exact if_pos rfl
            · exact (pk_un q).trans (e4 j (by omega))))) (And.intro rfl (And.intro rfl trivial)) (q_heq [34, 35, 36, 37, 41, 42, 94] (H := h) (by repeat (first | exact q_out_r | refine q_out_w rfl ?_)) (by repeat (first | exact q_out_r | refine q_out_w rfl ?_)) (And.intro (q_feq [5, 6] (f := q_I h 34) (by repeat (first | exact q_fout_r | refine q_fout_w rfl ?_)) (by repeat (first | exact q_fout_r | refine q_fout_w rfl ?_)) (And.intro rfl (And.intro rfl trivial))) (And.intro rfl (And.intro rfl (And.intro rfl (And.intro rfl (And.intro (q_feq [2] (f := q_I h 42) (by repeat (first | exact q_fout_r | refine q_fout_w rfl ?_)) (by repeat (first | exact q_fout_r | refine q_fout_w rfl ?_)) (And.intro rfl trivial)) (And.intro (q_feq [3] (f := q_I h 94) (by repeat (first | exact q_fout_r | refine q_fout_w rfl ?_)) (by repeat (first | exact q_fout_r | refine q_fout_w rfl ?_)) (And.intro rfl trivial)) trivial))))))))
      · refine xe_iload_n dX9_beginAnew_67 rfl ?_
        refine xe_iconst dX9_beginAnew_68 kc_3 ?_
        refine xn_icmp_ge (tgt := 85) dX9_beginAnew_69 rfl (by omega) (by omega) (fun c6 => ?_) (fun c6 => ?_)
        · refine xe_return dX9_beginAnew_85 rfl ?_
          exact ⟨rfl, _, _, _, _, (q_heq [34, 35, 36, 37, 41, 42, 94] (H := h) (by repeat (first | exact q_out_r | refine q_out_w rfl ?_)) (by repeat (first | exact q_out_r | refine q_out_w rfl ?_)) (And.intro (q_feq [5, 6] (f := q_I h 34) (by repeat (first | exact q_fout_r | refine q_fout_w rfl ?_)) (by repeat (first | exact q_fout_r | refine q_fout_w rfl ?_)) (And.intro rfl (And.intro rfl trivial))) (And.intro rfl (And.intro rfl (And.intro rfl (And.intro rfl (And.intro (q_feq [2] (f := q_I h 42) (by repeat (first | exact q_fout_r | refine q_fout_w rfl ?_)) (by repeat (first | exact q_fout_r | refine q_fout_w rfl ?_)) (And.intro rfl trivial)) (And.intro (q_feq [3] (f := q_I h 94) (by repeat (first | exact q_fout_r | refine q_fout_w rfl ?_)) (by repeat (first | exact q_fout_r | refine q_fout_w rfl ?_)) (And.intro rfl trivial)) trivial)))))))), e1, f2, f3, e4⟩
        · omega
    · omega
def ph_10 (h : q_H) : q_H := q_wP (q_wP h 7 (va_up (q_P h 7) 2 (some 1))) 7 (va_up (q_P (q_wP h 7 (va_up (q_P h 7) 2 (some 1))) 7) 3 (some 10))
theorem c_X5_parse10 (l : Launch) (g : q_GP) (h : q_H) (hs : q_Stat h) {K : q_TK} {m : Nat} (hT : ck_T h K m) : q_Ct l g 24 mX5_parse [.ref 7, .ref 1, .ref 10] h (q_prA K m 10 (ph_10 h) (tx_all K 401 tx_0 0)) := by
  refine q_CtV mvX5_parse (Nat.le_of_ble_eq_true rfl) ?_
  refine xe_aload_n dX5_parse_0 rfl ?_
  refine xe_aload_n dX5_parse_1 rfl ?_
  refine xe_putP dX5_parse_2 flX5_22 (st7 hs) (by decide) rfl (Or.inl rfl) (fun _ => rfl) (fun _ => rfl) ?_
  have hs1 := q_Stat_wP (h := h) (r := 7) (k := 2) (v := some 1) rfl hs
  refine xe_aload_n dX5_parse_5 rfl ?_
  refine xe_aload_n dX5_parse_6 rfl ?_
  refine xe_putP dX5_parse_7 flX5_26 (st7 hs1) (by decide) rfl (Or.inl rfl) (fun _ => rfl) (fun _ => rfl) ?_
  have hs2 := q_Stat_wP (r := 7) (k := 3) (v := some 10) rfl hs1
  exact xe_locals (L' := [(0, .ref 7), (1, .ref 1), (2, .ref 10)]) ⟨rfl, rfl, rfl, trivial⟩ (pr_10_10 l g (ph_10 h) hs2 rfl rfl hT)
theorem ph_fr10 {h : q_H} : cd_fr h (ph_10 h) ∧ q_P (ph_10 h) 0 = q_P h 0 := ⟨⟨rfl, rfl, rfl, rfl, fun r h7 _ => (if_neg h7).trans (if_neg h7), fun _ _ _ => rfl, fun k h2 h3 => (va_up_ne _ _ h3).trans (va_up_ne _ _ h2), fun _ _ _ _ => rfl⟩, rfl⟩
def sw_10 (h : q_H) : q_H := q_wP (q_wP h 0 (va_up (q_P h 0) 2 (some 10))) 0 (va_up (q_P (q_wP h 0 (va_up (q_P h 0) 2 (some 10))) 0) 3 (some 22))
theorem cd_t10 {h h1 h2 : q_H} (a : cd_fr h h1) (b : cd_fr h1 h2) : cd_fr h h2 := ⟨b.1.trans a.1, b.2.1.trans a.2.1, b.2.2.1.trans a.2.2.1, b.2.2.2.1.trans a.2.2.2.1, fun r x y => (b.2.2.2.2.1 r x y).trans (a.2.2.2.2.1 r x y), fun k x y => (b.2.2.2.2.2.1 k x y).trans (a.2.2.2.2.2.1 k x y), fun k x y => (b.2.2.2.2.2.2.1 k x y).trans (a.2.2.2.2.2.2.1 k x y), fun r x y z => (b.2.2.2.2.2.2.2 r x y z).trans (a.2.2.2.2.2.2.2 r x y z)⟩
theorem rk_f10 (l : Launch) (g : q_GP) {K : q_TK} {h h3 : q_H} (hs : q_Stat h) (hF : cd_fr h h3) (hF0 : q_P h3 0 = q_P h 0) (hI : ∀ r, r ≠ 1 → r ≠ 3 → r ≠ 4 → r ≠ 7 → r < 10 ∨ 19 < r → q_I h3 r = q_I h r) {e : Nat × Nat} (he : 1 ≤ e.1) (he5 : e.1 ≤ 5) (h7 : q_I h3 7 7 = nI e.1) (h8 : q_I h3 7 8 = nI (tk_P K e.2)) : q_Ex l g 25 mX9_read 22 [(0, .ref 0)] [] h3 (fun r h1 => cd_F K 10 h h1 r e) := by
  have hs3 : q_Stat h3 := cd_st hF hs
  refine xe_aload_n dX9_read_22 rfl ?_
  refine xe_getP dX9_read_23 flX9_12 (st0 hs3) (by decide) rfl (sp0_0 hs3) ?_
  refine xe_iconst dX9_read_26 kc_0 ?_
  refine xe_putI dX9_read_27 flX9_97 (st1 hs3) (by decide) rfl (Or.inl rfl) rfl rfl ?_
  refine xe_aload_n dX9_read_30 rfl ?_
  refine xe_getP dX9_read_31 flX9_19 (st0 hs3) (by decide) rfl (sp0_1 hs3) ?_
  refine xe_getIv dX9_read_34 flX9_108 (st7 hs3) (by decide) rfl (v := nI e.1) h7 ?_
  refine xn_if_ne (tgt := 62) dX9_read_37 rfl (by omega) (fun _ => ?_) (fun q => absurd q (by omega))
  refine xe_aload_n dX9_read_62 rfl ?_
  refine xe_getP dX9_read_63 flX9_19 (st0 hs3) (by decide) rfl (sp0_1 hs3) ?_
  refine xe_getIv dX9_read_66 flX9_108 (st7 hs3) (by decide) rfl (v := nI e.1) h7 ?_
  refine xe_ireturn dX9_read_69 rfl rfl ?_
  exact ⟨rfl, hF, hF0, fun r x1 x2 x3 x4 x5 => (q_Ine x1).trans (hI r x1 x2 x3 x4 x5), rfl, h7, h8⟩
theorem rk_g10 (l : Launch) (g : q_GP) {K : q_TK} {h h3 : q_H} (hs : q_Stat h) (hP2 : q_P h 0 2 = some 22) (hP3 : q_P h 0 3 = some 10) (hF : cd_fr h h3) (hF0 : q_P h3 0 = q_P h 0) (hI : ∀ r, r ≠ 1 → r ≠ 3 → r ≠ 4 → r ≠ 7 → r < 10 ∨ 19 < r → q_I h3 r = q_I h r) {s : q_PS} (h7 : q_I h3 7 7 = nI 0) {n : Nat} (hn : n ≤ 410) (hV : ck_V h3 K 10 n s) : q_Ex l g 25 mX9_read 22 [(0, .ref 0)] [] h3 (fun r h1 => cd_G 10 22 h h1 r s) := by
  obtain ⟨v1, v2, v3, v4, v5, v6, v7, v8, v9, v10, v11, v12, v13, v14, v15, v16, v17⟩ := hV
  have hs3 : q_Stat h3 := cd_st hF hs
  refine xe_aload_n dX9_read_22 rfl ?_
  refine xe_getP dX9_read_23 flX9_12 (st0 hs3) (by decide) rfl (sp0_0 hs3) ?_
  refine xe_iconst dX9_read_26 kc_0 ?_
  refine xe_putI dX9_read_27 flX9_97 (st1 hs3) (by decide) rfl (Or.inl rfl) rfl rfl ?_
  refine xe_aload_n dX9_read_30 rfl ?_
  refine xe_getP dX9_read_31 flX9_19 (st0 hs3) (by decide) rfl (sp0_1 hs3) ?_
  refine xe_getIv dX9_read_34 flX9_108 (st7 hs3) (by decide) rfl (v := nI 0) h7 ?_
  refine xn_if_ne (tgt := 62) dX9_read_37 rfl (by omega) (fun q => absurd q (by omega)) (fun _ => ?_)
  refine xe_aload_n dX9_read_40 rfl ?_
  refine xe_getP dX9_read_41 flX9_26 (st0 hs3) (by decide) rfl (a := 22) ((congrFun hF0 2).trans hP2) ?_
  refine xe_astore_n (i := 1) dX9_read_44 rfl (by decide) rfl ?_
  refine xe_aload_n dX9_read_45 rfl ?_
  refine xe_aload_n dX9_read_46 rfl ?_
  refine xe_getP dX9_read_47 flX9_30 (st0 hs3) (by decide) rfl (a := 10) ((congrFun hF0 3).trans hP3) ?_
  refine xe_putP dX9_read_50 flX9_26 (st0 hs3) (by decide) rfl (Or.inl rfl) (fun _ => rfl) (fun _ => rfl) ?_
  refine xe_aload_n dX9_read_53 rfl ?_
  refine xe_aload_n dX9_read_54 rfl ?_
  have hs35 := q_Stat_wP (r := 0) (k := 2) (v := some 10) rfl (show q_Stat (q_wI h3 1 (upd (q_I h3 1) 1 (nI 0))) from hs3)
  refine xe_putP dX9_read_55 flX9_30 (st0 hs35) (by decide) rfl (Or.inl rfl) (fun _ => rfl) (fun _ => rfl) ?_
  have hs4 : q_Stat (sw_10 (q_wI h3 1 (upd (q_I h3 1) 1 (nI 0)))) := q_Stat_wP (r := 0) (k := 3) (v := some 22) rfl (q_Stat_wP (r := 0) (k := 2) (v := some 10) rfl (show q_Stat (q_wI h3 1 (upd (q_I h3 1) 1 (nI 0))) from hs3))
  refine xe_aload_n dX9_read_58 rfl ?_
  refine xe_callV (d' := 1) (y' := mX9_beginAnew) (as := []) (rest := []) dX9_read_59 mlX9_111 mvX9_beginAnew rfl (st0 hs4) (by decide) rfl (by decide) (by decide) (Nat.le_of_ble_eq_true rfl) (c_X9_beginAnew10 l g (sw_10 (q_wI h3 1 (upd (q_I h3 1) 1 (nI 0)))) hs4 rfl (nm := (ps_m s).length) (f := ps_f s) v2 v14.1 (fun i hi => v10 i (by omega))) rfl (fun r h5 hq => ?_)
  obtain ⟨rfl, F, D, T, U, rfl, b1, b2, b3, b4⟩ := hq
  refine xe_aload_n dX9_read_62 rfl ?_
  refine xe_getP dX9_read_63 flX9_19 (st0 hs4) (by decide) rfl (sp0_1 hs4) ?_
  refine xe_getIv dX9_read_66 flX9_108 (st7 hs4) (by decide) rfl (v := nI 0) h7 ?_
  refine xe_ireturn dX9_read_69 rfl rfl ?_
  have hcf : cd_fr h3 (sw_10 (q_wI h3 1 (upd (q_I h3 1) 1 (nI 0)))) := ⟨rfl, rfl, rfl, rfl, fun r _ x0 => (if_neg x0).trans (if_neg x0), fun k x2 x3 => (va_up_ne _ _ x3).trans (va_up_ne _ _ x2), fun _ _ _ => rfl, fun _ _ _ _ => rfl⟩
  refine ⟨rfl, cd_t10 hF hcf, rfl, rfl, fun r x1 x3 x4 x7 x34 x35 x36 x37 x41 x42 x94 xq => ?_, rfl, h7, rfl, rfl, b1, b2, b3, b4, rfl, ?_, rfl, n, hn, v1, v2, v3, v4, v5, v7, v8, v9, v14.1, v15.1, v11, v12, v13⟩
  · refine Eq.trans ?_ (hI r x1 x3 x4 x7 xq)
    repeat (first | exact rfl | refine (q_Ine (by assumption)).trans ?_)
  · exact congrFun (hI 42 (by decide) (by decide) (by decide) (by decide) (by decide)) 1
theorem c_X9_read10 (l : Launch) (g : q_GP) (h : q_H) (hs : q_Stat h) {n : Nat} {B : Nat → Nat} (hB : tb_B h n B) (hW : ck_W h) {LL : Nat} {xs : Nat → Int32} (hX : q_GX g LL xs) (hP2 : q_P h 0 2 = some 22) (hP3 : q_P h 0 3 = some 10) : q_Ct l g 25 mX9_read [.ref 0] h (cd_A (tz_K n B) 10 22 h (tx_all (tz_K n B) 401 tx_0 0)) := by
  refine q_CtV mvX9_read (Nat.le_of_ble_eq_true rfl) ?_
  refine xe_aload_n dX9_read_0 rfl ?_
  refine xe_getP dX9_read_1 flX9_12 (st0 hs) (by decide) rfl (sp0_0 hs) ?_
  refine xe_callV (d' := 5) (y' := mX7_scan) (as := []) (rest := []) dX9_read_4 mlX9_101 mvX7_scan rfl (st1 hs) (by decide) rfl (by decide) (by decide) (Nat.le_of_ble_eq_true rfl) (c_X7_scan l g h hs hB hW hX) rfl (fun r h1 q => ?_)
  obtain ⟨rfl, q⟩ := q
  obtain ⟨m, hT⟩ := tz_ckT hB.2.1 q
  obtain ⟨m2, -, -, -, hS⟩ := q
  have hs1 : q_Stat h1 := q_Stat_3 hS.1 hs
  refine xe_aload_n dX9_read_7 rfl ?_
  refine xe_getP dX9_read_8 flX9_19 (st0 hs1) (by decide) rfl (sp0_1 hs1) ?_
  refine xe_aload_n dX9_read_11 rfl ?_
  refine xe_getP dX9_read_12 flX9_12 (st0 hs1) (by decide) rfl (sp0_0 hs1) ?_
  refine xe_aload_n dX9_read_15 rfl ?_
  refine xe_getP dX9_read_16 flX9_30 (st0 hs1) (by decide) rfl (a := 10) ((congrArg (fun z => z.1 0 3) hS.1).trans hP3) ?_
  refine xe_callV (d' := 24) (y' := mX5_parse) (as := [.ref 1, .ref 10]) (rest := []) dX9_read_19 mlX9_104 mvX5_parse rfl (st7 hs1) (by decide) rfl (by decide) (by decide) (Nat.le_of_ble_eq_true rfl) (c_X5_parse10 l g h1 hs1 hT) rfl (fun r h3 q => ?_)
  obtain ⟨rfl, qf, q⟩ := q
  have hcf1 : cd_fr h h1 := ⟨congrArg (fun z => z.2.1) hS.1, congrArg (fun z => z.2.2.1) hS.1, congrArg (fun z => z.2.2.2.1) hS.1, congrArg (fun z => z.2.2.2.2) hS.1, fun r _ _ => congrArg (fun z => z.1 r) hS.1, fun k _ _ => congrArg (fun z => z.1 0 k) hS.1, fun k _ _ => congrArg (fun z => z.1 7 k) hS.1, fun r x5 _ _ => hS.2.2.2.1 r x5⟩
  have hcf3 : cd_fr (ph_10 h1) h3 := ⟨congrArg (fun z => z.2.1) qf.2.2, congrArg (fun z => z.2.2.1) qf.2.2, congrArg (fun z => z.2.2.2.1) qf.2.2, congrArg (fun z => z.2.2.2.2) qf.2.2, fun r _ _ => congrArg (fun z => z.1 r) qf.2.2, fun k _ _ => congrArg (fun z => z.1 0 k) qf.2.2, fun k _ _ => congrArg (fun z => z.1 7 k) qf.2.2, fun r _ x8 x9 => qf.2.1 r x8 x9⟩
  have hF : cd_fr h h3 := cd_t10 hcf1 (cd_t10 ph_fr10.1 hcf3)
  have hF0 : q_P h3 0 = q_P h 0 := (congrArg (fun z => z.1 0) qf.2.2).trans (ph_fr10.2.trans (congrArg (fun z => z.1 0) hS.1))
  have hI : ∀ r, r ≠ 1 → r ≠ 3 → r ≠ 4 → r ≠ 7 → r < 10 ∨ 19 < r → q_I h3 r = q_I h r := fun r x1 x3 x4 x7 xq => (qf.1 r x7 xq).trans (hS.2.1 r x1 x3 x4)
  cases ho : tx_all (tz_K n B) 401 tx_0 0 with
  | inl e =>
    rw [ho] at q
    have h12 := t12_all 401 tx_0 0 e ho
    exact rk_f10 l g hs hF hF0 hI h12.1 (by omega) q.1 q.2
  | inr x =>
    rw [ho] at q
    have hok := ps_all 401 tx_0 0 x ps_0 ho
    cases he : ps_e x.1 with
    | some e =>
      have q : match ps_e x.1 with | none => q_I h3 7 7 = nI 0 ∧ ∃ n, n ≤ 410 ∧ ck_V h3 (tz_K _ B) 10 n x.1 | some e => q_I h3 7 7 = nI e.1 ∧ q_I h3 7 8 = nI (tk_P (tz_K _ B) e.2) := q
      rw [he] at q
      have h35 := hok.1 e he
      refine xe_post (fun r h1 z => ?_) (rk_f10 l g hs hF hF0 hI (e := e) (by omega) h35.2 q.1 q.2)
      show match ps_e x.1 with | some e => _ | none => _
      rw [he]
      exact z
    | none =>
      have q : match ps_e x.1 with | none => q_I h3 7 7 = nI 0 ∧ ∃ n, n ≤ 410 ∧ ck_V h3 (tz_K _ B) 10 n x.1 | some e => q_I h3 7 7 = nI e.1 ∧ q_I h3 7 8 = nI (tk_P (tz_K _ B) e.2) := q
      rw [he] at q
      obtain ⟨q1, n1, q2, q3⟩ := q
      refine xe_post (fun r h1 z => ?_) (rk_g10 l g hs hP2 hP3 hF hF0 hI q1 q2 q3)
      show match ps_e x.1 with | some e => _ | none => _
      rw [he]
      exact z
theorem c_X9_beginAnew22 (l : Launch) (g : q_GP) (h : q_H) (hs : q_Stat h) (hP : q_P h 0 2 = some 22) {nm : Nat} {f : List Nat} (h3 : q_I h 22 3 = nI nm) (hnm : nm ≤ 8) (hf : ∀ i, i < nm → q_I h 25 i = nI (f.getD i 0)) : q_Ct l g 1 mX9_beginAnew [.ref 0] h (fun r h1 => r = none ∧ ∃ F D T U, h1 = q_wI (q_wI (q_wI (q_wI (q_wI (q_wI (q_wI h 34 (upd (upd (q_I h 34) 5 (nI 0)) 6 (nI 0))) 35 F) 36 D) 37 T) 41 U) 42 (upd (q_I h 42) 2 (nI 0))) 94 (upd (q_I h 94) 3 (nI 0)) ∧ (∀ k, k < 72 → F k = q_nR f nm k) ∧ (∀ j, j < 64 → D j = nI 0) ∧ (∀ j, j < 64 → T j = nI 0) ∧ ∀ j, j < 3 → U j = nI 0) := by
  refine q_CtV mvX9_beginAnew (Nat.le_of_ble_eq_true rfl) ?_
  refine xe_aload_n dX9_beginAnew_0 rfl ?_
  refine xe_getP dX9_beginAnew_1 flX9_36 (st0 hs) (by decide) rfl (sp0_4 hs) ?_
  refine xe_callVVq (d' := 0) (y' := mX6_empty) dX9_beginAnew_4 mlX9_114 mvX6_empty rfl (st34 hs) (by decide) rfl (by decide) (by decide) (Nat.le_of_ble_eq_true rfl) (c_X6_empty l g _ (by exact hs)) rfl (fun hE hEq => ?_)
  obtain ⟨F0, D0, T0, rfl, f1, f2, f3⟩ := hEq
  refine xe_iconst dX9_beginAnew_7 kc_0 ?_
  refine xe_istore_n (i := 1) dX9_beginAnew_8 rfl (by decide) rfl ?_
  refine xe_fin (L' := (fun (i : Nat) (s1 : (Nat → Int32)) => [(0, .ref 0), (1, .int (nI i))]) 0 F0) (h' := (fun (i : Nat) (s1 : (Nat → Int32)) => (q_wI (q_wI (q_wI (q_wI h 34 (upd (upd (q_I h 34) 5 (nI 0)) 6 (nI 0))) 35 s1) 36 D0) 37 T0)) 0 F0) ?_ (And.intro rfl (And.intro rfl trivial)) (q_heq [34, 35, 36, 37] (H := h) (by repeat (first | exact q_out_r | refine q_out_w rfl ?_)) (by repeat (first | exact q_out_r | refine q_out_w rfl ?_)) (And.intro (q_feq [5, 6] (f := q_I h 34) (by repeat (first | exact q_fout_r | refine q_fout_w rfl ?_)) (by repeat (first | exact q_fout_r | refine q_fout_w rfl ?_)) (And.intro rfl (And.intro rfl trivial))) (And.intro rfl (And.intro rfl (And.intro rfl trivial)))))
  refine xe_loopI (σ := (Nat → Int32)) (nm) (fun i z => ∀ k, k < 72 → z k = q_nR f i k) (fun (i : Nat) (s1 : (Nat → Int32)) => [(0, .ref 0), (1, .int (nI i))]) (fun (i : Nat) (s1 : (Nat → Int32)) => (q_wI (q_wI (q_wI (q_wI h 34 (upd (upd (q_I h 34) 5 (nI 0)) 6 (nI 0))) 35 s1) 36 D0) 37 T0)) F0 ((fun k hk => (f1 k hk).trans q_nR_0.symm)) (fun i hi s1 e1 K1 => ?_) (fun s1 e1 => ?_)
  · refine xe_iload_n dX9_beginAnew_9 rfl ?_
    refine xe_aload_n dX9_beginAnew_10 rfl ?_
    refine xe_getP dX9_beginAnew_11 flX9_26 (st0 hs) (by decide) rfl hP ?_
    refine xe_getIv dX9_beginAnew_14 flX9_117 (st22 hs) (by decide) rfl (v := nI nm) (h3) ?_
    refine xn_icmp_ge (tgt := 49) dX9_beginAnew_17 rfl (by omega) (by omega) (fun c2 => ?_) (fun c2 => ?_)
    · omega
    · refine xe_aload_n dX9_beginAnew_20 rfl ?_
      refine xe_getP dX9_beginAnew_21 flX9_36 (st0 hs) (by decide) rfl (sp0_4 hs) ?_
      refine xe_getP dX9_beginAnew_24 flX9_120 (st34 hs) (by decide) rfl (sp34_0 hs) ?_
      refine xe_iload_n dX9_beginAnew_27 rfl ?_
      refine xe_bipush dX9_beginAnew_28 kb_8 ?_
      refine xn_imul dX9_beginAnew_30 ?_
      refine xe_iload_n dX9_beginAnew_31 rfl ?_
      refine xn_iadd dX9_beginAnew_32 ?_
      refine xe_aload_n dX9_beginAnew_33 rfl ?_
      refine xe_getP dX9_beginAnew_34 flX9_26 (st0 hs) (by decide) rfl hP ?_
      refine xe_getP dX9_beginAnew_37 flX9_123 (st22 hs) (by decide) rfl (sp22_7 hs) ?_
      refine xe_iload_n dX9_beginAnew_40 rfl ?_
      refine xn_ialdv dX9_beginAnew_41 (st25 hs) (by omega) (by decide) (v := nI (f.getD i 0)) (hf i (by omega)) ?_
      refine xn_iast dX9_beginAnew_42 (st35 hs) (by omega) (by decide) ?_
      refine xn_iinc dX9_beginAnew_43 rfl kc_1 ?_
      refine xe_goto (tgt := 9) dX9_beginAnew_46 rfl ?_
      exact xe_fin (K1 (upd s1 ((i * 8) + i) (nI (f.getD i 0))) ((fun k hk => by rw [show i * 8 + i = 9 * i by omega]; exact q_nR_s (e1 k hk)))) (And.intro rfl (And.intro rfl trivial)) (q_heq [34, 35, 36, 37] (H := h) (by repeat (first | exact q_out_r | refine q_out_w rfl ?_)) (by repeat (first | exact q_out_r | refine q_out_w rfl ?_)) (And.intro (q_feq [5, 6] (f := q_I h 34) (by repeat (first | exact q_fout_r | refine q_fout_w rfl ?_)) (by repeat (first | exact q_fout_r | refine q_fout_w rfl ?_)) (And.intro rfl (And.intro rfl trivial))) (And.intro rfl (And.intro rfl (And.intro rfl trivial)))))
  · refine xe_iload_n dX9_beginAnew_9 rfl ?_
    refine xe_aload_n dX9_beginAnew_10 rfl ?_
    refine xe_getP dX9_beginAnew_11 flX9_26 (st0 hs) (by decide) rfl hP ?_
    refine xe_getIv dX9_beginAnew_14 flX9_117 (st22 hs) (by decide) rfl (v := nI nm) (h3) ?_
    refine xn_icmp_ge (tgt := 49) dX9_beginAnew_17 rfl (by omega) (by omega) (fun c3 => ?_) (fun c3 => ?_)
    · refine xe_aload_n dX9_beginAnew_49 rfl ?_
      refine xe_getP dX9_beginAnew_50 flX9_51 (st0 hs) (by decide) rfl (sp0_7 hs) ?_
      refine xe_iconst dX9_beginAnew_53 kc_0 ?_
      refine xe_putI dX9_beginAnew_54 flX9_124 (st42 hs) (by decide) rfl (Or.inl rfl) rfl rfl ?_
      refine xe_aload_n dX9_beginAnew_57 rfl ?_
      refine xe_getP dX9_beginAnew_58 flX9_58 (st0 hs) (by decide) rfl (sp0_8 hs) ?_
      refine xe_iconst dX9_beginAnew_61 kc_0 ?_
      refine xe_putI dX9_beginAnew_62 flX9_127 (st94 hs) (by decide) rfl (Or.inl rfl) rfl rfl ?_
      refine xe_iconst dX9_beginAnew_65 kc_0 ?_
      refine xe_istore_n (i := 1) dX9_beginAnew_66 rfl (by decide) rfl ?_
      refine xe_fin (L' := (fun (u : Nat) (s4 : (Nat → Int32)) => [(0, .ref 0), (1, .int (nI u))]) 0 (q_I h 41)) (h' := (fun (u : Nat) (s4 : (Nat → Int32)) => (q_wI (q_wI (q_wI (q_wI (q_wI (q_wI (q_wI h 34 (upd (upd (q_I h 34) 5 (nI 0)) 6 (nI 0))) 35 s1) 36 D0) 37 T0) 41 s4) 42 (upd (q_I h 42) 2 (nI 0))) 94 (upd (q_I h 94) 3 (nI 0)))) 0 (q_I h 41)) ?_ (And.intro rfl (And.intro rfl trivial)) (q_heq [34, 35, 36, 37, 41, 42, 94] (H := h) (by repeat (first | exact q_out_r | refine q_out_w rfl ?_)) (by repeat (first | exact q_out_r | refine q_out_w rfl ?_)) (And.intro (q_feq [5, 6] (f := q_I h 34) (by repeat (first | exact q_fout_r | refine q_fout_w rfl ?_)) (by repeat (first | exact q_fout_r | refine q_fout_w rfl ?_)) (And.intro rfl (And.intro rfl trivial))) (And.intro rfl (And.intro rfl (And.intro rfl (And.intro rfl (And.intro (q_feq [2] (f := q_I h 42) (by repeat (first | exact q_fout_r | refine q_fout_w rfl ?_)) (by repeat (first | exact q_fout_r | refine q_fout_w rfl ?_)) (And.intro rfl trivial)) (And.intro (q_feq [3] (f := q_I h 94) (by repeat (first | exact q_fout_r | refine q_fout_w rfl ?_)) (by repeat (first | exact q_fout_r | refine q_fout_w rfl ?_)) (And.intro rfl trivial)) trivial))))))))
      refine xe_loopI (σ := (Nat → Int32)) (3) (fun i s => ∀ j, j < i → s j = nI 0) (fun (u : Nat) (s4 : (Nat → Int32)) => [(0, .ref 0), (1, .int (nI u))]) (fun (u : Nat) (s4 : (Nat → Int32)) => (q_wI (q_wI (q_wI (q_wI (q_wI (q_wI (q_wI h 34 (upd (upd (q_I h 34) 5 (nI 0)) 6 (nI 0))) 35 s1) 36 D0) 37 T0) 41 s4) 42 (upd (q_I h 42) 2 (nI 0))) 94 (upd (q_I h 94) 3 (nI 0)))) (q_I h 41) ((fun j hj => absurd hj (Nat.not_lt_zero _))) (fun u hu s4 e4 K4 => ?_) (fun s4 e4 => ?_)
      · refine xe_iload_n dX9_beginAnew_67 rfl ?_
        refine xe_iconst dX9_beginAnew_68 kc_3 ?_
        refine xn_icmp_ge (tgt := 85) dX9_beginAnew_69 rfl (by omega) (by omega) (fun c5 => ?_) (fun c5 => ?_)
        · omega
        · refine xe_aload_n dX9_beginAnew_72 rfl ?_
          refine xe_getP dX9_beginAnew_73 flX9_44 (st0 hs) (by decide) rfl (sp0_6 hs) ?_
          refine xe_iload_n dX9_beginAnew_76 rfl ?_
          refine xe_iconst dX9_beginAnew_77 kc_0 ?_
          refine xn_zast dX9_beginAnew_78 (st41 hs) (by omega) (by decide) rfl ?_
          refine xn_iinc dX9_beginAnew_79 rfl kc_1 ?_
          refine xe_goto (tgt := 67) dX9_beginAnew_82 rfl ?_
          exact xe_fin (K4 (upd s4 u (nI 0)) ((fun j hj => by
            by_cases q : j = u
            · subst q
              exact if_pos rfl
            · exact (pk_un q).trans (e4 j (by omega))))) (And.intro rfl (And.intro rfl trivial)) (q_heq [34, 35, 36, 37, 41, 42, 94] (H := h) (by repeat (first | exact q_out_r | refine q_out_w rfl ?_)) (by repeat (first | exact q_out_r | refine q_out_w rfl ?_)) (And.intro (q_feq [5, 6] (f := q_I h 34) (by repeat (first | exact q_fout_r | refine q_fout_w rfl ?_)) (by repeat (first | exact q_fout_r | refine q_fout_w rfl ?_)) (And.intro rfl (And.intro rfl trivial))) (And.intro rfl (And.intro rfl (And.intro rfl (And.intro rfl (And.intro (q_feq [2] (f := q_I h 42) (by repeat (first | exact q_fout_r | refine q_fout_w rfl ?_)) (by repeat (first | exact q_fout_r | refine q_fout_w rfl ?_)) (And.intro rfl trivial)) (And.intro (q_feq [3] (f := q_I h 94) (by repeat (first | exact q_fout_r | refine q_fout_w rfl ?_)) (by repeat (first | exact q_fout_r | refine q_fout_w rfl ?_)) (And.intro rfl trivial)) trivial))))))))
      · refine xe_iload_n dX9_beginAnew_67 rfl ?_
        refine xe_iconst dX9_beginAnew_68 kc_3 ?_
        refine xn_icmp_ge (tgt := 85) dX9_beginAnew_69 rfl (by omega) (by omega) (fun c6 => ?_) (fun c6 => ?_)
        · refine xe_return dX9_beginAnew_85 rfl ?_
          exact ⟨rfl, _, _, _, _, (q_heq [34, 35, 36, 37, 41, 42, 94] (H := h) (by repeat (first | exact q_out_r | refine q_out_w rfl ?_)) (by repeat (first | exact q_out_r | refine q_out_w rfl ?_)) (And.intro (q_feq [5, 6] (f := q_I h 34) (by repeat (first | exact q_fout_r | refine q_fout_w rfl ?_)) (by repeat (first | exact q_fout_r | refine q_fout_w rfl ?_)) (And.intro rfl (And.intro rfl trivial))) (And.intro rfl (And.intro rfl (And.intro rfl (And.intro rfl (And.intro (q_feq [2] (f := q_I h 42) (by repeat (first | exact q_fout_r | refine q_fout_w rfl ?_)) (by repeat (first | exact q_fout_r | refine q_fout_w rfl ?_)) (And.intro rfl trivial)) (And.intro (q_feq [3] (f := q_I h 94) (by repeat (first | exact q_fout_r | refine q_fout_w rfl ?_)) (by repeat (first | exact q_fout_r | refine q_fout_w rfl ?_)) (And.intro rfl trivial)) trivial)))))))), e1, f2, f3, e4⟩
        · omega
    · omega
def ph_22 (h : q_H) : q_H := q_wP (q_wP h 7 (va_up (q_P h 7) 2 (some 1))) 7 (va_up (q_P (q_wP h 7 (va_up (q_P h 7) 2 (some 1))) 7) 3 (some 22))
theorem c_X5_parse22 (l : Launch) (g : q_GP) (h : q_H) (hs : q_Stat h) {K : q_TK} {m : Nat} (hT : ck_T h K m) : q_Ct l g 24 mX5_parse [.ref 7, .ref 1, .ref 22] h (q_prA K m 22 (ph_22 h) (tx_all K 401 tx_0 0)) := by
  refine q_CtV mvX5_parse (Nat.le_of_ble_eq_true rfl) ?_
  refine xe_aload_n dX5_parse_0 rfl ?_
  refine xe_aload_n dX5_parse_1 rfl ?_
  refine xe_putP dX5_parse_2 flX5_22 (st7 hs) (by decide) rfl (Or.inl rfl) (fun _ => rfl) (fun _ => rfl) ?_
  have hs1 := q_Stat_wP (h := h) (r := 7) (k := 2) (v := some 1) rfl hs
  refine xe_aload_n dX5_parse_5 rfl ?_
  refine xe_aload_n dX5_parse_6 rfl ?_
  refine xe_putP dX5_parse_7 flX5_26 (st7 hs1) (by decide) rfl (Or.inl rfl) (fun _ => rfl) (fun _ => rfl) ?_
  have hs2 := q_Stat_wP (r := 7) (k := 3) (v := some 22) rfl hs1
  exact xe_locals (L' := [(0, .ref 7), (1, .ref 1), (2, .ref 22)]) ⟨rfl, rfl, rfl, trivial⟩ (pr_10_22 l g (ph_22 h) hs2 rfl rfl hT)
theorem ph_fr22 {h : q_H} : cd_fr h (ph_22 h) ∧ q_P (ph_22 h) 0 = q_P h 0 := ⟨⟨rfl, rfl, rfl, rfl, fun r h7 _ => (if_neg h7).trans (if_neg h7), fun _ _ _ => rfl, fun k h2 h3 => (va_up_ne _ _ h3).trans (va_up_ne _ _ h2), fun _ _ _ _ => rfl⟩, rfl⟩
def sw_22 (h : q_H) : q_H := q_wP (q_wP h 0 (va_up (q_P h 0) 2 (some 22))) 0 (va_up (q_P (q_wP h 0 (va_up (q_P h 0) 2 (some 22))) 0) 3 (some 10))
theorem cd_t22 {h h1 h2 : q_H} (a : cd_fr h h1) (b : cd_fr h1 h2) : cd_fr h h2 := ⟨b.1.trans a.1, b.2.1.trans a.2.1, b.2.2.1.trans a.2.2.1, b.2.2.2.1.trans a.2.2.2.1, fun r x y => (b.2.2.2.2.1 r x y).trans (a.2.2.2.2.1 r x y), fun k x y => (b.2.2.2.2.2.1 k x y).trans (a.2.2.2.2.2.1 k x y), fun k x y => (b.2.2.2.2.2.2.1 k x y).trans (a.2.2.2.2.2.2.1 k x y), fun r x y z => (b.2.2.2.2.2.2.2 r x y z).trans (a.2.2.2.2.2.2.2 r x y z)⟩
theorem rk_f22 (l : Launch) (g : q_GP) {K : q_TK} {h h3 : q_H} (hs : q_Stat h) (hF : cd_fr h h3) (hF0 : q_P h3 0 = q_P h 0) (hI : ∀ r, r ≠ 1 → r ≠ 3 → r ≠ 4 → r ≠ 7 → r < 22 ∨ 31 < r → q_I h3 r = q_I h r) {e : Nat × Nat} (he : 1 ≤ e.1) (he5 : e.1 ≤ 5) (h7 : q_I h3 7 7 = nI e.1) (h8 : q_I h3 7 8 = nI (tk_P K e.2)) : q_Ex l g 25 mX9_read 22 [(0, .ref 0)] [] h3 (fun r h1 => cd_F K 22 h h1 r e) := by
  have hs3 : q_Stat h3 := cd_st hF hs
  refine xe_aload_n dX9_read_22 rfl ?_
  refine xe_getP dX9_read_23 flX9_12 (st0 hs3) (by decide) rfl (sp0_0 hs3) ?_
  refine xe_iconst dX9_read_26 kc_0 ?_
  refine xe_putI dX9_read_27 flX9_97 (st1 hs3) (by decide) rfl (Or.inl rfl) rfl rfl ?_
  refine xe_aload_n dX9_read_30 rfl ?_
  refine xe_getP dX9_read_31 flX9_19 (st0 hs3) (by decide) rfl (sp0_1 hs3) ?_
  refine xe_getIv dX9_read_34 flX9_108 (st7 hs3) (by decide) rfl (v := nI e.1) h7 ?_
  refine xn_if_ne (tgt := 62) dX9_read_37 rfl (by omega) (fun _ => ?_) (fun q => absurd q (by omega))
  refine xe_aload_n dX9_read_62 rfl ?_
  refine xe_getP dX9_read_63 flX9_19 (st0 hs3) (by decide) rfl (sp0_1 hs3) ?_
  refine xe_getIv dX9_read_66 flX9_108 (st7 hs3) (by decide) rfl (v := nI e.1) h7 ?_
  refine xe_ireturn dX9_read_69 rfl rfl ?_
  exact ⟨rfl, hF, hF0, fun r x1 x2 x3 x4 x5 => (q_Ine x1).trans (hI r x1 x2 x3 x4 x5), rfl, h7, h8⟩
theorem rk_g22 (l : Launch) (g : q_GP) {K : q_TK} {h h3 : q_H} (hs : q_Stat h) (hP2 : q_P h 0 2 = some 10) (hP3 : q_P h 0 3 = some 22) (hF : cd_fr h h3) (hF0 : q_P h3 0 = q_P h 0) (hI : ∀ r, r ≠ 1 → r ≠ 3 → r ≠ 4 → r ≠ 7 → r < 22 ∨ 31 < r → q_I h3 r = q_I h r) {s : q_PS} (h7 : q_I h3 7 7 = nI 0) {n : Nat} (hn : n ≤ 410) (hV : ck_V h3 K 22 n s) : q_Ex l g 25 mX9_read 22 [(0, .ref 0)] [] h3 (fun r h1 => cd_G 22 10 h h1 r s) := by
  obtain ⟨v1, v2, v3, v4, v5, v6, v7, v8, v9, v10, v11, v12, v13, v14, v15, v16, v17⟩ := hV
  have hs3 : q_Stat h3 := cd_st hF hs
  refine xe_aload_n dX9_read_22 rfl ?_
  refine xe_getP dX9_read_23 flX9_12 (st0 hs3) (by decide) rfl (sp0_0 hs3) ?_
  refine xe_iconst dX9_read_26 kc_0 ?_
  refine xe_putI dX9_read_27 flX9_97 (st1 hs3) (by decide) rfl (Or.inl rfl) rfl rfl ?_
  refine xe_aload_n dX9_read_30 rfl ?_
  refine xe_getP dX9_read_31 flX9_19 (st0 hs3) (by decide) rfl (sp0_1 hs3) ?_
  refine xe_getIv dX9_read_34 flX9_108 (st7 hs3) (by decide) rfl (v := nI 0) h7 ?_
  refine xn_if_ne (tgt := 62) dX9_read_37 rfl (by omega) (fun q => absurd q (by omega)) (fun _ => ?_)
  refine xe_aload_n dX9_read_40 rfl ?_
  refine xe_getP dX9_read_41 flX9_26 (st0 hs3) (by decide) rfl (a := 10) ((congrFun hF0 2).trans hP2) ?_
  refine xe_astore_n (i := 1) dX9_read_44 rfl (by decide) rfl ?_
  refine xe_aload_n dX9_read_45 rfl ?_
  refine xe_aload_n dX9_read_46 rfl ?_
  refine xe_getP dX9_read_47 flX9_30 (st0 hs3) (by decide) rfl (a := 22) ((congrFun hF0 3).trans hP3) ?_
  refine xe_putP dX9_read_50 flX9_26 (st0 hs3) (by decide) rfl (Or.inl rfl) (fun _ => rfl) (fun _ => rfl) ?_
  refine xe_aload_n dX9_read_53 rfl ?_
  refine xe_aload_n dX9_read_54 rfl ?_
  have hs35 := q_Stat_wP (r := 0) (k := 2) (v := some 22) rfl (show q_Stat (q_wI h3 1 (upd (q_I h3 1) 1 (nI 0))) from hs3)
  refine xe_putP dX9_read_55 flX9_30 (st0 hs35) (by decide) rfl (Or.inl rfl) (fun _ => rfl) (fun _ => rfl) ?_
  have hs4 : q_Stat (sw_22 (q_wI h3 1 (upd (q_I h3 1) 1 (nI 0)))) := q_Stat_wP (r := 0) (k := 3) (v := some 10) rfl (q_Stat_wP (r := 0) (k := 2) (v := some 22) rfl (show q_Stat (q_wI h3 1 (upd (q_I h3 1) 1 (nI 0))) from hs3))
  refine xe_aload_n dX9_read_58 rfl ?_
  refine xe_callV (d' := 1) (y' := mX9_beginAnew) (as := []) (rest := []) dX9_read_59 mlX9_111 mvX9_beginAnew rfl (st0 hs4) (by decide) rfl (by decide) (by decide) (Nat.le_of_ble_eq_true rfl) (c_X9_beginAnew22 l g (sw_22 (q_wI h3 1 (upd (q_I h3 1) 1 (nI 0)))) hs4 rfl (nm := (ps_m s).length) (f := ps_f s) v2 v14.1 (fun i hi => v10 i (by omega))) rfl (fun r h5 hq => ?_)
  obtain ⟨rfl, F, D, T, U, rfl, b1, b2, b3, b4⟩ := hq
  refine xe_aload_n dX9_read_62 rfl ?_
  refine xe_getP dX9_read_63 flX9_19 (st0 hs4) (by decide) rfl (sp0_1 hs4) ?_
  refine xe_getIv dX9_read_66 flX9_108 (st7 hs4) (by decide) rfl (v := nI 0) h7 ?_
  refine xe_ireturn dX9_read_69 rfl rfl ?_
  have hcf : cd_fr h3 (sw_22 (q_wI h3 1 (upd (q_I h3 1) 1 (nI 0)))) := ⟨rfl, rfl, rfl, rfl, fun r _ x0 => (if_neg x0).trans (if_neg x0), fun k x2 x3 => (va_up_ne _ _ x3).trans (va_up_ne _ _ x2), fun _ _ _ => rfl, fun _ _ _ _ => rfl⟩
  refine ⟨rfl, cd_t22 hF hcf, rfl, rfl, fun r x1 x3 x4 x7 x34 x35 x36 x37 x41 x42 x94 xq => ?_, rfl, h7, rfl, rfl, b1, b2, b3, b4, rfl, ?_, rfl, n, hn, v1, v2, v3, v4, v5, v7, v8, v9, v14.1, v15.1, v11, v12, v13⟩
  · refine Eq.trans ?_ (hI r x1 x3 x4 x7 xq)
    repeat (first | exact rfl | refine (q_Ine (by assumption)).trans ?_)
  · exact congrFun (hI 42 (by decide) (by decide) (by decide) (by decide) (by decide)) 1
theorem c_X9_read22 (l : Launch) (g : q_GP) (h : q_H) (hs : q_Stat h) {n : Nat} {B : Nat → Nat} (hB : tb_B h n B) (hW : ck_W h) {LL : Nat} {xs : Nat → Int32} (hX : q_GX g LL xs) (hP2 : q_P h 0 2 = some 10) (hP3 : q_P h 0 3 = some 22) : q_Ct l g 25 mX9_read [.ref 0] h (cd_A (tz_K n B) 22 10 h (tx_all (tz_K n B) 401 tx_0 0)) := by
  refine q_CtV mvX9_read (Nat.le_of_ble_eq_true rfl) ?_
  refine xe_aload_n dX9_read_0 rfl ?_
  refine xe_getP dX9_read_1 flX9_12 (st0 hs) (by decide) rfl (sp0_0 hs) ?_
  refine xe_callV (d' := 5) (y' := mX7_scan) (as := []) (rest := []) dX9_read_4 mlX9_101 mvX7_scan rfl (st1 hs) (by decide) rfl (by decide) (by decide) (Nat.le_of_ble_eq_true rfl) (c_X7_scan l g h hs hB hW hX) rfl (fun r h1 q => ?_)
  obtain ⟨rfl, q⟩ := q
  obtain ⟨m, hT⟩ := tz_ckT hB.2.1 q
  obtain ⟨m2, -, -, -, hS⟩ := q
  have hs1 : q_Stat h1 := q_Stat_3 hS.1 hs
  refine xe_aload_n dX9_read_7 rfl ?_
  refine xe_getP dX9_read_8 flX9_19 (st0 hs1) (by decide) rfl (sp0_1 hs1) ?_
  refine xe_aload_n dX9_read_11 rfl ?_
  refine xe_getP dX9_read_12 flX9_12 (st0 hs1) (by decide) rfl (sp0_0 hs1) ?_
  refine xe_aload_n dX9_read_15 rfl ?_
  refine xe_getP dX9_read_16 flX9_30 (st0 hs1) (by decide) rfl (a := 22) ((congrArg (fun z => z.1 0 3) hS.1).trans hP3) ?_
  refine xe_callV (d' := 24) (y' := mX5_parse) (as := [.ref 1, .ref 22]) (rest := []) dX9_read_19 mlX9_104 mvX5_parse rfl (st7 hs1) (by decide) rfl (by decide) (by decide) (Nat.le_of_ble_eq_true rfl) (c_X5_parse22 l g h1 hs1 hT) rfl (fun r h3 q => ?_)
  obtain ⟨rfl, qf, q⟩ := q
  have hcf1 : cd_fr h h1 := ⟨congrArg (fun z => z.2.1) hS.1, congrArg (fun z => z.2.2.1) hS.1, congrArg (fun z => z.2.2.2.1) hS.1, congrArg (fun z => z.2.2.2.2) hS.1, fun r _ _ => congrArg (fun z => z.1 r) hS.1, fun k _ _ => congrArg (fun z => z.1 0 k) hS.1, fun k _ _ => congrArg (fun z => z.1 7 k) hS.1, fun r x5 _ _ => hS.2.2.2.1 r x5⟩
  have hcf3 : cd_fr (ph_22 h1) h3 := ⟨congrArg (fun z => z.2.1) qf.2.2, congrArg (fun z => z.2.2.1) qf.2.2, congrArg (fun z => z.2.2.2.1) qf.2.2, congrArg (fun z => z.2.2.2.2) qf.2.2, fun r _ _ => congrArg (fun z => z.1 r) qf.2.2, fun k _ _ => congrArg (fun z => z.1 0 k) qf.2.2, fun k _ _ => congrArg (fun z => z.1 7 k) qf.2.2, fun r _ x8 x9 => qf.2.1 r x8 x9⟩
  have hF : cd_fr h h3 := cd_t22 hcf1 (cd_t22 ph_fr22.1 hcf3)
  have hF0 : q_P h3 0 = q_P h 0 := (congrArg (fun z => z.1 0) qf.2.2).trans (ph_fr22.2.trans (congrArg (fun z => z.1 0) hS.1))
  have hI : ∀ r, r ≠ 1 → r ≠ 3 → r ≠ 4 → r ≠ 7 → r < 22 ∨ 31 < r → q_I h3 r = q_I h r := fun r x1 x3 x4 x7 xq => (qf.1 r x7 xq).trans (hS.2.1 r x1 x3 x4)
  cases ho : tx_all (tz_K n B) 401 tx_0 0 with
  | inl e =>
    rw [ho] at q
    have h12 := t12_all 401 tx_0 0 e ho
    exact rk_f22 l g hs hF hF0 hI h12.1 (by omega) q.1 q.2
  | inr x =>
    rw [ho] at q
    have hok := ps_all 401 tx_0 0 x ps_0 ho
    cases he : ps_e x.1 with
    | some e =>
      have q : match ps_e x.1 with | none => q_I h3 7 7 = nI 0 ∧ ∃ n, n ≤ 410 ∧ ck_V h3 (tz_K _ B) 22 n x.1 | some e => q_I h3 7 7 = nI e.1 ∧ q_I h3 7 8 = nI (tk_P (tz_K _ B) e.2) := q
      rw [he] at q
      have h35 := hok.1 e he
      refine xe_post (fun r h1 z => ?_) (rk_f22 l g hs hF hF0 hI (e := e) (by omega) h35.2 q.1 q.2)
      show match ps_e x.1 with | some e => _ | none => _
      rw [he]
      exact z
    | none =>
      have q : match ps_e x.1 with | none => q_I h3 7 7 = nI 0 ∧ ∃ n, n ≤ 410 ∧ ck_V h3 (tz_K _ B) 22 n x.1 | some e => q_I h3 7 7 = nI e.1 ∧ q_I h3 7 8 = nI (tk_P (tz_K _ B) e.2) := q
      rw [he] at q
      obtain ⟨q1, n1, q2, q3⟩ := q
      refine xe_post (fun r h1 z => ?_) (rk_g22 l g hs hP2 hP3 hF hF0 hI q1 q2 q3)
      show match ps_e x.1 with | some e => _ | none => _
      rw [he]
      exact z
