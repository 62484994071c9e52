/-! the class: weeks that are still to come -/
theorem q_if0 {P : Prop} [Decidable P] (h : (if P then nI 1 else nI 0) = 0) : ¬ P := fun q => by rw [if_pos q] at h; exact absurd h (by decide)
theorem q_if1 {P : Prop} [Decidable P] (h : ¬ (if P then nI 1 else nI 0) = 0) : P := Classical.byContradiction (fun q => by rw [if_neg q] at h; exact h rfl)
def q_kT (R : Nat → Int32) (mo w m wk : Nat) : Int32 := if 0 < mo ∧ w / mo < wk / mo then nI 0 else q_s8 R (136 + 8 * m)
/-- what a goose has a week on -/
def q_kN (R C : Nat → Int32) (LW : q_LW) (nc mo w m : Nat) (have_ : Int32) (wk : Nat) : Int32 :=
  have_ + (if nI 0 < (if nI 9999 - have_ < q_held (q_tel (q_see R C 0 nc wk m have_ (q_kT R mo w m wk)) (LW 16) (nI 0)) then nI 9999 - have_ else q_held (q_tel (q_see R C 0 nc wk m have_ (q_kT R mo w m wk)) (LW 16) (nI 0))) then (if nI 9999 - have_ < q_held (q_tel (q_see R C 0 nc wk m have_ (q_kT R mo w m wk)) (LW 16) (nI 0)) then nI 9999 - have_ else q_held (q_tel (q_see R C 0 nc wk m have_ (q_kT R mo w m wk)) (LW 16) (nI 0))) else nI 0)
def q_kB (R C : Nat → Int32) (LW : q_LW) (nc mo w m : Nat) : Nat → Int32
  | 0 => q_s8 R (8 * m)
  | k + 1 => q_kN R C LW nc mo w m (q_kB R C LW nc mo w m k) (w + k)
def q_kW (R C : Nat → Int32) (LW : q_LW) (nc mo w m : Nat) (have_ : Int32) (wk : Nat) : Int32 := q_tel (q_see R C 0 nc wk m have_ (q_kT R mo w m wk)) (LW 17) (have_ - q_wind C (12 * 0) nc wk)
theorem q_see_0 (R C : Nat → Int32) (lv nc w m : Nat) (a b : Int32) : q_see R C lv nc w m a b 0 = a := rfl
theorem q_see_3 (R C : Nat → Int32) (lv nc w m : Nat) (a b : Int32) : q_see R C lv nc w m a b 3 = q_wind C (12 * lv) nc w := rfl
theorem q_fst_at {P : Nat → Bool} {i n : Nat} (hi : i < n) (h : P i = true) (h0 : ∀ j, j < i → P j = false) : q_fst P n = i := by
  have h1 := q_fst_lt hi h
  have h2 := q_fst_yes P n h1
  rcases Nat.lt_trichotomy (q_fst P n) i with q | q | q
  · rw [h0 _ q] at h2
    cases h2
  · exact q
  · have := q_fst_no P n i q
    rw [h] at this
    cases this
theorem q_fst_none {P : Nat → Bool} {n : Nat} (h0 : ∀ j, j < n → P j = false) : ¬ q_fst P n < n := fun h1 => by
  have h2 := q_fst_yes P n h1
  rw [h0 _ h1] at h2
  cases h2
theorem c_X9_timesIn (l : Launch) (g : q_GP) (h : q_H) (hs : q_Stat h) {p nm nd nc mo n : Nat} (hp : rk_P h p nm nd nc mo n) {LW : q_LW} (hL : rk_L h p n LW) {w : Nat} (hw : q_I h 34 6 = nI w) (hw2 : w < 2 ^ 20) {m wk : Nat} (hm : m < 8) (hwk : wk < 2 ^ 21) : q_Cd l g 1 mX9_timesIn [.ref 0, .int (nI m), .int (nI wk)] h (some (.int (q_kT (q_cr h) mo w m wk))) h := by
  obtain ⟨P0, P1, P2, P2b, P3, P3b, P4, P4b, P5, P5b, P6, P6b⟩ := id hp
  rcases P1 with rfl | rfl
  · refine q_CdV mvX9_timesIn (Nat.le_of_ble_eq_true rfl) ?_
    refine xe_aload_n dX9_timesIn_0 rfl ?_
    refine xe_getP dX9_timesIn_1 flX9_26 (st0 hs) (by decide) rfl P0 ?_
    refine xe_getIv dX9_timesIn_4 flX9_230 (st10 hs) (by decide) rfl (v := nI mo) (P6) ?_
    refine xn_if_le (tgt := 41) dX9_timesIn_7 rfl (by omega) (fun c1 => ?_) (fun c1 => ?_)
    · refine xe_iconst dX9_timesIn_41 kc_0 ?_
      refine xe_istore_n (i := 3) dX9_timesIn_42 rfl (by decide) rfl ?_
      refine xe_iload_n dX9_timesIn_43 rfl ?_
      refine xn_if_eq (tgt := 51) dX9_timesIn_44 rfl (by omega) (fun c2 => ?_) (fun c2 => ?_)
      · refine xe_aload_n dX9_timesIn_51 rfl ?_
        refine xe_getP dX9_timesIn_52 flX9_36 (st0 hs) (by decide) rfl (sp0_4 hs) ?_
        refine xe_iload_n dX9_timesIn_55 rfl ?_
        refine xe_callVI (d' := 0) (y' := mX6_timesOf) dX9_timesIn_56 mlX9_144 mvX6_timesOf rfl (st34 hs) (by decide) rfl (by decide) (by decide) (Nat.le_of_ble_eq_true rfl) (c_X6_timesOf l g _ (by exact hs) _ (by omega)) rfl ?_
        refine xe_top (v' := q_s8 (q_cr h) (136 + 8 * m)) (q_cr_tm h (by omega)) ?_
        refine xe_ireturn dX9_timesIn_59 rfl (by first | rfl | decide +kernel) ?_
        exact ⟨congrArg (fun v => some (Value.int v)) (if_neg (show ¬ (0 < mo ∧ w / mo < wk / mo) from fun q => by first | exact absurd q.2 c_q | omega)).symm, rfl⟩
      · omega
    · refine xe_iload_n dX9_timesIn_10 rfl ?_
      refine xe_aload_n dX9_timesIn_11 rfl ?_
      refine xe_getP dX9_timesIn_12 flX9_26 (st0 hs) (by decide) rfl P0 ?_
      refine xe_getIv dX9_timesIn_15 flX9_230 (st10 hs) (by decide) rfl (v := nI mo) (P6) ?_
      refine xn_idiv dX9_timesIn_18 (by omega) (by omega) (by omega) ?_
      refine xe_aload_n dX9_timesIn_19 rfl ?_
      refine xe_getP dX9_timesIn_20 flX9_36 (st0 hs) (by decide) rfl (sp0_4 hs) ?_
      refine xe_getIv dX9_timesIn_23 flX9_150 (st34 hs) (by decide) rfl (v := nI w) (hw) ?_
      refine xe_aload_n dX9_timesIn_26 rfl ?_
      refine xe_getP dX9_timesIn_27 flX9_26 (st0 hs) (by decide) rfl P0 ?_
      refine xe_getIv dX9_timesIn_30 flX9_230 (st10 hs) (by decide) rfl (v := nI mo) (P6) ?_
      refine xn_idiv dX9_timesIn_33 (by omega) (by omega) (by omega) ?_
      refine xn_icmp_le (tgt := 41) dX9_timesIn_34 rfl (Nat.lt_of_le_of_lt (Nat.div_le_self _ _) (by omega)) (Nat.lt_of_le_of_lt (Nat.div_le_self _ _) (by omega)) (fun c3 => ?_) (fun c3 => ?_)
      · have c_q : ¬ w / mo < wk / mo := by omega
        refine xe_iconst dX9_timesIn_41 kc_0 ?_
        refine xe_istore_n (i := 3) dX9_timesIn_42 rfl (by decide) rfl ?_
        refine xe_iload_n dX9_timesIn_43 rfl ?_
        refine xn_if_eq (tgt := 51) dX9_timesIn_44 rfl (by omega) (fun c4 => ?_) (fun c4 => ?_)
        · refine xe_aload_n dX9_timesIn_51 rfl ?_
          refine xe_getP dX9_timesIn_52 flX9_36 (st0 hs) (by decide) rfl (sp0_4 hs) ?_
          refine xe_iload_n dX9_timesIn_55 rfl ?_
          refine xe_callVI (d' := 0) (y' := mX6_timesOf) dX9_timesIn_56 mlX9_144 mvX6_timesOf rfl (st34 hs) (by decide) rfl (by decide) (by decide) (Nat.le_of_ble_eq_true rfl) (c_X6_timesOf l g _ (by exact hs) _ (by omega)) rfl ?_
          refine xe_top (v' := q_s8 (q_cr h) (136 + 8 * m)) (q_cr_tm h (by omega)) ?_
          refine xe_ireturn dX9_timesIn_59 rfl (by first | rfl | decide +kernel) ?_
          exact ⟨congrArg (fun v => some (Value.int v)) (if_neg (show ¬ (0 < mo ∧ w / mo < wk / mo) from fun q => by first | exact absurd q.2 c_q | omega)).symm, rfl⟩
        · omega
      · have c_q : w / mo < wk / mo := by omega
        refine xe_iconst dX9_timesIn_37 kc_1 ?_
        refine xe_goto (tgt := 42) dX9_timesIn_38 rfl ?_
        refine xe_istore_n (i := 3) dX9_timesIn_42 rfl (by decide) rfl ?_
        refine xe_iload_n dX9_timesIn_43 rfl ?_
        refine xn_if_eq (tgt := 51) dX9_timesIn_44 rfl (by omega) (fun c5 => ?_) (fun c5 => ?_)
        · omega
        · refine xe_iconst dX9_timesIn_47 kc_0 ?_
          refine xe_goto (tgt := 59) dX9_timesIn_48 rfl ?_
          refine xe_ireturn dX9_timesIn_59 rfl (by first | rfl | decide +kernel) ?_
          exact ⟨congrArg (fun v => some (Value.int v)) (if_pos (show 0 < mo ∧ w / mo < wk / mo from ⟨by omega, c_q⟩)).symm, rfl⟩
  · refine q_CdV mvX9_timesIn (Nat.le_of_ble_eq_true rfl) ?_
    refine xe_aload_n dX9_timesIn_0 rfl ?_
    refine xe_getP dX9_timesIn_1 flX9_26 (st0 hs) (by decide) rfl P0 ?_
    refine xe_getIv dX9_timesIn_4 flX9_230 (st22 hs) (by decide) rfl (v := nI mo) (P6) ?_
    refine xn_if_le (tgt := 41) dX9_timesIn_7 rfl (by omega) (fun c1 => ?_) (fun c1 => ?_)
    · refine xe_iconst dX9_timesIn_41 kc_0 ?_
      refine xe_istore_n (i := 3) dX9_timesIn_42 rfl (by decide) rfl ?_
      refine xe_iload_n dX9_timesIn_43 rfl ?_
      refine xn_if_eq (tgt := 51) dX9_timesIn_44 rfl (by omega) (fun c2 => ?_) (fun c2 => ?_)
      · refine xe_aload_n dX9_timesIn_51 rfl ?_
        refine xe_getP dX9_timesIn_52 flX9_36 (st0 hs) (by decide) rfl (sp0_4 hs) ?_
        refine xe_iload_n dX9_timesIn_55 rfl ?_
        refine xe_callVI (d' := 0) (y' := mX6_timesOf) dX9_timesIn_56 mlX9_144 mvX6_timesOf rfl (st34 hs) (by decide) rfl (by decide) (by decide) (Nat.le_of_ble_eq_true rfl) (c_X6_timesOf l g _ (by exact hs) _ (by omega)) rfl ?_
        refine xe_top (v' := q_s8 (q_cr h) (136 + 8 * m)) (q_cr_tm h (by omega)) ?_
        refine xe_ireturn dX9_timesIn_59 rfl (by first | rfl | decide +kernel) ?_
        exact ⟨congrArg (fun v => some (Value.int v)) (if_neg (show ¬ (0 < mo ∧ w / mo < wk / mo) from fun q => by first | exact absurd q.2 c_q | omega)).symm, rfl⟩
      · omega
    · refine xe_iload_n dX9_timesIn_10 rfl ?_
      refine xe_aload_n dX9_timesIn_11 rfl ?_
      refine xe_getP dX9_timesIn_12 flX9_26 (st0 hs) (by decide) rfl P0 ?_
      refine xe_getIv dX9_timesIn_15 flX9_230 (st22 hs) (by decide) rfl (v := nI mo) (P6) ?_
      refine xn_idiv dX9_timesIn_18 (by omega) (by omega) (by omega) ?_
      refine xe_aload_n dX9_timesIn_19 rfl ?_
      refine xe_getP dX9_timesIn_20 flX9_36 (st0 hs) (by decide) rfl (sp0_4 hs) ?_
      refine xe_getIv dX9_timesIn_23 flX9_150 (st34 hs) (by decide) rfl (v := nI w) (hw) ?_
      refine xe_aload_n dX9_timesIn_26 rfl ?_
      refine xe_getP dX9_timesIn_27 flX9_26 (st0 hs) (by decide) rfl P0 ?_
      refine xe_getIv dX9_timesIn_30 flX9_230 (st22 hs) (by decide) rfl (v := nI mo) (P6) ?_
      refine xn_idiv dX9_timesIn_33 (by omega) (by omega) (by omega) ?_
      refine xn_icmp_le (tgt := 41) dX9_timesIn_34 rfl (Nat.lt_of_le_of_lt (Nat.div_le_self _ _) (by omega)) (Nat.lt_of_le_of_lt (Nat.div_le_self _ _) (by omega)) (fun c3 => ?_) (fun c3 => ?_)
      · have c_q : ¬ w / mo < wk / mo := by omega
        refine xe_iconst dX9_timesIn_41 kc_0 ?_
        refine xe_istore_n (i := 3) dX9_timesIn_42 rfl (by decide) rfl ?_
        refine xe_iload_n dX9_timesIn_43 rfl ?_
        refine xn_if_eq (tgt := 51) dX9_timesIn_44 rfl (by omega) (fun c4 => ?_) (fun c4 => ?_)
        · refine xe_aload_n dX9_timesIn_51 rfl ?_
          refine xe_getP dX9_timesIn_52 flX9_36 (st0 hs) (by decide) rfl (sp0_4 hs) ?_
          refine xe_iload_n dX9_timesIn_55 rfl ?_
          refine xe_callVI (d' := 0) (y' := mX6_timesOf) dX9_timesIn_56 mlX9_144 mvX6_timesOf rfl (st34 hs) (by decide) rfl (by decide) (by decide) (Nat.le_of_ble_eq_true rfl) (c_X6_timesOf l g _ (by exact hs) _ (by omega)) rfl ?_
          refine xe_top (v' := q_s8 (q_cr h) (136 + 8 * m)) (q_cr_tm h (by omega)) ?_
          refine xe_ireturn dX9_timesIn_59 rfl (by first | rfl | decide +kernel) ?_
          exact ⟨congrArg (fun v => some (Value.int v)) (if_neg (show ¬ (0 < mo ∧ w / mo < wk / mo) from fun q => by first | exact absurd q.2 c_q | omega)).symm, rfl⟩
        · omega
      · have c_q : w / mo < wk / mo := by omega
        refine xe_iconst dX9_timesIn_37 kc_1 ?_
        refine xe_goto (tgt := 42) dX9_timesIn_38 rfl ?_
        refine xe_istore_n (i := 3) dX9_timesIn_42 rfl (by decide) rfl ?_
        refine xe_iload_n dX9_timesIn_43 rfl ?_
        refine xn_if_eq (tgt := 51) dX9_timesIn_44 rfl (by omega) (fun c5 => ?_) (fun c5 => ?_)
        · omega
        · refine xe_iconst dX9_timesIn_47 kc_0 ?_
          refine xe_goto (tgt := 59) dX9_timesIn_48 rfl ?_
          refine xe_ireturn dX9_timesIn_59 rfl (by first | rfl | decide +kernel) ?_
          exact ⟨congrArg (fun v => some (Value.int v)) (if_pos (show 0 < mo ∧ w / mo < wk / mo from ⟨by omega, c_q⟩)).symm, rfl⟩
theorem c_X9_haveNext (l : Launch) (g : q_GP) (h : q_H) (hs : q_Stat h) {p nm nd nc mo n : Nat} (hp : rk_P h p nm nd nc mo n) {LW : q_LW} (hL : rk_L h p n LW) {w : Nat} (hw : q_I h 34 6 = nI w) (hw2 : w < 2 ^ 20) {m wk : Nat} (hm : m < 8) (hwk : wk < 2 ^ 21) (hv : Int32) : q_Ct l g 2 mX9_haveNext [.ref 0, .int (nI m), .int hv, .int (nI wk)] h (fun r h1 => r = some (.int (q_kN (q_cr h) (q_I h (p + 5)) LW nc mo w m hv wk)) ∧ ∃ V S, h1 = q_wI (q_wI h (p + 10) V) (p + 11) S) := by
  obtain ⟨ad, had, hcd⟩ := hL.2.2.1
  obtain ⟨P0, P1, P2, P2b, P3, P3b, P4, P4b, P5, P5b, P6, P6b⟩ := id hp
  rcases P1 with rfl | rfl
  · refine q_CtV mvX9_haveNext (Nat.le_of_ble_eq_true rfl) ?_
    refine xe_aload_n dX9_haveNext_0 rfl ?_
    refine xe_getP dX9_haveNext_1 flX9_26 (st0 hs) (by decide) rfl P0 ?_
    refine xe_iload_n dX9_haveNext_4 rfl ?_
    refine xe_aload_n dX9_haveNext_5 rfl ?_
    refine xe_iload_n dX9_haveNext_6 rfl ?_
    refine xe_iload_n dX9_haveNext_7 rfl ?_
    refine xe_callVI (d' := 1) (y' := mX9_timesIn) dX9_haveNext_8 mlX9_287 mvX9_timesIn rfl (st0 hs) (by decide) rfl (by decide) (by decide) (Nat.le_of_ble_eq_true rfl) (c_X9_timesIn l g _ (by exact hs) (by exact hp) (by exact hL) (by exact hw) hw2 (by omega) (by omega)) rfl ?_
    refine xe_iload_n dX9_haveNext_11 rfl ?_
    refine xe_aload_n dX9_haveNext_12 rfl ?_
    refine xe_getP dX9_haveNext_13 flX9_36 (st0 hs) (by decide) rfl (sp0_4 hs) ?_
    refine xe_bipush dX9_haveNext_16 kb_8 ?_
    refine xe_callVI (d' := 0) (y' := mX6_inRow) dX9_haveNext_18 mlX9_140 mvX6_inRow rfl (st34 hs) (by decide) rfl (by decide) (by decide) (Nat.le_of_ble_eq_true rfl) (c_X6_inRow l g _ (by exact hs) _ (by omega)) rfl ?_
    refine xe_top (v' := q_s8 (q_cr h) (8 * 8)) (q_cr_in h (by omega)) ?_
    refine xe_iload_n dX9_haveNext_21 rfl ?_
    refine xe_callVV (d' := 0) (y' := mX3_see) dX9_haveNext_22 mlX9_184 mvX3_see rfl (st10 hs) (by decide) rfl (by decide) (by decide) (Nat.le_of_ble_eq_true rfl) (c_X3_see10 l g _ (by exact hs) (by exact P5) P5b (by omega) _ _ _ _) rfl ?_
    refine xe_aload_n dX9_haveNext_25 rfl ?_
    refine xe_getP dX9_haveNext_26 flX9_26 (st0 hs) (by decide) rfl P0 ?_
    refine xe_aload_n dX9_haveNext_29 rfl ?_
    refine xe_getP dX9_haveNext_30 flX9_26 (st0 hs) (by decide) rfl P0 ?_
    refine xe_getP dX9_haveNext_33 flX9_290 (st10 hs) (by decide) rfl (sp10_12 hs) ?_
    refine xe_iconst dX9_haveNext_36 kc_0 ?_
    refine xn_ialdv dX9_haveNext_37 (st18 hs) (by omega) (by decide) (v := nI ad) (had) ?_
    refine xe_callVIq (d' := 1) (y' := mX3_worth) dX9_haveNext_38 mlX9_191 mvX3_worth rfl (st10 hs) (by decide) rfl (by decide) (by decide) (Nat.le_of_ble_eq_true rfl) (c_X3_worth10 l g _ (by exact hs) (by exact P2) P2b _ _ _ (by exact hcd)) rfl (fun h1 hq1 => ?_)
    obtain ⟨S1, rfl⟩ := hq1
    refine xe_top (v' := q_tel (q_see (q_cr h) (q_I h 15) 0 nc wk m hv (q_kT (q_cr h) mo w m wk)) (LW 16) (nI 0)) ((q_see_law (lv := 0) LW 16 (q_I h 20) (q_cr h) (q_I h 15) _ _ hcd rfl)) ?_
    refine xe_callSI (d' := 1) (y' := mX9_withinLaw) dX9_haveNext_41 mlX9_194 msX9_withinLaw rfl (by decide) (by decide) (Nat.le_of_ble_eq_true rfl) (c_X9_withinLaw l g _ _) rfl ?_
    refine xe_istore dX9_haveNext_44 (by decide) rfl ?_
    refine xe_iload_n dX9_haveNext_46 rfl ?_
    refine xe_iconst dX9_haveNext_47 kc_0 ?_
    refine xe_iload dX9_haveNext_48 rfl ?_
    refine xe_sipush dX9_haveNext_50 ks_9999 ?_
    refine xe_iload_n dX9_haveNext_53 rfl ?_
    refine xe_isub dX9_haveNext_54 ?_
    refine xe_min dX9_haveNext_55 mlX9_197 q_mmin (by decide) (Nat.le_of_ble_eq_true rfl) ?_
    refine xe_max dX9_haveNext_58 mlX9_202 q_mmax (by decide) (Nat.le_of_ble_eq_true rfl) ?_
    refine xe_iadd dX9_haveNext_61 ?_
    refine xe_ireturn dX9_haveNext_62 rfl (by first | rfl | decide +kernel) ?_
    exact ⟨rfl, _, _, rfl⟩
  · refine q_CtV mvX9_haveNext (Nat.le_of_ble_eq_true rfl) ?_
    refine xe_aload_n dX9_haveNext_0 rfl ?_
    refine xe_getP dX9_haveNext_1 flX9_26 (st0 hs) (by decide) rfl P0 ?_
    refine xe_iload_n dX9_haveNext_4 rfl ?_
    refine xe_aload_n dX9_haveNext_5 rfl ?_
    refine xe_iload_n dX9_haveNext_6 rfl ?_
    refine xe_iload_n dX9_haveNext_7 rfl ?_
    refine xe_callVI (d' := 1) (y' := mX9_timesIn) dX9_haveNext_8 mlX9_287 mvX9_timesIn rfl (st0 hs) (by decide) rfl (by decide) (by decide) (Nat.le_of_ble_eq_true rfl) (c_X9_timesIn l g _ (by exact hs) (by exact hp) (by exact hL) (by exact hw) hw2 (by omega) (by omega)) rfl ?_
    refine xe_iload_n dX9_haveNext_11 rfl ?_
    refine xe_aload_n dX9_haveNext_12 rfl ?_
    refine xe_getP dX9_haveNext_13 flX9_36 (st0 hs) (by decide) rfl (sp0_4 hs) ?_
    refine xe_bipush dX9_haveNext_16 kb_8 ?_
    refine xe_callVI (d' := 0) (y' := mX6_inRow) dX9_haveNext_18 mlX9_140 mvX6_inRow rfl (st34 hs) (by decide) rfl (by decide) (by decide) (Nat.le_of_ble_eq_true rfl) (c_X6_inRow l g _ (by exact hs) _ (by omega)) rfl ?_
    refine xe_top (v' := q_s8 (q_cr h) (8 * 8)) (q_cr_in h (by omega)) ?_
    refine xe_iload_n dX9_haveNext_21 rfl ?_
    refine xe_callVV (d' := 0) (y' := mX3_see) dX9_haveNext_22 mlX9_184 mvX3_see rfl (st22 hs) (by decide) rfl (by decide) (by decide) (Nat.le_of_ble_eq_true rfl) (c_X3_see22 l g _ (by exact hs) (by exact P5) P5b (by omega) _ _ _ _) rfl ?_
    refine xe_aload_n dX9_haveNext_25 rfl ?_
    refine xe_getP dX9_haveNext_26 flX9_26 (st0 hs) (by decide) rfl P0 ?_
    refine xe_aload_n dX9_haveNext_29 rfl ?_
    refine xe_getP dX9_haveNext_30 flX9_26 (st0 hs) (by decide) rfl P0 ?_
    refine xe_getP dX9_haveNext_33 flX9_290 (st22 hs) (by decide) rfl (sp22_12 hs) ?_
    refine xe_iconst dX9_haveNext_36 kc_0 ?_
    refine xn_ialdv dX9_haveNext_37 (st30 hs) (by omega) (by decide) (v := nI ad) (had) ?_
    refine xe_callVIq (d' := 1) (y' := mX3_worth) dX9_haveNext_38 mlX9_191 mvX3_worth rfl (st22 hs) (by decide) rfl (by decide) (by decide) (Nat.le_of_ble_eq_true rfl) (c_X3_worth22 l g _ (by exact hs) (by exact P2) P2b _ _ _ (by exact hcd)) rfl (fun h1 hq1 => ?_)
    obtain ⟨S1, rfl⟩ := hq1
    refine xe_top (v' := q_tel (q_see (q_cr h) (q_I h 27) 0 nc wk m hv (q_kT (q_cr h) mo w m wk)) (LW 16) (nI 0)) ((q_see_law (lv := 0) LW 16 (q_I h 32) (q_cr h) (q_I h 27) _ _ hcd rfl)) ?_
    refine xe_callSI (d' := 1) (y' := mX9_withinLaw) dX9_haveNext_41 mlX9_194 msX9_withinLaw rfl (by decide) (by decide) (Nat.le_of_ble_eq_true rfl) (c_X9_withinLaw l g _ _) rfl ?_
    refine xe_istore dX9_haveNext_44 (by decide) rfl ?_
    refine xe_iload_n dX9_haveNext_46 rfl ?_
    refine xe_iconst dX9_haveNext_47 kc_0 ?_
    refine xe_iload dX9_haveNext_48 rfl ?_
    refine xe_sipush dX9_haveNext_50 ks_9999 ?_
    refine xe_iload_n dX9_haveNext_53 rfl ?_
    refine xe_isub dX9_haveNext_54 ?_
    refine xe_min dX9_haveNext_55 mlX9_197 q_mmin (by decide) (Nat.le_of_ble_eq_true rfl) ?_
    refine xe_max dX9_haveNext_58 mlX9_202 q_mmax (by decide) (Nat.le_of_ble_eq_true rfl) ?_
    refine xe_iadd dX9_haveNext_61 ?_
    refine xe_ireturn dX9_haveNext_62 rfl (by first | rfl | decide +kernel) ?_
    exact ⟨rfl, _, _, rfl⟩
theorem c_X9_isWarm (l : Launch) (g : q_GP) (h : q_H) (hs : q_Stat h) {p nm nd nc mo n : Nat} (hp : rk_P h p nm nd nc mo n) {LW : q_LW} (hL : rk_L h p n LW) {w : Nat} (hw : q_I h 34 6 = nI w) (hw2 : w < 2 ^ 20) {m wk : Nat} (hm : m < 8) (hwk : wk < 2 ^ 21) (hv : Int32) : q_Ct l g 2 mX9_isWarm [.ref 0, .int (nI m), .int hv, .int (nI wk)] h (fun r h1 => r = some (.int (if 0 < q_kW (q_cr h) (q_I h (p + 5)) LW nc mo w m hv wk then nI 1 else nI 0)) ∧ ∃ V S, h1 = q_wI (q_wI h (p + 10) V) (p + 11) S) := by
  obtain ⟨ad, had, hcd⟩ := hL.2.2.2
  obtain ⟨P0, P1, P2, P2b, P3, P3b, P4, P4b, P5, P5b, P6, P6b⟩ := id hp
  rcases P1 with rfl | rfl
  · refine q_CtV mvX9_isWarm (Nat.le_of_ble_eq_true rfl) ?_
    refine xe_aload_n dX9_isWarm_0 rfl ?_
    refine xe_getP dX9_isWarm_1 flX9_26 (st0 hs) (by decide) rfl P0 ?_
    refine xe_iload_n dX9_isWarm_4 rfl ?_
    refine xe_aload_n dX9_isWarm_5 rfl ?_
    refine xe_iload_n dX9_isWarm_6 rfl ?_
    refine xe_iload_n dX9_isWarm_7 rfl ?_
    refine xe_callVI (d' := 1) (y' := mX9_timesIn) dX9_isWarm_8 mlX9_287 mvX9_timesIn rfl (st0 hs) (by decide) rfl (by decide) (by decide) (Nat.le_of_ble_eq_true rfl) (c_X9_timesIn l g _ (by exact hs) (by exact hp) (by exact hL) (by exact hw) hw2 (by omega) (by omega)) rfl ?_
    refine xe_iload_n dX9_isWarm_11 rfl ?_
    refine xe_aload_n dX9_isWarm_12 rfl ?_
    refine xe_getP dX9_isWarm_13 flX9_36 (st0 hs) (by decide) rfl (sp0_4 hs) ?_
    refine xe_bipush dX9_isWarm_16 kb_8 ?_
    refine xe_callVI (d' := 0) (y' := mX6_inRow) dX9_isWarm_18 mlX9_140 mvX6_inRow rfl (st34 hs) (by decide) rfl (by decide) (by decide) (Nat.le_of_ble_eq_true rfl) (c_X6_inRow l g _ (by exact hs) _ (by omega)) rfl ?_
    refine xe_top (v' := q_s8 (q_cr h) (8 * 8)) (q_cr_in h (by omega)) ?_
    refine xe_iload_n dX9_isWarm_21 rfl ?_
    refine xe_callVV (d' := 0) (y' := mX3_see) dX9_isWarm_22 mlX9_184 mvX3_see rfl (st10 hs) (by decide) rfl (by decide) (by decide) (Nat.le_of_ble_eq_true rfl) (c_X3_see10 l g _ (by exact hs) (by exact P5) P5b (by omega) _ _ _ _) rfl ?_
    refine xe_aload_n dX9_isWarm_25 rfl ?_
    refine xe_getP dX9_isWarm_26 flX9_26 (st0 hs) (by decide) rfl P0 ?_
    refine xe_aload_n dX9_isWarm_29 rfl ?_
    refine xe_getP dX9_isWarm_30 flX9_26 (st0 hs) (by decide) rfl P0 ?_
    refine xe_getP dX9_isWarm_33 flX9_296 (st10 hs) (by decide) rfl (sp10_13 hs) ?_
    refine xe_iconst dX9_isWarm_36 kc_0 ?_
    refine xn_ialdv dX9_isWarm_37 (st19 hs) (by omega) (by decide) (v := nI ad) (had) ?_
    refine xe_callVIq (d' := 1) (y' := mX3_worth) dX9_isWarm_38 mlX9_191 mvX3_worth rfl (st10 hs) (by decide) rfl (by decide) (by decide) (Nat.le_of_ble_eq_true rfl) (c_X3_worth10 l g _ (by exact hs) (by exact P2) P2b _ _ _ (by exact hcd)) rfl (fun h1 hq1 => ?_)
    obtain ⟨S1, rfl⟩ := hq1
    refine xe_top (v' := q_tel (q_see (q_cr h) (q_I h 15) 0 nc wk m hv (q_kT (q_cr h) mo w m wk)) (LW 17) (hv - q_wind (q_I h 15) (12 * 0) nc wk)) ((q_see_law (lv := 0) LW 17 (q_I h 20) (q_cr h) (q_I h 15) _ _ hcd rfl)) ?_
    refine xe_if_le (tgt := 48) dX9_isWarm_41 rfl (fun c2 => ?_) (fun c2 => ?_)
    · refine xe_iconst dX9_isWarm_48 kc_0 ?_
      refine xe_ireturn dX9_isWarm_49 rfl (by first | rfl | decide +kernel) ?_
      exact ⟨congrArg (fun v => some (Value.int v)) (if_neg (Int32.not_lt.mpr c2)).symm, _, _, rfl⟩
    · refine xe_iconst dX9_isWarm_44 kc_1 ?_
      refine xe_goto (tgt := 49) dX9_isWarm_45 rfl ?_
      refine xe_ireturn dX9_isWarm_49 rfl (by first | rfl | decide +kernel) ?_
      exact ⟨congrArg (fun v => some (Value.int v)) (if_pos (Int32.not_le.mp c2)).symm, _, _, rfl⟩
  · refine q_CtV mvX9_isWarm (Nat.le_of_ble_eq_true rfl) ?_
    refine xe_aload_n dX9_isWarm_0 rfl ?_
    refine xe_getP dX9_isWarm_1 flX9_26 (st0 hs) (by decide) rfl P0 ?_
    refine xe_iload_n dX9_isWarm_4 rfl ?_
    refine xe_aload_n dX9_isWarm_5 rfl ?_
    refine xe_iload_n dX9_isWarm_6 rfl ?_
    refine xe_iload_n dX9_isWarm_7 rfl ?_
    refine xe_callVI (d' := 1) (y' := mX9_timesIn) dX9_isWarm_8 mlX9_287 mvX9_timesIn rfl (st0 hs) (by decide) rfl (by decide) (by decide) (Nat.le_of_ble_eq_true rfl) (c_X9_timesIn l g _ (by exact hs) (by exact hp) (by exact hL) (by exact hw) hw2 (by omega) (by omega)) rfl ?_
    refine xe_iload_n dX9_isWarm_11 rfl ?_
    refine xe_aload_n dX9_isWarm_12 rfl ?_
    refine xe_getP dX9_isWarm_13 flX9_36 (st0 hs) (by decide) rfl (sp0_4 hs) ?_
    refine xe_bipush dX9_isWarm_16 kb_8 ?_
    refine xe_callVI (d' := 0) (y' := mX6_inRow) dX9_isWarm_18 mlX9_140 mvX6_inRow rfl (st34 hs) (by decide) rfl (by decide) (by decide) (Nat.le_of_ble_eq_true rfl) (c_X6_inRow l g _ (by exact hs) _ (by omega)) rfl ?_
    refine xe_top (v' := q_s8 (q_cr h) (8 * 8)) (q_cr_in h (by omega)) ?_
    refine xe_iload_n dX9_isWarm_21 rfl ?_
    refine xe_callVV (d' := 0) (y' := mX3_see) dX9_isWarm_22 mlX9_184 mvX3_see rfl (st22 hs) (by decide) rfl (by decide) (by decide) (Nat.le_of_ble_eq_true rfl) (c_X3_see22 l g _ (by exact hs) (by exact P5) P5b (by omega) _ _ _ _) rfl ?_
    refine xe_aload_n dX9_isWarm_25 rfl ?_
    refine xe_getP dX9_isWarm_26 flX9_26 (st0 hs) (by decide) rfl P0 ?_
    refine xe_aload_n dX9_isWarm_29 rfl ?_
    refine xe_getP dX9_isWarm_30 flX9_26 (st0 hs) (by decide) rfl P0 ?_
    refine xe_getP dX9_isWarm_33 flX9_296 (st22 hs) (by decide) rfl (sp22_13 hs) ?_
    refine xe_iconst dX9_isWarm_36 kc_0 ?_
    refine xn_ialdv dX9_isWarm_37 (st31 hs) (by omega) (by decide) (v := nI ad) (had) ?_
    refine xe_callVIq (d' := 1) (y' := mX3_worth) dX9_isWarm_38 mlX9_191 mvX3_worth rfl (st22 hs) (by decide) rfl (by decide) (by decide) (Nat.le_of_ble_eq_true rfl) (c_X3_worth22 l g _ (by exact hs) (by exact P2) P2b _ _ _ (by exact hcd)) rfl (fun h1 hq1 => ?_)
    obtain ⟨S1, rfl⟩ := hq1
    refine xe_top (v' := q_tel (q_see (q_cr h) (q_I h 27) 0 nc wk m hv (q_kT (q_cr h) mo w m wk)) (LW 17) (hv - q_wind (q_I h 27) (12 * 0) nc wk)) ((q_see_law (lv := 0) LW 17 (q_I h 32) (q_cr h) (q_I h 27) _ _ hcd rfl)) ?_
    refine xe_if_le (tgt := 48) dX9_isWarm_41 rfl (fun c2 => ?_) (fun c2 => ?_)
    · refine xe_iconst dX9_isWarm_48 kc_0 ?_
      refine xe_ireturn dX9_isWarm_49 rfl (by first | rfl | decide +kernel) ?_
      exact ⟨congrArg (fun v => some (Value.int v)) (if_neg (Int32.not_lt.mpr c2)).symm, _, _, rfl⟩
    · refine xe_iconst dX9_isWarm_44 kc_1 ?_
      refine xe_goto (tgt := 49) dX9_isWarm_45 rfl ?_
      refine xe_ireturn dX9_isWarm_49 rfl (by first | rfl | decide +kernel) ?_
      exact ⟨congrArg (fun v => some (Value.int v)) (if_pos (Int32.not_le.mp c2)).symm, _, _, rfl⟩
theorem c_X9_haveBehind (l : Launch) (g : q_GP) (h : q_H) (hs : q_Stat h) {p nm nd nc mo n : Nat} (hp : rk_P h p nm nd nc mo n) {LW : q_LW} (hL : rk_L h p n LW) {w : Nat} (hw : q_I h 34 6 = nI w) (hw2 : w < 2 ^ 20) {m k : Nat} (hm : m < 8) (hn : k ≤ 200) : q_Ct l g 3 mX9_haveBehind [.ref 0, .int (nI m), .int (nI k)] h (fun r h1 => r = some (.int (q_kB (q_cr h) (q_I h (p + 5)) LW nc mo w m k)) ∧ ∃ V S, h1 = q_wI (q_wI h (p + 10) V) (p + 11) S) := by
  obtain ⟨P0, P1, P2, P2b, P3, P3b, P4, P4b, P5, P5b, P6, P6b⟩ := id hp
  rcases P1 with rfl | rfl
  · refine q_CtV mvX9_haveBehind (Nat.le_of_ble_eq_true rfl) ?_
    refine xe_aload_n dX9_haveBehind_0 rfl ?_
    refine xe_getP dX9_haveBehind_1 flX9_36 (st0 hs) (by decide) rfl (sp0_4 hs) ?_
    refine xe_iload_n dX9_haveBehind_4 rfl ?_
    refine xe_callVI (d' := 0) (y' := mX6_inRow) dX9_haveBehind_5 mlX9_140 mvX6_inRow rfl (st34 hs) (by decide) rfl (by decide) (by decide) (Nat.le_of_ble_eq_true rfl) (c_X6_inRow l g _ (by exact hs) _ (by omega)) rfl ?_
    refine xe_top (v' := q_s8 (q_cr h) (8 * m)) (q_cr_in h (by omega)) ?_
    refine xe_istore_n (i := 3) dX9_haveBehind_8 rfl (by decide) rfl ?_
    refine xe_iconst dX9_haveBehind_9 kc_0 ?_
    refine xe_istore dX9_haveBehind_10 (by decide) rfl ?_
    refine xe_fin (L' := (fun (k_ : Nat) (s1 : Int32 × (Nat → Int32) × (Nat → Int32)) => [(0, .ref 0), (1, .int (nI m)), (2, .int (nI k)), (3, .int s1.1), (4, .int (nI k_))]) 0 ((q_s8 (q_cr h) (8 * m)), q_I h 20, q_I h 21)) (h' := (fun (k_ : Nat) (s1 : Int32 × (Nat → Int32) × (Nat → Int32)) => (q_wI (q_wI h 20 s1.2.1) 21 s1.2.2)) 0 ((q_s8 (q_cr h) (8 * m)), q_I h 20, q_I h 21)) ?_ (And.intro rfl (And.intro rfl (And.intro rfl (And.intro rfl (And.intro rfl trivial))))) (q_heq [20, 21] (H := h) (by repeat (first | exact q_out_r | refine q_out_w rfl ?_)) (by repeat (first | exact q_out_r | refine q_out_w rfl ?_)) (And.intro rfl (And.intro rfl trivial)))
    refine xe_loopI (σ := Int32 × (Nat → Int32) × (Nat → Int32)) (k) (fun i s => s.1 = q_kB (q_cr h) (q_I h (10 + 5)) LW nc mo w m i) (fun (k_ : Nat) (s1 : Int32 × (Nat → Int32) × (Nat → Int32)) => [(0, .ref 0), (1, .int (nI m)), (2, .int (nI k)), (3, .int s1.1), (4, .int (nI k_))]) (fun (k_ : Nat) (s1 : Int32 × (Nat → Int32) × (Nat → Int32)) => (q_wI (q_wI h 20 s1.2.1) 21 s1.2.2)) ((q_s8 (q_cr h) (8 * m)), q_I h 20, q_I h 21) (rfl) (fun k_ hk_ s1 e1 K1 => ?_) (fun s1 e1 => ?_)
    · refine xe_iload dX9_haveBehind_12 rfl ?_
      refine xe_iload_n dX9_haveBehind_14 rfl ?_
      refine xn_icmp_ge (tgt := 41) dX9_haveBehind_15 rfl (by omega) (by omega) (fun c2 => ?_) (fun c2 => ?_)
      · omega
      · refine xe_aload_n dX9_haveBehind_18 rfl ?_
        refine xe_iload_n dX9_haveBehind_19 rfl ?_
        refine xe_iload_n dX9_haveBehind_20 rfl ?_
        refine xe_aload_n dX9_haveBehind_21 rfl ?_
        refine xe_getP dX9_haveBehind_22 flX9_36 (st0 hs) (by decide) rfl (sp0_4 hs) ?_
        refine xe_getIv dX9_haveBehind_25 flX9_150 (st34 hs) (by decide) rfl (v := nI w) (hw) ?_
        refine xe_iload dX9_haveBehind_28 rfl ?_
        refine xn_iadd dX9_haveBehind_30 ?_
        refine xe_callVIq (d' := 2) (y' := mX9_haveNext) dX9_haveBehind_31 mlX9_293 mvX9_haveNext rfl (st0 hs) (by decide) rfl (by decide) (by decide) (Nat.le_of_ble_eq_true rfl) (c_X9_haveNext l g _ (by exact hs) (by exact hp) (by first | exact hL | exact hL (by omega)) (by exact hw) hw2 (by omega) (by omega) _) rfl (fun h3 hq3 => ?_)
        obtain ⟨V3, S3, rfl⟩ := hq3
        refine xe_istore_n (i := 3) dX9_haveBehind_34 rfl (by decide) rfl ?_
        refine xn_iinc dX9_haveBehind_35 rfl kc_1 ?_
        refine xe_goto (tgt := 12) dX9_haveBehind_38 rfl ?_
        exact xe_fin (K1 ((q_kN (q_cr h) (q_I h (10 + 5)) LW nc mo w m s1.1 (w + k_)), V3, S3) (by rw [e1]; rfl)) (And.intro rfl (And.intro rfl (And.intro rfl (And.intro rfl (And.intro rfl trivial))))) (q_heq [20, 21] (H := h) (by repeat (first | exact q_out_r | refine q_out_w rfl ?_)) (by repeat (first | exact q_out_r | refine q_out_w rfl ?_)) (And.intro rfl (And.intro rfl trivial)))
    · refine xe_iload dX9_haveBehind_12 rfl ?_
      refine xe_iload_n dX9_haveBehind_14 rfl ?_
      refine xn_icmp_ge (tgt := 41) dX9_haveBehind_15 rfl (by omega) (by omega) (fun c4 => ?_) (fun c4 => ?_)
      · refine xe_iload_n dX9_haveBehind_41 rfl ?_
        refine xe_ireturn dX9_haveBehind_42 rfl (by first | rfl | decide +kernel) ?_
        exact ⟨congrArg (fun v => some (Value.int v)) e1, _, _, rfl⟩
      · omega
  · refine q_CtV mvX9_haveBehind (Nat.le_of_ble_eq_true rfl) ?_
    refine xe_aload_n dX9_haveBehind_0 rfl ?_
    refine xe_getP dX9_haveBehind_1 flX9_36 (st0 hs) (by decide) rfl (sp0_4 hs) ?_
    refine xe_iload_n dX9_haveBehind_4 rfl ?_
    refine xe_callVI (d' := 0) (y' := mX6_inRow) dX9_haveBehind_5 mlX9_140 mvX6_inRow rfl (st34 hs) (by decide) rfl (by decide) (by decide) (Nat.le_of_ble_eq_true rfl) (c_X6_inRow l g _ (by exact hs) _ (by omega)) rfl ?_
    refine xe_top (v' := q_s8 (q_cr h) (8 * m)) (q_cr_in h (by omega)) ?_
    refine xe_istore_n (i := 3) dX9_haveBehind_8 rfl (by decide) rfl ?_
    refine xe_iconst dX9_haveBehind_9 kc_0 ?_
    refine xe_istore dX9_haveBehind_10 (by decide) rfl ?_
    refine xe_fin (L' := (fun (k_ : Nat) (s1 : Int32 × (Nat → Int32) × (Nat → Int32)) => [(0, .ref 0), (1, .int (nI m)), (2, .int (nI k)), (3, .int s1.1), (4, .int (nI k_))]) 0 ((q_s8 (q_cr h) (8 * m)), q_I h 32, q_I h 33)) (h' := (fun (k_ : Nat) (s1 : Int32 × (Nat → Int32) × (Nat → Int32)) => (q_wI (q_wI h 32 s1.2.1) 33 s1.2.2)) 0 ((q_s8 (q_cr h) (8 * m)), q_I h 32, q_I h 33)) ?_ (And.intro rfl (And.intro rfl (And.intro rfl (And.intro rfl (And.intro rfl trivial))))) (q_heq [32, 33] (H := h) (by repeat (first | exact q_out_r | refine q_out_w rfl ?_)) (by repeat (first | exact q_out_r | refine q_out_w rfl ?_)) (And.intro rfl (And.intro rfl trivial)))
    refine xe_loopI (σ := Int32 × (Nat → Int32) × (Nat → Int32)) (k) (fun i s => s.1 = q_kB (q_cr h) (q_I h (22 + 5)) LW nc mo w m i) (fun (k_ : Nat) (s1 : Int32 × (Nat → Int32) × (Nat → Int32)) => [(0, .ref 0), (1, .int (nI m)), (2, .int (nI k)), (3, .int s1.1), (4, .int (nI k_))]) (fun (k_ : Nat) (s1 : Int32 × (Nat → Int32) × (Nat → Int32)) => (q_wI (q_wI h 32 s1.2.1) 33 s1.2.2)) ((q_s8 (q_cr h) (8 * m)), q_I h 32, q_I h 33) (rfl) (fun k_ hk_ s1 e1 K1 => ?_) (fun s1 e1 => ?_)
    · refine xe_iload dX9_haveBehind_12 rfl ?_
      refine xe_iload_n dX9_haveBehind_14 rfl ?_
      refine xn_icmp_ge (tgt := 41) dX9_haveBehind_15 rfl (by omega) (by omega) (fun c2 => ?_) (fun c2 => ?_)
      · omega
      · refine xe_aload_n dX9_haveBehind_18 rfl ?_
        refine xe_iload_n dX9_haveBehind_19 rfl ?_
        refine xe_iload_n dX9_haveBehind_20 rfl ?_
        refine xe_aload_n dX9_haveBehind_21 rfl ?_
        refine xe_getP dX9_haveBehind_22 flX9_36 (st0 hs) (by decide) rfl (sp0_4 hs) ?_
        refine xe_getIv dX9_haveBehind_25 flX9_150 (st34 hs) (by decide) rfl (v := nI w) (hw) ?_
        refine xe_iload dX9_haveBehind_28 rfl ?_
        refine xn_iadd dX9_haveBehind_30 ?_
        refine xe_callVIq (d' := 2) (y' := mX9_haveNext) dX9_haveBehind_31 mlX9_293 mvX9_haveNext rfl (st0 hs) (by decide) rfl (by decide) (by decide) (Nat.le_of_ble_eq_true rfl) (c_X9_haveNext l g _ (by exact hs) (by exact hp) (by first | exact hL | exact hL (by omega)) (by exact hw) hw2 (by omega) (by omega) _) rfl (fun h3 hq3 => ?_)
        obtain ⟨V3, S3, rfl⟩ := hq3
        refine xe_istore_n (i := 3) dX9_haveBehind_34 rfl (by decide) rfl ?_
        refine xn_iinc dX9_haveBehind_35 rfl kc_1 ?_
        refine xe_goto (tgt := 12) dX9_haveBehind_38 rfl ?_
        exact xe_fin (K1 ((q_kN (q_cr h) (q_I h (22 + 5)) LW nc mo w m s1.1 (w + k_)), V3, S3) (by rw [e1]; rfl)) (And.intro rfl (And.intro rfl (And.intro rfl (And.intro rfl (And.intro rfl trivial))))) (q_heq [32, 33] (H := h) (by repeat (first | exact q_out_r | refine q_out_w rfl ?_)) (by repeat (first | exact q_out_r | refine q_out_w rfl ?_)) (And.intro rfl (And.intro rfl trivial)))
    · refine xe_iload dX9_haveBehind_12 rfl ?_
      refine xe_iload_n dX9_haveBehind_14 rfl ?_
      refine xn_icmp_ge (tgt := 41) dX9_haveBehind_15 rfl (by omega) (by omega) (fun c4 => ?_) (fun c4 => ?_)
      · refine xe_iload_n dX9_haveBehind_41 rfl ?_
        refine xe_ireturn dX9_haveBehind_42 rfl (by first | rfl | decide +kernel) ?_
        exact ⟨congrArg (fun v => some (Value.int v)) e1, _, _, rfl⟩
      · omega
/-- warm in week k -/
def q_kA (R C : Nat → Int32) (LW : q_LW) (nc mo w m k : Nat) : Bool := decide (0 < q_kW R C LW nc mo w m (q_kB R C LW nc mo w m k) (w + k))
theorem c_X9_warmBy_t (l : Launch) (g : q_GP) (h : q_H) (hs : q_Stat h) {p nm nd nc mo n : Nat} (hp : rk_P h p nm nd nc mo n) {LW : q_LW} (hL : rk_L h p n LW) {w : Nat} (hw : q_I h 34 6 = nI w) (hw2 : w < 2 ^ 20) {m : Nat} (hm : m < nm) : q_Ct l g 3 mX9_warmBy [.ref 0, .int (nI m)] h (fun r h1 => r = some (.int (if q_fst (q_kA (q_cr h) (q_I h (p + 5)) LW nc mo w m) 201 < 201 then nI (q_fst (q_kA (q_cr h) (q_I h (p + 5)) LW nc mo w m) 201) else (-2))) ∧ ∃ V S, h1 = q_wI (q_wI h (p + 10) V) (p + 11) S) := by
  obtain ⟨P0, P1, P2, P2b, P3, P3b, P4, P4b, P5, P5b, P6, P6b⟩ := id hp
  rcases P1 with rfl | rfl
  · refine q_CtV mvX9_warmBy (Nat.le_of_ble_eq_true rfl) ?_
    refine xe_aload_n dX9_warmBy_0 rfl ?_
    refine xe_iload_n dX9_warmBy_1 rfl ?_
    refine xe_callVI (d' := 0) (y' := mX9_isMan) dX9_warmBy_2 mlX9_134 mvX9_isMan rfl (st0 hs) (by decide) rfl (by decide) (by decide) (Nat.le_of_ble_eq_true rfl) (c_X9_isMan_t l g _ (by exact hs) (by exact hp) (by omega)) rfl ?_
    refine xn_if_ne (tgt := 10) dX9_warmBy_5 rfl (by omega) (fun c1 => ?_) (fun c1 => ?_)
    · refine xe_aload_n dX9_warmBy_10 rfl ?_
      refine xe_getP dX9_warmBy_11 flX9_36 (st0 hs) (by decide) rfl (sp0_4 hs) ?_
      refine xe_iload_n dX9_warmBy_14 rfl ?_
      refine xe_callVI (d' := 0) (y' := mX6_inRow) dX9_warmBy_15 mlX9_140 mvX6_inRow rfl (st34 hs) (by decide) rfl (by decide) (by decide) (Nat.le_of_ble_eq_true rfl) (c_X6_inRow l g _ (by exact hs) _ (by omega)) rfl ?_
      refine xe_top (v' := q_s8 (q_cr h) (8 * m)) (q_cr_in h (by omega)) ?_
      refine xe_istore_n (i := 2) dX9_warmBy_18 rfl (by decide) rfl ?_
      refine xe_iconst dX9_warmBy_19 kc_0 ?_
      refine xe_istore_n (i := 3) dX9_warmBy_20 rfl (by decide) rfl ?_
      refine xe_fin (L' := (fun (k_ : Nat) (s2 : Int32 × (Nat → Int32) × (Nat → Int32)) => [(0, .ref 0), (1, .int (nI m)), (2, .int s2.1), (3, .int (nI k_))]) 0 ((q_s8 (q_cr h) (8 * m)), q_I h 20, q_I h 21)) (h' := (fun (k_ : Nat) (s2 : Int32 × (Nat → Int32) × (Nat → Int32)) => (q_wI (q_wI h 20 s2.2.1) 21 s2.2.2)) 0 ((q_s8 (q_cr h) (8 * m)), q_I h 20, q_I h 21)) ?_ (And.intro rfl (And.intro rfl (And.intro rfl (And.intro rfl trivial)))) (q_heq [20, 21] (H := h) (by repeat (first | exact q_out_r | refine q_out_w rfl ?_)) (by repeat (first | exact q_out_r | refine q_out_w rfl ?_)) (And.intro rfl (And.intro rfl trivial)))
      refine xe_loopI (σ := Int32 × (Nat → Int32) × (Nat → Int32)) (201) (fun i s => s.1 = q_kB (q_cr h) (q_I h (10 + 5)) LW nc mo w m i ∧ ∀ j, j < i → q_kA (q_cr h) (q_I h (10 + 5)) LW nc mo w m j = false) (fun (k_ : Nat) (s2 : Int32 × (Nat → Int32) × (Nat → Int32)) => [(0, .ref 0), (1, .int (nI m)), (2, .int s2.1), (3, .int (nI k_))]) (fun (k_ : Nat) (s2 : Int32 × (Nat → Int32) × (Nat → Int32)) => (q_wI (q_wI h 20 s2.2.1) 21 s2.2.2)) ((q_s8 (q_cr h) (8 * m)), q_I h 20, q_I h 21) (⟨rfl, fun _ q => absurd q (Nat.not_lt_zero _)⟩) (fun k_ hk_ s2 e2 K2 => ?_) (fun s2 e2 => ?_)
      · refine xe_iload_n dX9_warmBy_21 rfl ?_
        refine xe_sipush dX9_warmBy_22 ks_200 ?_
        refine xn_icmp_gt (tgt := 70) dX9_warmBy_25 rfl (by omega) (by omega) (fun c3 => ?_) (fun c3 => ?_)
        · omega
        · refine xe_aload_n dX9_warmBy_28 rfl ?_
          refine xe_iload_n dX9_warmBy_29 rfl ?_
          refine xe_iload_n dX9_warmBy_30 rfl ?_
          refine xe_aload_n dX9_warmBy_31 rfl ?_
          refine xe_getP dX9_warmBy_32 flX9_36 (st0 hs) (by decide) rfl (sp0_4 hs) ?_
          refine xe_getIv dX9_warmBy_35 flX9_150 (st34 hs) (by decide) rfl (v := nI w) (hw) ?_
          refine xe_iload_n dX9_warmBy_38 rfl ?_
          refine xn_iadd dX9_warmBy_39 ?_
          refine xe_callVIq (d' := 2) (y' := mX9_isWarm) dX9_warmBy_40 mlX9_153 mvX9_isWarm rfl (st0 hs) (by decide) rfl (by decide) (by decide) (Nat.le_of_ble_eq_true rfl) (c_X9_isWarm l g _ (by exact hs) (by exact hp) (by first | exact hL | exact hL (by omega)) (by exact hw) hw2 (by omega) (by omega) _) rfl (fun h4 hq4 => ?_)
          obtain ⟨V4, S4, rfl⟩ := hq4
          refine xe_if_eq (tgt := 48) dX9_warmBy_43 rfl (fun c5 => ?_) (fun c5 => ?_)
          · have c_w : q_kA (q_cr h) (q_I h (10 + 5)) LW nc mo w m k_ = false := decide_eq_false (by have c := c5; rw [e2.1] at c; exact q_if0 c)
            refine xe_aload_n dX9_warmBy_48 rfl ?_
            refine xe_iload_n dX9_warmBy_49 rfl ?_
            refine xe_iload_n dX9_warmBy_50 rfl ?_
            refine xe_aload_n dX9_warmBy_51 rfl ?_
            refine xe_getP dX9_warmBy_52 flX9_36 (st0 hs) (by decide) rfl (sp0_4 hs) ?_
            refine xe_getIv dX9_warmBy_55 flX9_150 (st34 hs) (by decide) rfl (v := nI w) (hw) ?_
            refine xe_iload_n dX9_warmBy_58 rfl ?_
            refine xn_iadd dX9_warmBy_59 ?_
            refine xe_callVIq (d' := 2) (y' := mX9_haveNext) dX9_warmBy_60 mlX9_293 mvX9_haveNext rfl (st0 hs) (by decide) rfl (by decide) (by decide) (Nat.le_of_ble_eq_true rfl) (c_X9_haveNext l g _ (by exact hs) (by exact hp) (by first | exact hL | exact hL (by omega)) (by exact hw) hw2 (by omega) (by omega) _) rfl (fun h6 hq6 => ?_)
            obtain ⟨V6, S6, rfl⟩ := hq6
            refine xe_istore_n (i := 2) dX9_warmBy_63 rfl (by decide) rfl ?_
            refine xn_iinc dX9_warmBy_64 rfl kc_1 ?_
            refine xe_goto (tgt := 21) dX9_warmBy_67 rfl ?_
            exact xe_fin (K2 ((q_kN (q_cr h) (q_I h (10 + 5)) LW nc mo w m s2.1 (w + k_)), V6, S6) (⟨by rw [e2.1]; rfl, fun j q => if e : j = k_ then by subst e; exact c_w else e2.2 j (by omega)⟩)) (And.intro rfl (And.intro rfl (And.intro rfl (And.intro rfl trivial)))) (q_heq [20, 21] (H := h) (by repeat (first | exact q_out_r | refine q_out_w rfl ?_)) (by repeat (first | exact q_out_r | refine q_out_w rfl ?_)) (And.intro rfl (And.intro rfl trivial)))
          · have c_w : q_kA (q_cr h) (q_I h (10 + 5)) LW nc mo w m k_ = true := decide_eq_true (by have c := c5; rw [e2.1] at c; exact q_if1 c)
            refine xe_iload_n dX9_warmBy_46 rfl ?_
            refine xe_ireturn dX9_warmBy_47 rfl (by first | rfl | decide +kernel) ?_
            have e := q_fst_at hk_ c_w e2.2
            exact ⟨congrArg (fun v => some (Value.int v)) (by rw [e, if_pos hk_]), V4, S4, (q_heq [20, 21] (H := h) (by repeat (first | exact q_out_r | refine q_out_w rfl ?_)) (by repeat (first | exact q_out_r | refine q_out_w rfl ?_)) (And.intro rfl (And.intro rfl trivial)))⟩
      · refine xe_iload_n dX9_warmBy_21 rfl ?_
        refine xe_sipush dX9_warmBy_22 ks_200 ?_
        refine xn_icmp_gt (tgt := 70) dX9_warmBy_25 rfl (by omega) (by omega) (fun c7 => ?_) (fun c7 => ?_)
        · refine xe_bipush dX9_warmBy_70 kb_m2 ?_
          refine xe_ireturn dX9_warmBy_72 rfl (by first | rfl | decide +kernel) ?_
          exact ⟨congrArg (fun v => some (Value.int v)) (if_neg (q_fst_none e2.2)).symm, _, _, rfl⟩
        · omega
    · omega
  · refine q_CtV mvX9_warmBy (Nat.le_of_ble_eq_true rfl) ?_
    refine xe_aload_n dX9_warmBy_0 rfl ?_
    refine xe_iload_n dX9_warmBy_1 rfl ?_
    refine xe_callVI (d' := 0) (y' := mX9_isMan) dX9_warmBy_2 mlX9_134 mvX9_isMan rfl (st0 hs) (by decide) rfl (by decide) (by decide) (Nat.le_of_ble_eq_true rfl) (c_X9_isMan_t l g _ (by exact hs) (by exact hp) (by omega)) rfl ?_
    refine xn_if_ne (tgt := 10) dX9_warmBy_5 rfl (by omega) (fun c1 => ?_) (fun c1 => ?_)
    · refine xe_aload_n dX9_warmBy_10 rfl ?_
      refine xe_getP dX9_warmBy_11 flX9_36 (st0 hs) (by decide) rfl (sp0_4 hs) ?_
      refine xe_iload_n dX9_warmBy_14 rfl ?_
      refine xe_callVI (d' := 0) (y' := mX6_inRow) dX9_warmBy_15 mlX9_140 mvX6_inRow rfl (st34 hs) (by decide) rfl (by decide) (by decide) (Nat.le_of_ble_eq_true rfl) (c_X6_inRow l g _ (by exact hs) _ (by omega)) rfl ?_
      refine xe_top (v' := q_s8 (q_cr h) (8 * m)) (q_cr_in h (by omega)) ?_
      refine xe_istore_n (i := 2) dX9_warmBy_18 rfl (by decide) rfl ?_
      refine xe_iconst dX9_warmBy_19 kc_0 ?_
      refine xe_istore_n (i := 3) dX9_warmBy_20 rfl (by decide) rfl ?_
      refine xe_fin (L' := (fun (k_ : Nat) (s2 : Int32 × (Nat → Int32) × (Nat → Int32)) => [(0, .ref 0), (1, .int (nI m)), (2, .int s2.1), (3, .int (nI k_))]) 0 ((q_s8 (q_cr h) (8 * m)), q_I h 32, q_I h 33)) (h' := (fun (k_ : Nat) (s2 : Int32 × (Nat → Int32) × (Nat → Int32)) => (q_wI (q_wI h 32 s2.2.1) 33 s2.2.2)) 0 ((q_s8 (q_cr h) (8 * m)), q_I h 32, q_I h 33)) ?_ (And.intro rfl (And.intro rfl (And.intro rfl (And.intro rfl trivial)))) (q_heq [32, 33] (H := h) (by repeat (first | exact q_out_r | refine q_out_w rfl ?_)) (by repeat (first | exact q_out_r | refine q_out_w rfl ?_)) (And.intro rfl (And.intro rfl trivial)))
      refine xe_loopI (σ := Int32 × (Nat → Int32) × (Nat → Int32)) (201) (fun i s => s.1 = q_kB (q_cr h) (q_I h (22 + 5)) LW nc mo w m i ∧ ∀ j, j < i → q_kA (q_cr h) (q_I h (22 + 5)) LW nc mo w m j = false) (fun (k_ : Nat) (s2 : Int32 × (Nat → Int32) × (Nat → Int32)) => [(0, .ref 0), (1, .int (nI m)), (2, .int s2.1), (3, .int (nI k_))]) (fun (k_ : Nat) (s2 : Int32 × (Nat → Int32) × (Nat → Int32)) => (q_wI (q_wI h 32 s2.2.1) 33 s2.2.2)) ((q_s8 (q_cr h) (8 * m)), q_I h 32, q_I h 33) (⟨rfl, fun _ q => absurd q (Nat.not_lt_zero _)⟩) (fun k_ hk_ s2 e2 K2 => ?_) (fun s2 e2 => ?_)
      · refine xe_iload_n dX9_warmBy_21 rfl ?_
        refine xe_sipush dX9_warmBy_22 ks_200 ?_
        refine xn_icmp_gt (tgt := 70) dX9_warmBy_25 rfl (by omega) (by omega) (fun c3 => ?_) (fun c3 => ?_)
        · omega
        · refine xe_aload_n dX9_warmBy_28 rfl ?_
          refine xe_iload_n dX9_warmBy_29 rfl ?_
          refine xe_iload_n dX9_warmBy_30 rfl ?_
          refine xe_aload_n dX9_warmBy_31 rfl ?_
          refine xe_getP dX9_warmBy_32 flX9_36 (st0 hs) (by decide) rfl (sp0_4 hs) ?_
          refine xe_getIv dX9_warmBy_35 flX9_150 (st34 hs) (by decide) rfl (v := nI w) (hw) ?_
          refine xe_iload_n dX9_warmBy_38 rfl ?_
          refine xn_iadd dX9_warmBy_39 ?_
          refine xe_callVIq (d' := 2) (y' := mX9_isWarm) dX9_warmBy_40 mlX9_153 mvX9_isWarm rfl (st0 hs) (by decide) rfl (by decide) (by decide) (Nat.le_of_ble_eq_true rfl) (c_X9_isWarm l g _ (by exact hs) (by exact hp) (by first | exact hL | exact hL (by omega)) (by exact hw) hw2 (by omega) (by omega) _) rfl (fun h4 hq4 => ?_)
          obtain ⟨V4, S4, rfl⟩ := hq4
          refine xe_if_eq (tgt := 48) dX9_warmBy_43 rfl (fun c5 => ?_) (fun c5 => ?_)
          · have c_w : q_kA (q_cr h) (q_I h (22 + 5)) LW nc mo w m k_ = false := decide_eq_false (by have c := c5; rw [e2.1] at c; exact q_if0 c)
            refine xe_aload_n dX9_warmBy_48 rfl ?_
            refine xe_iload_n dX9_warmBy_49 rfl ?_
            refine xe_iload_n dX9_warmBy_50 rfl ?_
            refine xe_aload_n dX9_warmBy_51 rfl ?_
            refine xe_getP dX9_warmBy_52 flX9_36 (st0 hs) (by decide) rfl (sp0_4 hs) ?_
            refine xe_getIv dX9_warmBy_55 flX9_150 (st34 hs) (by decide) rfl (v := nI w) (hw) ?_
            refine xe_iload_n dX9_warmBy_58 rfl ?_
            refine xn_iadd dX9_warmBy_59 ?_
            refine xe_callVIq (d' := 2) (y' := mX9_haveNext) dX9_warmBy_60 mlX9_293 mvX9_haveNext rfl (st0 hs) (by decide) rfl (by decide) (by decide) (Nat.le_of_ble_eq_true rfl) (c_X9_haveNext l g _ (by exact hs) (by exact hp) (by first | exact hL | exact hL (by omega)) (by exact hw) hw2 (by omega) (by omega) _) rfl (fun h6 hq6 => ?_)
            obtain ⟨V6, S6, rfl⟩ := hq6
            refine xe_istore_n (i := 2) dX9_warmBy_63 rfl (by decide) rfl ?_
            refine xn_iinc dX9_warmBy_64 rfl kc_1 ?_
            refine xe_goto (tgt := 21) dX9_warmBy_67 rfl ?_
            exact xe_fin (K2 ((q_kN (q_cr h) (q_I h (22 + 5)) LW nc mo w m s2.1 (w + k_)), V6, S6) (⟨by rw [e2.1]; rfl, fun j q => if e : j = k_ then by subst e; exact c_w else e2.2 j (by omega)⟩)) (And.intro rfl (And.intro rfl (And.intro rfl (And.intro rfl trivial)))) (q_heq [32, 33] (H := h) (by repeat (first | exact q_out_r | refine q_out_w rfl ?_)) (by repeat (first | exact q_out_r | refine q_out_w rfl ?_)) (And.intro rfl (And.intro rfl trivial)))
          · have c_w : q_kA (q_cr h) (q_I h (22 + 5)) LW nc mo w m k_ = true := decide_eq_true (by have c := c5; rw [e2.1] at c; exact q_if1 c)
            refine xe_iload_n dX9_warmBy_46 rfl ?_
            refine xe_ireturn dX9_warmBy_47 rfl (by first | rfl | decide +kernel) ?_
            have e := q_fst_at hk_ c_w e2.2
            exact ⟨congrArg (fun v => some (Value.int v)) (by rw [e, if_pos hk_]), V4, S4, (q_heq [32, 33] (H := h) (by repeat (first | exact q_out_r | refine q_out_w rfl ?_)) (by repeat (first | exact q_out_r | refine q_out_w rfl ?_)) (And.intro rfl (And.intro rfl trivial)))⟩
      · refine xe_iload_n dX9_warmBy_21 rfl ?_
        refine xe_sipush dX9_warmBy_22 ks_200 ?_
        refine xn_icmp_gt (tgt := 70) dX9_warmBy_25 rfl (by omega) (by omega) (fun c7 => ?_) (fun c7 => ?_)
        · refine xe_bipush dX9_warmBy_70 kb_m2 ?_
          refine xe_ireturn dX9_warmBy_72 rfl (by first | rfl | decide +kernel) ?_
          exact ⟨congrArg (fun v => some (Value.int v)) (if_neg (q_fst_none e2.2)).symm, _, _, rfl⟩
        · omega
    · omega
theorem c_X9_warmBy_f (l : Launch) (g : q_GP) (h : q_H) (hs : q_Stat h) {p nm nd nc mo n : Nat} (hp : rk_P h p nm nd nc mo n) {x : Int32} (hx : ¬ q_isN x nm) : q_Cd l g 3 mX9_warmBy [.ref 0, .int x] h (some (.int (-1))) h := by
  obtain ⟨P0, P1, P2, P2b, P3, P3b, P4, P4b, P5, P5b, P6, P6b⟩ := id hp
  rcases P1 with rfl | rfl
  · refine q_CdV mvX9_warmBy (Nat.le_of_ble_eq_true rfl) ?_
    refine xe_aload_n dX9_warmBy_0 rfl ?_
    refine xe_iload_n dX9_warmBy_1 rfl ?_
    refine xe_callVI (d' := 0) (y' := mX9_isMan) dX9_warmBy_2 mlX9_134 mvX9_isMan rfl (st0 hs) (by decide) rfl (by decide) (by decide) (Nat.le_of_ble_eq_true rfl) (c_X9_isMan_f l g _ (by exact hs) (by exact hp) (hx)) rfl ?_
    refine xn_if_ne (tgt := 10) dX9_warmBy_5 rfl (by omega) (fun c1 => ?_) (fun c1 => ?_)
    · omega
    · refine xe_iconst dX9_warmBy_8 kc_m1 ?_
      refine xe_ireturn dX9_warmBy_9 rfl (by first | rfl | decide +kernel) ?_
      exact ⟨rfl, rfl⟩
  · refine q_CdV mvX9_warmBy (Nat.le_of_ble_eq_true rfl) ?_
    refine xe_aload_n dX9_warmBy_0 rfl ?_
    refine xe_iload_n dX9_warmBy_1 rfl ?_
    refine xe_callVI (d' := 0) (y' := mX9_isMan) dX9_warmBy_2 mlX9_134 mvX9_isMan rfl (st0 hs) (by decide) rfl (by decide) (by decide) (Nat.le_of_ble_eq_true rfl) (c_X9_isMan_f l g _ (by exact hs) (by exact hp) (hx)) rfl ?_
    refine xn_if_ne (tgt := 10) dX9_warmBy_5 rfl (by omega) (fun c1 => ?_) (fun c1 => ?_)
    · omega
    · refine xe_iconst dX9_warmBy_8 kc_m1 ?_
      refine xe_ireturn dX9_warmBy_9 rfl (by first | rfl | decide +kernel) ?_
      exact ⟨rfl, rfl⟩
theorem c_X9_warm_t (l : Launch) (g : q_GP) (h : q_H) (hs : q_Stat h) {p nm nd nc mo n : Nat} (hp : rk_P h p nm nd nc mo n) {LW : q_LW} (hL : 0 < nm → rk_L h p n LW) {w : Nat} (hw : q_I h 34 6 = nI w) (hw2 : w < 2 ^ 20) {k : Nat} (hn : k ≤ 200) : q_Ct l g 4 mX9_warm [.ref 0, .int (nI k)] h (fun r h1 => r = some (.int (q_set (fun m => q_kA (q_cr h) (q_I h (p + 5)) LW nc mo w m k) nm)) ∧ ∃ V S, h1 = q_wI (q_wI h (p + 10) V) (p + 11) S) := by
  obtain ⟨P0, P1, P2, P2b, P3, P3b, P4, P4b, P5, P5b, P6, P6b⟩ := id hp
  rcases P1 with rfl | rfl
  · refine q_CtV mvX9_warm (Nat.le_of_ble_eq_true rfl) ?_
    refine xe_iload_n dX9_warm_0 rfl ?_
    refine xn_if_lt (tgt := 11) dX9_warm_1 rfl (by omega) ?_
    refine xe_iload_n dX9_warm_4 rfl ?_
    refine xe_sipush dX9_warm_5 ks_200 ?_
    refine xn_icmp_le (tgt := 13) dX9_warm_8 rfl (by omega) (by omega) (fun c2 => ?_) (fun c2 => ?_)
    · refine xe_iconst dX9_warm_13 kc_0 ?_
      refine xe_istore_n (i := 2) dX9_warm_14 rfl (by decide) rfl ?_
      refine xe_iconst dX9_warm_15 kc_0 ?_
      refine xe_istore_n (i := 3) dX9_warm_16 rfl (by decide) rfl ?_
      refine xe_fin (L' := (fun (m_ : Nat) (s3 : Int32 × (Nat → Int32) × (Nat → Int32)) => [(0, .ref 0), (1, .int (nI k)), (2, .int s3.1), (3, .int (nI m_))]) 0 (nI 0, q_I h 20, q_I h 21)) (h' := (fun (m_ : Nat) (s3 : Int32 × (Nat → Int32) × (Nat → Int32)) => (q_wI (q_wI h 20 s3.2.1) 21 s3.2.2)) 0 (nI 0, q_I h 20, q_I h 21)) ?_ (And.intro rfl (And.intro rfl (And.intro rfl (And.intro rfl trivial)))) (q_heq [20, 21] (H := h) (by repeat (first | exact q_out_r | refine q_out_w rfl ?_)) (by repeat (first | exact q_out_r | refine q_out_w rfl ?_)) (And.intro rfl (And.intro rfl trivial)))
      refine xe_loopI (σ := Int32 × (Nat → Int32) × (Nat → Int32)) (nm) (fun i s => s.1 = q_set (fun m => q_kA (q_cr h) (q_I h (10 + 5)) LW nc mo w m k) i) (fun (m_ : Nat) (s3 : Int32 × (Nat → Int32) × (Nat → Int32)) => [(0, .ref 0), (1, .int (nI k)), (2, .int s3.1), (3, .int (nI m_))]) (fun (m_ : Nat) (s3 : Int32 × (Nat → Int32) × (Nat → Int32)) => (q_wI (q_wI h 20 s3.2.1) 21 s3.2.2)) (nI 0, q_I h 20, q_I h 21) (rfl) (fun m_ hm_ s3 e3 K3 => ?_) (fun s3 e3 => ?_)
      · refine xe_iload_n dX9_warm_17 rfl ?_
        refine xe_aload_n dX9_warm_18 rfl ?_
        refine xe_getP dX9_warm_19 flX9_26 (st0 hs) (by decide) rfl P0 ?_
        refine xe_getIv dX9_warm_22 flX9_117 (st10 hs) (by decide) rfl (v := nI nm) (P3) ?_
        refine xn_icmp_ge (tgt := 63) dX9_warm_25 rfl (by omega) (by omega) (fun c4 => ?_) (fun c4 => ?_)
        · omega
        · refine xe_aload_n dX9_warm_28 rfl ?_
          refine xe_iload_n dX9_warm_29 rfl ?_
          refine xe_aload_n dX9_warm_30 rfl ?_
          refine xe_iload_n dX9_warm_31 rfl ?_
          refine xe_iload_n dX9_warm_32 rfl ?_
          refine xe_callVIq (d' := 3) (y' := mX9_haveBehind) dX9_warm_33 mlX9_276 mvX9_haveBehind rfl (st0 hs) (by decide) rfl (by decide) (by decide) (Nat.le_of_ble_eq_true rfl) (c_X9_haveBehind l g _ (by exact hs) (by exact hp) (by first | exact hL | exact hL (by omega)) (by exact hw) hw2 (by omega) (by omega)) rfl (fun h5 hq5 => ?_)
          obtain ⟨V5, S5, rfl⟩ := hq5
          refine xe_aload_n dX9_warm_36 rfl ?_
          refine xe_getP dX9_warm_37 flX9_36 (st0 hs) (by decide) rfl (sp0_4 hs) ?_
          refine xe_getIv dX9_warm_40 flX9_150 (st34 hs) (by decide) rfl (v := nI w) (hw) ?_
          refine xe_iload_n dX9_warm_43 rfl ?_
          refine xn_iadd dX9_warm_44 ?_
          refine xe_callVIq (d' := 2) (y' := mX9_isWarm) dX9_warm_45 mlX9_153 mvX9_isWarm rfl (st0 hs) (by decide) rfl (by decide) (by decide) (Nat.le_of_ble_eq_true rfl) (c_X9_isWarm l g _ (by exact hs) (by exact hp) (by first | exact hL | exact hL (by omega)) (by exact hw) hw2 (by omega) (by omega) _) rfl (fun h6 hq6 => ?_)
          obtain ⟨V6, S6, rfl⟩ := hq6
          refine xe_if_eq (tgt := 57) dX9_warm_48 rfl (fun c7 => ?_) (fun c7 => ?_)
          · have c_w : q_set (fun m => q_kA (q_cr h) (q_I h (10 + 5)) LW nc mo w m k) (m_ + 1) = q_set (fun m => q_kA (q_cr h) (q_I h (10 + 5)) LW nc mo w m k) m_ := if_neg (fun q => q_if0 (by exact c7) (of_decide_eq_true q))
            refine xn_iinc dX9_warm_57 rfl kc_1 ?_
            refine xe_goto (tgt := 17) dX9_warm_60 rfl ?_
            exact xe_fin (K3 (s3.1, V6, S6) (by rw [e3]; exact c_w.symm)) (And.intro rfl (And.intro rfl (And.intro rfl (And.intro rfl trivial)))) (q_heq [20, 21] (H := h) (by repeat (first | exact q_out_r | refine q_out_w rfl ?_)) (by repeat (first | exact q_out_r | refine q_out_w rfl ?_)) (And.intro rfl (And.intro rfl trivial)))
          · have c_w : q_set (fun m => q_kA (q_cr h) (q_I h (10 + 5)) LW nc mo w m k) (m_ + 1) = q_set (fun m => q_kA (q_cr h) (q_I h (10 + 5)) LW nc mo w m k) m_ ||| nI 1 <<< (nI m_ &&& 31) := if_pos (decide_eq_true (q_if1 (by exact c7)))
            refine xe_iload_n dX9_warm_51 rfl ?_
            refine xe_iconst dX9_warm_52 kc_1 ?_
            refine xe_iload_n dX9_warm_53 rfl ?_
            refine xe_ishl dX9_warm_54 ?_
            refine xe_ior dX9_warm_55 ?_
            refine xe_istore_n (i := 2) dX9_warm_56 rfl (by decide) rfl ?_
            refine xn_iinc dX9_warm_57 rfl kc_1 ?_
            refine xe_goto (tgt := 17) dX9_warm_60 rfl ?_
            exact xe_fin (K3 ((s3.1 ||| ((nI 1) <<< (nI m_ &&& 31))), V6, S6) (by rw [e3]; exact c_w.symm)) (And.intro rfl (And.intro rfl (And.intro rfl (And.intro rfl trivial)))) (q_heq [20, 21] (H := h) (by repeat (first | exact q_out_r | refine q_out_w rfl ?_)) (by repeat (first | exact q_out_r | refine q_out_w rfl ?_)) (And.intro rfl (And.intro rfl trivial)))
      · refine xe_iload_n dX9_warm_17 rfl ?_
        refine xe_aload_n dX9_warm_18 rfl ?_
        refine xe_getP dX9_warm_19 flX9_26 (st0 hs) (by decide) rfl P0 ?_
        refine xe_getIv dX9_warm_22 flX9_117 (st10 hs) (by decide) rfl (v := nI nm) (P3) ?_
        refine xn_icmp_ge (tgt := 63) dX9_warm_25 rfl (by omega) (by omega) (fun c8 => ?_) (fun c8 => ?_)
        · refine xe_iload_n dX9_warm_63 rfl ?_
          refine xe_ireturn dX9_warm_64 rfl (by first | rfl | decide +kernel) ?_
          exact ⟨congrArg (fun v => some (Value.int v)) e3, _, _, rfl⟩
        · omega
    · omega
  · refine q_CtV mvX9_warm (Nat.le_of_ble_eq_true rfl) ?_
    refine xe_iload_n dX9_warm_0 rfl ?_
    refine xn_if_lt (tgt := 11) dX9_warm_1 rfl (by omega) ?_
    refine xe_iload_n dX9_warm_4 rfl ?_
    refine xe_sipush dX9_warm_5 ks_200 ?_
    refine xn_icmp_le (tgt := 13) dX9_warm_8 rfl (by omega) (by omega) (fun c2 => ?_) (fun c2 => ?_)
    · refine xe_iconst dX9_warm_13 kc_0 ?_
      refine xe_istore_n (i := 2) dX9_warm_14 rfl (by decide) rfl ?_
      refine xe_iconst dX9_warm_15 kc_0 ?_
      refine xe_istore_n (i := 3) dX9_warm_16 rfl (by decide) rfl ?_
      refine xe_fin (L' := (fun (m_ : Nat) (s3 : Int32 × (Nat → Int32) × (Nat → Int32)) => [(0, .ref 0), (1, .int (nI k)), (2, .int s3.1), (3, .int (nI m_))]) 0 (nI 0, q_I h 32, q_I h 33)) (h' := (fun (m_ : Nat) (s3 : Int32 × (Nat → Int32) × (Nat → Int32)) => (q_wI (q_wI h 32 s3.2.1) 33 s3.2.2)) 0 (nI 0, q_I h 32, q_I h 33)) ?_ (And.intro rfl (And.intro rfl (And.intro rfl (And.intro rfl trivial)))) (q_heq [32, 33] (H := h) (by repeat (first | exact q_out_r | refine q_out_w rfl ?_)) (by repeat (first | exact q_out_r | refine q_out_w rfl ?_)) (And.intro rfl (And.intro rfl trivial)))
      refine xe_loopI (σ := Int32 × (Nat → Int32) × (Nat → Int32)) (nm) (fun i s => s.1 = q_set (fun m => q_kA (q_cr h) (q_I h (22 + 5)) LW nc mo w m k) i) (fun (m_ : Nat) (s3 : Int32 × (Nat → Int32) × (Nat → Int32)) => [(0, .ref 0), (1, .int (nI k)), (2, .int s3.1), (3, .int (nI m_))]) (fun (m_ : Nat) (s3 : Int32 × (Nat → Int32) × (Nat → Int32)) => (q_wI (q_wI h 32 s3.2.1) 33 s3.2.2)) (nI 0, q_I h 32, q_I h 33) (rfl) (fun m_ hm_ s3 e3 K3 => ?_) (fun s3 e3 => ?_)
      · refine xe_iload_n dX9_warm_17 rfl ?_
        refine xe_aload_n dX9_warm_18 rfl ?_
        refine xe_getP dX9_warm_19 flX9_26 (st0 hs) (by decide) rfl P0 ?_
        refine xe_getIv dX9_warm_22 flX9_117 (st22 hs) (by decide) rfl (v := nI nm) (P3) ?_
        refine xn_icmp_ge (tgt := 63) dX9_warm_25 rfl (by omega) (by omega) (fun c4 => ?_) (fun c4 => ?_)
        · omega
        · refine xe_aload_n dX9_warm_28 rfl ?_
          refine xe_iload_n dX9_warm_29 rfl ?_
          refine xe_aload_n dX9_warm_30 rfl ?_
          refine xe_iload_n dX9_warm_31 rfl ?_
          refine xe_iload_n dX9_warm_32 rfl ?_
          refine xe_callVIq (d' := 3) (y' := mX9_haveBehind) dX9_warm_33 mlX9_276 mvX9_haveBehind rfl (st0 hs) (by decide) rfl (by decide) (by decide) (Nat.le_of_ble_eq_true rfl) (c_X9_haveBehind l g _ (by exact hs) (by exact hp) (by first | exact hL | exact hL (by omega)) (by exact hw) hw2 (by omega) (by omega)) rfl (fun h5 hq5 => ?_)
          obtain ⟨V5, S5, rfl⟩ := hq5
          refine xe_aload_n dX9_warm_36 rfl ?_
          refine xe_getP dX9_warm_37 flX9_36 (st0 hs) (by decide) rfl (sp0_4 hs) ?_
          refine xe_getIv dX9_warm_40 flX9_150 (st34 hs) (by decide) rfl (v := nI w) (hw) ?_
          refine xe_iload_n dX9_warm_43 rfl ?_
          refine xn_iadd dX9_warm_44 ?_
          refine xe_callVIq (d' := 2) (y' := mX9_isWarm) dX9_warm_45 mlX9_153 mvX9_isWarm rfl (st0 hs) (by decide) rfl (by decide) (by decide) (Nat.le_of_ble_eq_true rfl) (c_X9_isWarm l g _ (by exact hs) (by exact hp) (by first | exact hL | exact hL (by omega)) (by exact hw) hw2 (by omega) (by omega) _) rfl (fun h6 hq6 => ?_)
          obtain ⟨V6, S6, rfl⟩ := hq6
          refine xe_if_eq (tgt := 57) dX9_warm_48 rfl (fun c7 => ?_) (fun c7 => ?_)
          · have c_w : q_set (fun m => q_kA (q_cr h) (q_I h (22 + 5)) LW nc mo w m k) (m_ + 1) = q_set (fun m => q_kA (q_cr h) (q_I h (22 + 5)) LW nc mo w m k) m_ := if_neg (fun q => q_if0 (by exact c7) (of_decide_eq_true q))
            refine xn_iinc dX9_warm_57 rfl kc_1 ?_
            refine xe_goto (tgt := 17) dX9_warm_60 rfl ?_
            exact xe_fin (K3 (s3.1, V6, S6) (by rw [e3]; exact c_w.symm)) (And.intro rfl (And.intro rfl (And.intro rfl (And.intro rfl trivial)))) (q_heq [32, 33] (H := h) (by repeat (first | exact q_out_r | refine q_out_w rfl ?_)) (by repeat (first | exact q_out_r | refine q_out_w rfl ?_)) (And.intro rfl (And.intro rfl trivial)))
          · have c_w : q_set (fun m => q_kA (q_cr h) (q_I h (22 + 5)) LW nc mo w m k) (m_ + 1) = q_set (fun m => q_kA (q_cr h) (q_I h (22 + 5)) LW nc mo w m k) m_ ||| nI 1 <<< (nI m_ &&& 31) := if_pos (decide_eq_true (q_if1 (by exact c7)))
            refine xe_iload_n dX9_warm_51 rfl ?_
            refine xe_iconst dX9_warm_52 kc_1 ?_
            refine xe_iload_n dX9_warm_53 rfl ?_
            refine xe_ishl dX9_warm_54 ?_
            refine xe_ior dX9_warm_55 ?_
            refine xe_istore_n (i := 2) dX9_warm_56 rfl (by decide) rfl ?_
            refine xn_iinc dX9_warm_57 rfl kc_1 ?_
            refine xe_goto (tgt := 17) dX9_warm_60 rfl ?_
            exact xe_fin (K3 ((s3.1 ||| ((nI 1) <<< (nI m_ &&& 31))), V6, S6) (by rw [e3]; exact c_w.symm)) (And.intro rfl (And.intro rfl (And.intro rfl (And.intro rfl trivial)))) (q_heq [32, 33] (H := h) (by repeat (first | exact q_out_r | refine q_out_w rfl ?_)) (by repeat (first | exact q_out_r | refine q_out_w rfl ?_)) (And.intro rfl (And.intro rfl trivial)))
      · refine xe_iload_n dX9_warm_17 rfl ?_
        refine xe_aload_n dX9_warm_18 rfl ?_
        refine xe_getP dX9_warm_19 flX9_26 (st0 hs) (by decide) rfl P0 ?_
        refine xe_getIv dX9_warm_22 flX9_117 (st22 hs) (by decide) rfl (v := nI nm) (P3) ?_
        refine xn_icmp_ge (tgt := 63) dX9_warm_25 rfl (by omega) (by omega) (fun c8 => ?_) (fun c8 => ?_)
        · refine xe_iload_n dX9_warm_63 rfl ?_
          refine xe_ireturn dX9_warm_64 rfl (by first | rfl | decide +kernel) ?_
          exact ⟨congrArg (fun v => some (Value.int v)) e3, _, _, rfl⟩
        · omega
    · omega
theorem q_rng {x : Int32} {b : Nat} (h0 : 0 ≤ x) (h1 : x ≤ nI b) (hb : b < 2 ^ 31 := by decide) : ∃ k, 0 ≤ k ∧ k ≤ b ∧ x = nI k := by
  obtain ⟨k, hk, rfl⟩ := nI_of (x := x) (Int32.not_lt.mpr h0)
  exact ⟨k, Nat.zero_le _, (nI_leI hk hb).mp h1, rfl⟩
theorem c_X9_warm_f (l : Launch) (g : q_GP) (h : q_H) (hs : q_Stat h) {x : Int32} (hx : ¬ ∃ k, 0 ≤ k ∧ k ≤ 200 ∧ x = nI k) : q_Cd l g 4 mX9_warm [.ref 0, .int x] h (some (.int (-1))) h := by
  refine q_CdV mvX9_warm (Nat.le_of_ble_eq_true rfl) ?_
  refine xe_iload_n dX9_warm_0 rfl ?_
  refine xe_if_lt (tgt := 11) dX9_warm_1 rfl (fun c1 => ?_) (fun c1 => ?_)
  · refine xe_iconst dX9_warm_11 kc_m1 ?_
    refine xe_ireturn dX9_warm_12 rfl (by first | rfl | decide +kernel) ?_
    exact ⟨rfl, rfl⟩
  · refine xe_iload_n dX9_warm_4 rfl ?_
    refine xe_sipush dX9_warm_5 ks_200 ?_
    refine xe_icmp_le (tgt := 13) dX9_warm_8 rfl (fun c2 => ?_) (fun c2 => ?_)
    · exact absurd (q_rng (Int32.not_lt.mp c1) c2) hx
    · refine xe_iconst dX9_warm_11 kc_m1 ?_
      refine xe_ireturn dX9_warm_12 rfl (by first | rfl | decide +kernel) ?_
      exact ⟨rfl, rfl⟩
