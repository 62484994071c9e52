/-! the reference: bald; tests that are told -/
def q_balH (R : Nat → Int32) (m hv i : Nat) : Nat → Int32 := fun k => if k = m then nI (hv - i) else q_s8 R (8 * k)
def q_balP (R C : Nat → Int32) (LW : q_LW) (lv nm nc w m hv i : Nat) : Bool := decide (q_who R C (q_balH R m hv i) LW lv nm nc w = m)
def q_h5 (X : q_H) (H T V p : Nat → Int32) (b : Int32) : q_H := q_s3 (q_wI (q_wI X 156 H) 157 T) V p b
theorem q_h5_H (X : q_H) (H H' T V p : Nat → Int32) (b : Int32) : q_wI (q_h5 X H T V p b) 156 H' = q_h5 X H' T V p b := by
  unfold q_h5
  rw [q_s3_R _ _ _ _ _ (by decide) (by decide) (by decide), q_wcI _ (by decide : (157 : Nat) ≠ 156), q_wwI]
theorem q_h5_T (X : q_H) (H T T' V p V' p' : Nat → Int32) (b b' : Int32) : q_s3 (q_wI (q_h5 X H T V p b) 157 T') V' p' b' = q_h5 X H T' V' p' b' := by
  unfold q_h5
  rw [q_s3_R _ _ _ _ _ (by decide) (by decide) (by decide), q_wwI, q_s3_s3]
theorem q_h5_0 (X : q_H) (H : Nat → Int32) : q_wI X 156 H = q_h5 X H (q_I X 157) (q_I X 152) (q_I X 153) (q_I X 124 46) := by
  unfold q_h5
  have e := q_s3_0 (q_wI X 156 H)
  have e2 : q_wI (q_wI X 156 H) 157 (q_I X 157) = q_wI X 156 H := q_wsI (q_wI X 156 H) 157
  rw [e2]
  exact e.symm
theorem c_X10_bald_t (l : Launch) (g : q_GP) (h : q_H) (hs : q_Stat h) {lv nm nd nc mo : Nat} (hp : rm_P h lv nm nd nc mo) {LW : q_LW} (hL : rm_L h lv LW) {w : Nat} (hw : q_I h 154 200 = nI w) (hw2 : w < 2 ^ 20) {m hv : Nat} (hm : m < nm) (hv1 : q_s8 (q_I h 154) (8 * m) = nI hv) (hv2 : hv < 2 ^ 30) : q_Ct l g 4 mX10_bald [.ref 124, .int (nI m)] h (fun r h1 => r = some (.int (q_fndv (q_fnd (q_balP (q_I h 154) (q_I h 140) LW lv nm nc w m hv) (hv + 1) 0))) ∧ q_mag h h1) := by
  obtain ⟨p1, p2, p3, p4, p5, p6, p7, p8, p9, p10⟩ := id hp
  have h1 := q_ltn_t (by omega : nm < 2 ^ 31) hm
  have hvH : (q_fil (fun k => q_s8 (q_cpy (q_I h 154) (q_I h 155) 210) (8 * k)) (q_I h 156) 8) m = nI hv := (if_pos (by omega)).trans ((q_s8_rq (q_req_cpy _ _ (by decide)) (by omega)).trans hv1)
  refine q_CtV mvX10_bald (Nat.le_of_ble_eq_true rfl) ?_
  refine xe_aload_n dX10_bald_0 rfl ?_
  refine xe_iload_n dX10_bald_1 rfl ?_
  refine xe_callVI (d' := 1) (y' := mX10_isMan) dX10_bald_2 mlX10_340 mvX10_isMan rfl (st124 hs) (by decide) rfl (by decide) (by decide) (Nat.le_of_ble_eq_true rfl) (c_X10_isManv l g _ (by exact hs) (by exact hp) _ (by assumption)) rfl ?_
  refine xn_if_ne (tgt := 10) dX10_bald_5 rfl (by omega) (fun c1 => ?_) (fun c1 => ?_)
  · refine xe_aload_n dX10_bald_10 rfl ?_
    refine xe_callVV (d' := 0) (y' := mX10_copies) dX10_bald_11 mlX10_343 mvX10_copies rfl (st124 hs) (by decide) rfl (by decide) (by decide) (Nat.le_of_ble_eq_true rfl) (c_X10_copies l g _ (by exact hs)) rfl ?_
    refine xe_aload_n dX10_bald_14 rfl ?_
    refine xe_callVV (d' := 1) (y' := mX10_fillsHave) dX10_bald_15 mlX10_352 mvX10_fillsHave rfl (st124 hs) (by decide) rfl (by decide) (by decide) (Nat.le_of_ble_eq_true rfl) (c_X10_fillsHave l g _ (by exact hs)) rfl ?_
    refine xe_aload_n dX10_bald_18 rfl ?_
    refine xe_getP dX10_bald_19 flX10_113 (st124 hs) (by decide) rfl (sp124_49 hs) ?_
    refine xe_iload_n dX10_bald_22 rfl ?_
    refine xn_ialdv dX10_bald_23 (st156 hs) (by omega) (by decide) (v := nI hv) (hvH) ?_
    refine xe_istore_n (i := 2) dX10_bald_24 rfl (by decide) rfl ?_
    refine xe_iconst dX10_bald_25 kc_0 ?_
    refine xe_istore_n (i := 3) dX10_bald_26 rfl (by decide) rfl ?_
    have key : ∀ n i H T V p b, i + n = hv + 1 → (∀ k, k < 8 → k ≠ m → H k = q_s8 (q_I h 154) (8 * k)) → q_fnd (q_balP (q_I h 154) (q_I h 140) LW lv nm nc w m hv) (hv + 1) 0 = q_fnd (q_balP (q_I h 154) (q_I h 140) LW lv nm nc w m hv) n i → q_Ex l g 4 mX10_bald 27 ((fun i => [(0, .ref 124), (1, .int (nI m)), (2, .int (nI hv)), (3, .int (nI i))]) i) [] (q_h5 (q_wI h 155 (q_cpy (q_I h 154) (q_I h 155) 210)) H T V p b) (fun r h1 => r = some (.int (q_fndv (q_fnd (q_balP (q_I h 154) (q_I h 140) LW lv nm nc w m hv) (hv + 1) 0))) ∧ q_mag h h1) := by
      intro n
      induction n with
      | zero =>
        intro i H T V p b hin hH hf
        refine xe_iload_n dX10_bald_27 rfl ?_
        refine xe_iload_n dX10_bald_28 rfl ?_
        refine xn_icmp_gt (tgt := 57) dX10_bald_29 rfl (by omega) (by omega) (fun c1 => ?_) (fun c1 => ?_)
        · refine xe_bipush dX10_bald_57 kb_m2 ?_
          refine xe_ireturn dX10_bald_59 rfl (by first | rfl | decide +kernel) ?_
          exact ⟨by rw [hf]; rfl, q_mag_s3 (q_mag_w (q_mag_w (q_mag_w (q_mag_r h) _ rfl (by decide)) _ rfl (by decide)) _ rfl (by decide)) _ _ _⟩
        · omega
      | succ n ih =>
        intro i H T V p b hin hH hf
        refine xe_iload_n dX10_bald_27 rfl ?_
        refine xe_iload_n dX10_bald_28 rfl ?_
        refine xn_icmp_gt (tgt := 57) dX10_bald_29 rfl (by omega) (by omega) (fun c1 => ?_) (fun c1 => ?_)
        · omega
        · refine xe_aload_n dX10_bald_32 rfl ?_
          refine xe_getP dX10_bald_33 flX10_113 (st124 hs) (by decide) rfl (sp124_49 hs) ?_
          refine xe_iload_n dX10_bald_36 rfl ?_
          refine xe_iload_n dX10_bald_37 rfl ?_
          refine xe_iload_n dX10_bald_38 rfl ?_
          refine xn_isub dX10_bald_39 (by omega) ?_
          refine xn_iast dX10_bald_40 (st156 hs) (by omega) (by decide) ?_
          refine xe_heap (h2 := q_h5 (q_wI h 155 (q_cpy (q_I h 154) (q_I h 155) 210)) (upd H m (nI (hv - i))) T V p b) (q_h5_H _ _ _ _ _ _ _) ?_
          refine xe_aload_n dX10_bald_41 rfl ?_
          refine xe_callVIq (d' := 3) (y' := mX10_electedNow) dX10_bald_42 mlX10_395 mvX10_electedNow rfl (st124 hs) (by decide) rfl (by decide) (by decide) (Nat.le_of_ble_eq_true rfl) (c_X10_electedNow l g _ (by exact hs) (by exact hp) (by exact rm_L_of (h := h) ⟨rfl, rfl, rfl, rfl, rfl, rfl, rfl, rfl, rfl⟩ hL) (by exact hw) (by omega)) rfl (fun h1 hq => ?_)
          obtain ⟨V1, p1, b1, rfl⟩ := hq
          have hq2 := (q_who_co (V0 := q_fil (fun _ => nI 0) T 8) (q_req_cpy (q_I h 154) (q_I h 155) (n := 210) (by decide)) (q_I h 140) LW lv (nm := nm) (H := upd H m (nI (hv - i))) (H' := q_balH (q_I h 154) m hv i) (by omega) (by omega) nc w (fun k hk => by
            unfold q_balH upd
            by_cases hkm : k = m
            · rw [if_pos hkm, if_pos hkm]
            · rw [if_neg hkm, if_neg hkm]
              exact hH k hk hkm) (fun k hk => if_pos hk)).1
          have hwl := q_who_lt (q_I h 154) (q_I h 140) (q_balH (q_I h 154) m hv i) LW lv nm nc w (by omega)
          rw [q_h5_T]
          refine xe_top (v' := nI (q_who (q_I h 154) (q_I h 140) (q_balH (q_I h 154) m hv i) LW lv nm nc w)) (congrArg nI hq2) ?_
          have hH2 : ∀ k, k < 8 → k ≠ m → upd H m (nI (hv - i)) k = q_s8 (q_I h 154) (8 * k) := fun k hk hkm => (pk_un hkm).trans (hH k hk hkm)
          refine xe_iload_n dX10_bald_45 rfl ?_
          refine xn_icmp_ne (tgt := 51) dX10_bald_46 rfl (by omega) (by omega) (fun c2 => ?_) (fun c2 => ?_)
          · have c_w := c2
            refine xn_iinc dX10_bald_51 rfl kc_1 ?_
            refine xe_goto (tgt := 27) dX10_bald_54 rfl ?_
            refine xe_locals (L' := (fun i => [(0, .ref 124), (1, .int (nI m)), (2, .int (nI hv)), (3, .int (nI i))]) (i + 1)) (And.intro rfl (And.intro rfl (And.intro rfl (And.intro rfl trivial)))) ?_
            exact ih (i + 1) _ _ _ _ _ (by omega) hH2 (hf.trans (if_neg (fun q => c_w (of_decide_eq_true q))))
          · have c_w := c2
            refine xe_iload_n dX10_bald_49 rfl ?_
            refine xe_ireturn dX10_bald_50 rfl (by first | rfl | decide +kernel) ?_
            have hw9 : q_balP (q_I h 154) (q_I h 140) LW lv nm nc w m hv i = true := decide_eq_true c_w
            exact ⟨by rw [hf, q_fnd, if_pos hw9]; rfl, q_mag_s3 (q_mag_w (q_mag_w (q_mag_w (q_mag_r h) _ rfl (by decide)) _ rfl (by decide)) _ rfl (by decide)) _ _ _⟩
    refine xe_locals (L' := (fun i => [(0, .ref 124), (1, .int (nI m)), (2, .int (nI hv)), (3, .int (nI i))]) 0) (And.intro rfl (And.intro rfl (And.intro rfl (And.intro rfl trivial)))) ?_
    refine xe_heap (q_h5_0 (q_wI h 155 (q_cpy (q_I h 154) (q_I h 155) 210)) (q_fil (fun k => q_s8 (q_cpy (q_I h 154) (q_I h 155) 210) (8 * k)) (q_I h 156) 8)) ?_
    exact key (hv + 1) 0 _ _ _ _ _ (Nat.zero_add _) (fun k hk _ => (if_pos hk).trans (q_s8_rq (q_req_cpy _ _ (by decide)) (by omega))) rfl
  · omega
theorem c_X10_bald_f (l : Launch) (g : q_GP) (h : q_H) (hs : q_Stat h) {lv nm nd nc mo : Nat} (hp : rm_P h lv nm nd nc mo) (x : Int32) (hx : ¬ q_isN x nm) : q_Cd l g 4 mX10_bald [.ref 124, .int x] h (some (.int (-1))) h := by
  obtain ⟨p1, p2, p3, p4, p5, p6, p7, p8, p9, p10⟩ := id hp
  have h1 := q_ltn_f (by omega : nm < 2 ^ 31) hx
  refine q_CdV mvX10_bald (Nat.le_of_ble_eq_true rfl) ?_
  refine xe_aload_n dX10_bald_0 rfl ?_
  refine xe_iload_n dX10_bald_1 rfl ?_
  refine xe_callVI (d' := 1) (y' := mX10_isMan) dX10_bald_2 mlX10_340 mvX10_isMan rfl (st124 hs) (by decide) rfl (by decide) (by decide) (Nat.le_of_ble_eq_true rfl) (c_X10_isManv l g _ (by exact hs) (by exact hp) _ (by assumption)) rfl ?_
  refine xn_if_ne (tgt := 10) dX10_bald_5 rfl (by omega) (fun c1 => ?_) (fun c1 => ?_)
  · omega
  · refine xe_iconst dX10_bald_8 kc_m1 ?_
    refine xe_ireturn dX10_bald_9 rfl (by first | rfl | decide +kernel) ?_
    exact ⟨rfl, rfl⟩
def q_bit (S : Int32) (k : Nat) : Bool := decide (S >>> (nI k &&& 31) &&& nI 1 = nI 1)
/-- how many that grew elsewhere are on the first n geese of a set, beside b -/
def q_isn (R : Nat → Int32) (S b : Int32) : Nat → Int32
  | 0 => b
  | n + 1 => if q_bit S n then q_isn R S b n + (q_s8 R (8 * n) - R (9 * n)) else q_isn R S b n
def q_sok (R S T : Nat → Int32) (nm to : Nat) (x : Int32) (i : Nat) : Bool := decide (q_isn R (S i) (if q_bit (S i) to then x else nI 0) nm = T i)
def q_all (P : Nat → Bool) : Nat → Bool
  | 0 => true
  | n + 1 => q_all P n && P n
def q_bv (b : Bool) : Int32 := if b then nI 1 else nI 0
theorem q_bv_bl (b : Bool) : q_bl (q_bv b) := by
  cases b
  · exact Or.inl rfl
  · exact Or.inr rfl
theorem q_all_lt {P : Nat → Bool} : ∀ {n i : Nat}, i < n → P i = false → q_all P n = false
  | n + 1, i, hi, h => by
    unfold q_all
    rcases Nat.lt_or_ge i n with q | q
    · rw [q_all_lt q h]
      rfl
    · have : i = n := by omega
      rw [← this, h, Bool.and_false]
theorem c_X10_isSo (l : Launch) (g : q_GP) (h : q_H) (hs : q_Stat h) {lv nm nd nc mo : Nat} (hp : rm_P h lv nm nd nc mo) (to k : Nat) (x : Int32) (hto : to < 8) (hk : k ≤ 20) : q_Cd l g 1 mX10_isSo [.ref 124, .int (nI to), .int x, .int (nI k)] h (some (.int (q_bv (q_all (q_sok (q_I h 155) (q_I h 166) (q_I h 167) nm to x) k)))) h := by
  obtain ⟨p1, p2, p3, p4, p5, p6, p7, p8, p9, p10⟩ := id hp
  refine q_CdV mvX10_isSo (Nat.le_of_ble_eq_true rfl) ?_
  refine xe_iconst dX10_isSo_0 kc_0 ?_
  refine xe_istore dX10_isSo_1 (by decide) rfl ?_
  refine xe_locals (L' := (fun i => [(0, .ref 124), (1, .int (nI to)), (2, .int x), (3, .int (nI k)), (4, .int (nI i))]) 0) (And.intro rfl (And.intro rfl (And.intro rfl (And.intro rfl (And.intro rfl trivial))))) ?_
  refine xe_forI k (fun i => q_all (q_sok (q_I h 155) (q_I h 166) (q_I h 167) nm to x) i = true) (fun i => [(0, .ref 124), (1, .int (nI to)), (2, .int x), (3, .int (nI k)), (4, .int (nI i))]) (fun _ => h) rfl (fun i hi hI K => ?_) (fun hI => ?_)
  · have KI : q_Ex l g 1 mX10_isSo 34 ((fun j => [(0, .ref 124), (1, .int (nI to)), (2, .int x), (3, .int (nI k)), (4, .int (nI i)), (5, .int (q_isn (q_I h 155) (q_I h 166 i) (if q_bit (q_I h 166 i) to then x else nI 0) j)), (6, .int (nI j))]) 0) [] h (fun r1 h1 => r1 = some (.int (q_bv (q_all (q_sok (q_I h 155) (q_I h 166) (q_I h 167) nm to x) k))) ∧ h1 = h) := by
      refine xe_for nm (fun j => [(0, .ref 124), (1, .int (nI to)), (2, .int x), (3, .int (nI k)), (4, .int (nI i)), (5, .int (q_isn (q_I h 155) (q_I h 166 i) (if q_bit (q_I h 166 i) to then x else nI 0) j)), (6, .int (nI j))]) (fun _ => h) (fun j hj K2 => ?_) ?_
      · refine xe_iload dX10_isSo_34 rfl ?_
        refine xe_aload_n dX10_isSo_36 rfl ?_
        refine xe_getP dX10_isSo_37 flX10_49 (st124 hs) (by decide) rfl (sp124_24 hs) ?_
        refine xe_aload_n dX10_isSo_40 rfl ?_
        refine xe_getIv dX10_isSo_41 flX10_228 (st124 hs) (by decide) rfl (v := nI lv) (p1) ?_
        refine xn_ialdv dX10_isSo_44 (st135 hs) (by omega) (by decide) (v := nI nm) (p3) ?_
        refine xn_icmp_ge (tgt := 92) dX10_isSo_45 rfl (by omega) (by omega) (fun c1 => ?_) (fun c1 => ?_)
        · omega
        · refine xe_aload_n dX10_isSo_48 rfl ?_
          refine xe_getP dX10_isSo_49 flX10_144 (st124 hs) (by decide) rfl (sp124_63 hs) ?_
          refine xe_iload dX10_isSo_52 rfl ?_
          refine xn_ialdv dX10_isSo_54 (st166 hs) (by omega) (by decide) (v := q_I h 166 i) (rfl) ?_
          refine xe_iload dX10_isSo_55 rfl ?_
          refine xe_ishr dX10_isSo_57 ?_
          refine xe_iconst dX10_isSo_58 kc_1 ?_
          refine xe_iand dX10_isSo_59 ?_
          refine xe_iconst dX10_isSo_60 kc_1 ?_
          refine xe_icmp_ne (tgt := 86) dX10_isSo_61 rfl (fun c2 => ?_) (fun c2 => ?_)
          · have c_b : ¬ q_bit (q_I h 166 i) j = true := fun q => c2 (of_decide_eq_true q)
            refine xn_iinc dX10_isSo_86 rfl kc_1 ?_
            refine xe_goto (tgt := 34) dX10_isSo_89 rfl ?_
            have eJ : q_isn (q_I h 155) (q_I h 166 i) (if q_bit (q_I h 166 i) to then x else nI 0) (j + 1) = q_isn (q_I h 155) (q_I h 166 i) (if q_bit (q_I h 166 i) to then x else nI 0) j := if_neg c_b
            refine xe_locals (L' := (fun j => [(0, .ref 124), (1, .int (nI to)), (2, .int x), (3, .int (nI k)), (4, .int (nI i)), (5, .int (q_isn (q_I h 155) (q_I h 166 i) (if q_bit (q_I h 166 i) to then x else nI 0) j)), (6, .int (nI j))]) (j + 1)) (And.intro rfl (And.intro rfl (And.intro rfl (And.intro rfl (And.intro rfl (And.intro (by exact congrArg (fun v => some (Value.int v)) eJ.symm) (And.intro rfl trivial))))))) ?_
            exact K2
          · have c_b : q_bit (q_I h 166 i) j = true := decide_eq_true c2
            refine xe_iload dX10_isSo_64 rfl ?_
            refine xe_aload_n dX10_isSo_66 rfl ?_
            refine xe_iload dX10_isSo_67 rfl ?_
            refine xe_callVI (d' := 0) (y' := mX10_haveOf) dX10_isSo_69 mlX10_319 mvX10_haveOf rfl (st124 hs) (by decide) rfl (by decide) (by decide) (Nat.le_of_ble_eq_true rfl) (c_X10_haveOf l g _ (by exact hs) _ (by omega)) rfl ?_
            refine xe_aload_n dX10_isSo_72 rfl ?_
            refine xe_getP dX10_isSo_73 flX10_110 (st124 hs) (by decide) rfl (sp124_48 hs) ?_
            refine xe_bipush dX10_isSo_76 kb_9 ?_
            refine xe_iload dX10_isSo_78 rfl ?_
            refine xn_imul dX10_isSo_80 ?_
            refine xn_ialdf dX10_isSo_81 (st155 hs) (by omega) (by decide) (f := q_I h 155) rfl ?_
            refine xe_isub dX10_isSo_82 ?_
            refine xe_iadd dX10_isSo_83 ?_
            refine xe_istore dX10_isSo_84 (by decide) rfl ?_
            refine xn_iinc dX10_isSo_86 rfl kc_1 ?_
            refine xe_goto (tgt := 34) dX10_isSo_89 rfl ?_
            have eJ : q_isn (q_I h 155) (q_I h 166 i) (if q_bit (q_I h 166 i) to then x else nI 0) (j + 1) = q_isn (q_I h 155) (q_I h 166 i) (if q_bit (q_I h 166 i) to then x else nI 0) j + (q_s8 (q_I h 155) (8 * j) - q_I h 155 (9 * j)) := if_pos c_b
            refine xe_locals (L' := (fun j => [(0, .ref 124), (1, .int (nI to)), (2, .int x), (3, .int (nI k)), (4, .int (nI i)), (5, .int (q_isn (q_I h 155) (q_I h 166 i) (if q_bit (q_I h 166 i) to then x else nI 0) j)), (6, .int (nI j))]) (j + 1)) (And.intro rfl (And.intro rfl (And.intro rfl (And.intro rfl (And.intro rfl (And.intro (by exact congrArg (fun v => some (Value.int v)) eJ.symm) (And.intro rfl trivial))))))) ?_
            exact K2
      · refine xe_iload dX10_isSo_34 rfl ?_
        refine xe_aload_n dX10_isSo_36 rfl ?_
        refine xe_getP dX10_isSo_37 flX10_49 (st124 hs) (by decide) rfl (sp124_24 hs) ?_
        refine xe_aload_n dX10_isSo_40 rfl ?_
        refine xe_getIv dX10_isSo_41 flX10_228 (st124 hs) (by decide) rfl (v := nI lv) (p1) ?_
        refine xn_ialdv dX10_isSo_44 (st135 hs) (by omega) (by decide) (v := nI nm) (p3) ?_
        refine xn_icmp_ge (tgt := 92) dX10_isSo_45 rfl (by omega) (by omega) (fun c1 => ?_) (fun c1 => ?_)
        · refine xe_iload dX10_isSo_92 rfl ?_
          refine xe_aload_n dX10_isSo_94 rfl ?_
          refine xe_getP dX10_isSo_95 flX10_147 (st124 hs) (by decide) rfl (sp124_64 hs) ?_
          refine xe_iload dX10_isSo_98 rfl ?_
          refine xn_ialdf dX10_isSo_100 (st167 hs) (by omega) (by decide) (f := q_I h 167) rfl ?_
          refine xe_icmp_eq (tgt := 106) dX10_isSo_101 rfl (fun c2 => ?_) (fun c2 => ?_)
          · have c_o : q_sok (q_I h 155) (q_I h 166) (q_I h 167) nm to x i = true := decide_eq_true c2
            refine xn_iinc dX10_isSo_106 rfl kc_1 ?_
            refine xe_goto (tgt := 3) dX10_isSo_109 rfl ?_
            refine xe_locals (L' := (fun i => [(0, .ref 124), (1, .int (nI to)), (2, .int x), (3, .int (nI k)), (4, .int (nI i))]) (i + 1)) (And.intro rfl (And.intro rfl (And.intro rfl (And.intro rfl (And.intro rfl trivial))))) ?_
            exact K (by unfold q_all; rw [hI, c_o]; rfl)
          · have c_o : q_sok (q_I h 155) (q_I h 166) (q_I h 167) nm to x i = false := decide_eq_false c2
            refine xe_iconst dX10_isSo_104 kc_0 ?_
            refine xe_ireturn dX10_isSo_105 rfl (by first | rfl | decide +kernel) ?_
            exact ⟨by rw [q_all_lt hi c_o]; rfl, rfl⟩
        · omega
    refine xe_iload dX10_isSo_3 rfl ?_
    refine xe_iload_n dX10_isSo_5 rfl ?_
    refine xn_icmp_ge (tgt := 112) dX10_isSo_6 rfl (by omega) (by omega) (fun c1 => ?_) (fun c1 => ?_)
    · omega
    · refine xe_aload_n dX10_isSo_9 rfl ?_
      refine xe_getP dX10_isSo_10 flX10_144 (st124 hs) (by decide) rfl (sp124_63 hs) ?_
      refine xe_iload dX10_isSo_13 rfl ?_
      refine xn_ialdv dX10_isSo_15 (st166 hs) (by omega) (by decide) (v := q_I h 166 i) (rfl) ?_
      refine xe_iload_n dX10_isSo_16 rfl ?_
      refine xe_ishr dX10_isSo_17 ?_
      refine xe_iconst dX10_isSo_18 kc_1 ?_
      refine xe_iand dX10_isSo_19 ?_
      refine xe_iconst dX10_isSo_20 kc_1 ?_
      refine xe_icmp_ne (tgt := 28) dX10_isSo_21 rfl (fun c2 => ?_) (fun c2 => ?_)
      · have c_b : ¬ q_bit (q_I h 166 i) to = true := fun q => c2 (of_decide_eq_true q)
        refine xe_iconst dX10_isSo_28 kc_0 ?_
        refine xe_istore dX10_isSo_29 (by decide) rfl ?_
        refine xe_iconst dX10_isSo_31 kc_0 ?_
        refine xe_istore dX10_isSo_32 (by decide) rfl ?_
        refine xe_locals (L' := (fun j => [(0, .ref 124), (1, .int (nI to)), (2, .int x), (3, .int (nI k)), (4, .int (nI i)), (5, .int (q_isn (q_I h 155) (q_I h 166 i) (if q_bit (q_I h 166 i) to then x else nI 0) j)), (6, .int (nI j))]) 0) (And.intro rfl (And.intro rfl (And.intro rfl (And.intro rfl (And.intro rfl (And.intro (by exact congrArg (fun v => some (Value.int v)) (if_neg c_b).symm) (And.intro rfl trivial))))))) ?_
        exact KI
      · have c_b : q_bit (q_I h 166 i) to = true := decide_eq_true c2
        refine xe_iload_n dX10_isSo_24 rfl ?_
        refine xe_goto (tgt := 29) dX10_isSo_25 rfl ?_
        refine xe_istore dX10_isSo_29 (by decide) rfl ?_
        refine xe_iconst dX10_isSo_31 kc_0 ?_
        refine xe_istore dX10_isSo_32 (by decide) rfl ?_
        refine xe_locals (L' := (fun j => [(0, .ref 124), (1, .int (nI to)), (2, .int x), (3, .int (nI k)), (4, .int (nI i)), (5, .int (q_isn (q_I h 155) (q_I h 166 i) (if q_bit (q_I h 166 i) to then x else nI 0) j)), (6, .int (nI j))]) 0) (And.intro rfl (And.intro rfl (And.intro rfl (And.intro rfl (And.intro rfl (And.intro (by exact congrArg (fun v => some (Value.int v)) (if_pos c_b).symm) (And.intro rfl trivial))))))) ?_
        exact KI
  · refine xe_iload dX10_isSo_3 rfl ?_
    refine xe_iload_n dX10_isSo_5 rfl ?_
    refine xn_icmp_ge (tgt := 112) dX10_isSo_6 rfl (by omega) (by omega) (fun c1 => ?_) (fun c1 => ?_)
    · refine xe_iconst dX10_isSo_112 kc_1 ?_
      refine xe_ireturn dX10_isSo_113 rfl (by first | rfl | decide +kernel) ?_
      exact ⟨by rw [hI]; rfl, rfl⟩
    · omega
