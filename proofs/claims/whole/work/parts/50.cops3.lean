/-! the class: weeks, undo, the tape -/
theorem q_kN_co {R R' C : Nat → Int32} {LW : q_LW} {nc mo w m : Nat} (hc : q_s8 R 64 = q_s8 R' 64) (ht : q_s8 R (136 + 8 * m) = q_s8 R' (136 + 8 * m)) (v : Int32) (wk : Nat) : q_kN R C LW nc mo w m v wk = q_kN R' C LW nc mo w m v wk := by
  have e1 : q_kT R mo w m wk = q_kT R' mo w m wk := by
    unfold q_kT
    rw [ht]
  have e2 : ∀ b, q_see R C 0 nc wk m v b = q_see R' C 0 nc wk m v b := fun b => by
    unfold q_see
    rw [hc]
  unfold q_kN
  rw [e1, e2]
theorem q_kB_co {R R' C : Nat → Int32} {LW : q_LW} {nc mo w m : Nat} (hh : q_s8 R (8 * m) = q_s8 R' (8 * m)) (hc : q_s8 R 64 = q_s8 R' 64) (ht : q_s8 R (136 + 8 * m) = q_s8 R' (136 + 8 * m)) : ∀ n, q_kB R C LW nc mo w m n = q_kB R' C LW nc mo w m n
  | 0 => hh
  | n + 1 => by
    unfold q_kB
    rw [q_kB_co hh hc ht n, q_kN_co hc ht]
/-- rows behind weeks: on each of the first i geese its own grow -/
def q_wkF (F B : Nat → Int32) : Nat → Nat → Int32
  | 0 => F
  | i + 1 => upd (q_wkF F B i) (i * 8 + i) (q_wkF F B i (i * 8 + i) + (B i - q_sum (fun k => q_wkF F B i (i * 8 + k)) 8))
theorem q_wkF_ne {F B : Nat → Int32} {k : Nat} : ∀ i, (∀ j, j < i → k ≠ j * 8 + j) → q_wkF F B i k = F k
  | 0, _ => rfl
  | i + 1, h => by
    unfold q_wkF
    rw [pk_un (h i (by omega))]
    exact q_wkF_ne i (fun j hj => h j (by omega))
theorem q_cr_s8 {h : q_H} {F : Nat → Int32} {m : Nat} (hm : m < 9) (he : ∀ k, k < 8 → q_I h 35 (8 * m + k) = F (8 * m + k)) : q_s8 (q_cr h) (8 * m) = q_s8 F (8 * m) := q_s8_co (fun k hk => by
  unfold q_cr
  rw [if_pos (by omega)]
  exact he k hk)
theorem q_cr_s8t {h h' : q_H} {m : Nat} (hm : m < 8) (he : q_I h 37 = q_I h' 37) : q_s8 (q_cr h) (136 + 8 * m) = q_s8 (q_cr h') (136 + 8 * m) := q_s8_co (fun k hk => by
  unfold q_cr
  rw [if_neg (by omega), if_neg (by omega), if_pos (by omega), if_neg (by omega), if_neg (by omega), if_pos (by omega), he])
theorem q_kB_wk {h h' : q_H} {C : Nat → Int32} {LW : q_LW} {nc mo w m : Nat} {F B : Nat → Int32} (hm : m < 8) (e35 : q_I h' 35 = q_wkF F B m) (hF : q_I h 35 = F) (e37 : q_I h' 37 = q_I h 37) (n : Nat) : q_kB (q_cr h') C LW nc mo w m n = q_kB (q_cr h) C LW nc mo w m n := by
  refine q_kB_co ?_ ?_ (q_cr_s8t hm e37) n
  · rw [q_cr_s8 (F := F) (by omega) (fun k hk => by rw [e35]; exact q_wkF_ne m (fun j hj => by omega)), q_cr_s8 (h := h) (F := F) (by omega) (fun k hk => by rw [hF])]
  · have h1 := q_cr_s8 (h := h') (F := F) (m := 8) (by decide) (fun k hk => by rw [e35]; exact q_wkF_ne m (fun j hj => by omega))
    have h2 := q_cr_s8 (h := h) (F := F) (m := 8) (by decide) (fun k hk => by rw [hF])
    exact h1.trans h2.symm
theorem rk_L_of {h h1 : q_H} {p n : Nat} {LW : q_LW} (hL : rk_L h p n LW) (e : ∀ r, r ≤ 33 → q_I h1 r = q_I h r) (hp : p ≤ 22) : rk_L h1 p n LW := by
  have ea : ∀ r k o, r ≤ 33 → rk_at h p n r k o → rk_at h1 p n r k o := fun r k o hr ⟨a, h1', h2⟩ => ⟨a, by rw [e r hr]; exact h1', by rw [e (p + 1) (by omega), e (p + 2) (by omega)]; exact h2⟩
  obtain ⟨a1, a2, a3, a4⟩ := hL
  exact ⟨fun k hk => ea _ _ _ (by omega) (a1 k hk), fun k hk => ea _ _ _ (by omega) (a2 k hk), ea _ _ _ (by omega) a3, ea _ _ _ (by omega) a4⟩
theorem q_cr_same {h h1 : q_H} (rr : ∀ r, r < 42 → q_I h1 r = q_I h r) : q_cr h1 = q_cr h := by
  funext k
  unfold q_cr
  rw [rr 34 (by decide), rr 35 (by decide), rr 36 (by decide), rr 37 (by decide)]
theorem c_X9_weeks_t (l : Launch) (g : q_GP) (h : q_H) (hs : q_Stat h) {p nm nd nc mo n : Nat} (hp : rk_P h p nm nd nc mo n) {LW : q_LW} (hL : 0 < nm → rk_L h p n LW) {w : Nat} (hw : q_I h 34 6 = nI w) (hw2 : w < 2 ^ 19) {x s : Nat} (hx : x < 25) (h42a : q_I h 42 1 = nI x) (h42b : q_I h 42 2 = nI s) (hs25 : s ≤ 25) {E : Nat} (hE1 : q_I h 34 5 = nI E) (hE2 : E ≤ 300) {em ed ew ep ea : Nat → Nat} (hE : rk_E h E em ed ew ep ea) {k : Nat} (hk0 : 0 < k) (hk : k ≤ 100) : q_Ct l g 4 mX9_weeks [.ref 0, .int (nI k)] h (fun r h1 => r = some (.int (nI (w + k))) ∧ rk_did h x s h1 (-1) (nI 0) (-1) ∧ q_I h1 35 = q_wkF (q_I h 35) (fun m => q_kB (q_cr h) (q_I h (p + 5)) LW nc mo w m k) nm ∧ (∀ j, j < 64 → q_I h1 37 j = nI (q_cnt em ed ew (if mo = 0 then 0 else w + k - (w + k) % mo) E j)) ∧ q_I h1 34 = upd (q_I h 34) 6 (nI (w + k)) ∧ q_I h1 36 = q_I h 36 ∧ q_I h1 38 = q_I h 38 ∧ q_I h1 39 = q_I h 39) := by
  obtain ⟨P0, P1, P2, P2b, P3, P3b, P4, P4b, P5, P5b, P6, P6b⟩ := id hp
  rcases P1 with rfl | rfl
  · refine q_CtV mvX9_weeks (Nat.le_of_ble_eq_true rfl) ?_
    refine xe_iload_n dX9_weeks_0 rfl ?_
    refine xn_if_lt (tgt := 10) dX9_weeks_1 rfl (by omega) ?_
    refine xe_iload_n dX9_weeks_4 rfl ?_
    refine xe_bipush dX9_weeks_5 kb_100 ?_
    refine xn_icmp_le (tgt := 12) dX9_weeks_7 rfl (by omega) (by omega) (fun c2 => ?_) (fun c2 => ?_)
    · refine xe_iload_n dX9_weeks_12 rfl ?_
      refine xn_if_le (tgt := 96) dX9_weeks_13 rfl (by omega) (fun c3 => ?_) (fun c3 => ?_)
      · omega
      · refine xe_aload_n dX9_weeks_16 rfl ?_
        refine xe_getP dX9_weeks_17 flX9_51 (st0 hs) (by decide) rfl (sp0_7 hs) ?_
        refine xe_aload_n dX9_weeks_20 rfl ?_
        refine xe_getP dX9_weeks_21 flX9_36 (st0 hs) (by decide) rfl (sp0_4 hs) ?_
        refine xe_callVRn (d' := 2) (y' := mX1_note) dX9_weeks_24 mlX9_236 mvX1_note rfl (st42 hs) (by decide) rfl (by decide) (by decide) (Nat.le_of_ble_eq_true rfl) (c_X1_note l g _ (by exact hs) hx (by exact h42a) (by exact h42b) hs25) rfl (fun v h1 hq => ?_)
        obtain ⟨rfl, k_⟩ := hq
        have hs1 : q_Stat h1 := q_Stat_2 k_.1 (by exact hs)
        have r35 : q_I h1 35 = q_I h 35 := rk_nd_r k_ (r := 35) (by decide) (by decide)
        have r34 : q_I h1 34 = q_I h 34 := rk_nd_r k_ (r := 34) (by decide) (by decide)
        have rr : ∀ r, r < 42 → q_I h1 r = q_I h r := fun r hr => rk_nd_r k_ (by omega) (by omega)
        have hp1 : rk_P h1 10 nm nd nc mo n := rk_P_of hp (k_.1) (rr _ (by decide)) (rr _ (by decide))
        have P0 := hp1.1
        have P3 := hp1.2.2.2.2.1
        have hL1 : 0 < nm → rk_L h1 10 n LW := fun q => rk_L_of (hL q) (fun r hr => rr r (by omega)) (by decide)
        have hw1 : q_I h1 34 6 = nI w := (congrFun r34 6).trans hw
        have hE9 : rk_E h1 E em ed ew ep ea := rk_E_of hE (rr _ (by decide)) (rr _ (by decide))
        refine xe_pop dX9_weeks_27 rfl ?_
        refine xe_iconst dX9_weeks_28 kc_0 ?_
        refine xe_istore_n (i := 2) dX9_weeks_29 rfl (by decide) rfl ?_
        refine xe_fin (L' := (fun (i_ : Nat) (s4 : (Nat → Int32) × (Nat → Int32) × (Nat → Int32)) => [(0, .ref 0), (1, .int (nI k)), (2, .int (nI i_))]) 0 (q_I h1 35, q_I h1 20, q_I h1 21)) (h' := (fun (i_ : Nat) (s4 : (Nat → Int32) × (Nat → Int32) × (Nat → Int32)) => (q_wI (q_wI (q_wI h1 20 s4.2.1) 21 s4.2.2) 35 s4.1)) 0 (q_I h1 35, q_I h1 20, q_I h1 21)) ?_ (And.intro rfl (And.intro rfl (And.intro rfl trivial))) (q_heq [20, 21, 35] (H := h1) (by repeat (first | exact q_out_r | refine q_out_w rfl ?_)) (by repeat (first | exact q_out_r | refine q_out_w rfl ?_)) (And.intro rfl (And.intro rfl (And.intro rfl trivial))))
        refine xe_loopI (σ := (Nat → Int32) × (Nat → Int32) × (Nat → Int32)) (nm) (fun i s => s.1 = q_wkF (q_I h1 35) (fun m => q_kB (q_cr h1) (q_I h1 (10 + 5)) LW nc mo w m k) i) (fun (i_ : Nat) (s4 : (Nat → Int32) × (Nat → Int32) × (Nat → Int32)) => [(0, .ref 0), (1, .int (nI k)), (2, .int (nI i_))]) (fun (i_ : Nat) (s4 : (Nat → Int32) × (Nat → Int32) × (Nat → Int32)) => (q_wI (q_wI (q_wI h1 20 s4.2.1) 21 s4.2.2) 35 s4.1)) (q_I h1 35, q_I h1 20, q_I h1 21) (rfl) (fun i_ hi_ s4 e4 K4 => ?_) (fun s4 e4 => ?_)
        · refine xe_iload_n dX9_weeks_30 rfl ?_
          refine xe_aload_n dX9_weeks_31 rfl ?_
          refine xe_getP dX9_weeks_32 flX9_26 (st0 hs1) (by decide) rfl P0 ?_
          refine xe_getIv dX9_weeks_35 flX9_117 (st10 hs1) (by decide) rfl (v := nI nm) (P3) ?_
          refine xn_icmp_ge (tgt := 79) dX9_weeks_38 rfl (by omega) (by omega) (fun c5 => ?_) (fun c5 => ?_)
          · omega
          · refine xe_aload_n dX9_weeks_41 rfl ?_
            refine xe_getP dX9_weeks_42 flX9_36 (st0 hs1) (by decide) rfl (sp0_4 hs1) ?_
            refine xe_getP dX9_weeks_45 flX9_120 (st34 hs1) (by decide) rfl (sp34_0 hs1) ?_
            refine xe_iload_n dX9_weeks_48 rfl ?_
            refine xe_bipush dX9_weeks_49 kb_8 ?_
            refine xn_imul dX9_weeks_51 ?_
            refine xe_iload_n dX9_weeks_52 rfl ?_
            refine xn_iadd dX9_weeks_53 ?_
            refine xe_dup2 dX9_weeks_54 rfl rfl ?_
            refine xn_ialdv dX9_weeks_55 (st35 hs1) (by omega) (by decide) (v := (s4.1 ((i_ * 8) + i_))) (rfl) ?_
            refine xe_aload_n dX9_weeks_56 rfl ?_
            refine xe_iload_n dX9_weeks_57 rfl ?_
            refine xe_iload_n dX9_weeks_58 rfl ?_
            refine xe_callVIq (d' := 3) (y' := mX9_haveBehind) dX9_weeks_59 mlX9_276 mvX9_haveBehind rfl (st0 hs1) (by decide) rfl (by decide) (by decide) (Nat.le_of_ble_eq_true rfl) (c_X9_haveBehind l g _ (by exact hs1) (by exact hp1) (by exact hL1 (by omega)) (by exact hw1) (by omega) (m := i_) (k := k) (by omega) (by omega)) rfl (fun h6 hq6 => ?_)
            obtain ⟨V6, S6, rfl⟩ := hq6
            refine xe_top (v' := (fun m => q_kB (q_cr h1) (q_I h1 (10 + 5)) LW nc mo w m k) i_) (by exact q_kB_wk (h := h1) (h' := (q_wI (q_wI (q_wI h1 20 s4.2.1) 21 s4.2.2) 35 s4.1)) (m := i_) (F := q_I h1 35) (B := (fun m => q_kB (q_cr h1) (q_I h1 (10 + 5)) LW nc mo w m k)) (by omega) e4 rfl rfl k) ?_
            refine xe_aload_n dX9_weeks_62 rfl ?_
            refine xe_getP dX9_weeks_63 flX9_36 (st0 hs1) (by decide) rfl (sp0_4 hs1) ?_
            refine xe_iload_n dX9_weeks_66 rfl ?_
            refine xe_callVI (d' := 0) (y' := mX6_inRow) dX9_weeks_67 mlX9_140 mvX6_inRow rfl (st34 hs1) (by decide) rfl (by decide) (by decide) (Nat.le_of_ble_eq_true rfl) (c_X6_inRow l g _ (by exact hs1) _ (by omega)) rfl ?_
            refine xe_isub dX9_weeks_70 ?_
            refine xe_iadd dX9_weeks_71 ?_
            refine xn_iast dX9_weeks_72 (st35 hs1) (by omega) (by decide) ?_
            refine xn_iinc dX9_weeks_73 rfl kc_1 ?_
            refine xe_goto (tgt := 30) dX9_weeks_76 rfl ?_
            exact xe_fin (K4 (upd s4.1 ((i_ * 8) + i_) ((s4.1 ((i_ * 8) + i_)) + (((fun m => q_kB (q_cr h1) (q_I h1 (10 + 5)) LW nc mo w m k) i_) - (q_sum (fun k => s4.1 (i_ * 8 + k)) 8))), V6, S6) (by rw [e4]; rfl)) (And.intro rfl (And.intro rfl (And.intro rfl trivial))) (q_heq [20, 21, 35] (H := h1) (by repeat (first | exact q_out_r | refine q_out_w rfl ?_)) (by repeat (first | exact q_out_r | refine q_out_w rfl ?_)) (And.intro rfl (And.intro rfl (And.intro rfl trivial))))
        · refine xe_iload_n dX9_weeks_30 rfl ?_
          refine xe_aload_n dX9_weeks_31 rfl ?_
          refine xe_getP dX9_weeks_32 flX9_26 (st0 hs1) (by decide) rfl P0 ?_
          refine xe_getIv dX9_weeks_35 flX9_117 (st10 hs1) (by decide) rfl (v := nI nm) (P3) ?_
          refine xn_icmp_ge (tgt := 79) dX9_weeks_38 rfl (by omega) (by omega) (fun c7 => ?_) (fun c7 => ?_)
          · refine xe_aload_n dX9_weeks_79 rfl ?_
            refine xe_getP dX9_weeks_80 flX9_36 (st0 hs1) (by decide) rfl (sp0_4 hs1) ?_
            refine xe_dup dX9_weeks_83 rfl ?_
            refine xe_getIv dX9_weeks_84 flX9_150 (st34 hs1) (by decide) rfl (v := nI w) ((congrFun r34 6).trans hw) ?_
            refine xe_iload_n dX9_weeks_87 rfl ?_
            refine xn_iadd dX9_weeks_88 ?_
            refine xe_putI dX9_weeks_89 flX9_150 (st34 hs1) (by decide) rfl (Or.inl rfl) rfl rfl ?_
            refine xe_aload_n dX9_weeks_92 rfl ?_
            refine xe_callVVq (d' := 2) (y' := mX9_countTimes) dX9_weeks_93 mlX9_248 mvX9_countTimes rfl (st0 hs1) (by decide) rfl (by decide) (by decide) (Nat.le_of_ble_eq_true rfl) (c_X9_countTimes l g _ (by exact hs1) (by exact hp1) (E := E) (by exact (congrFun r34 5).trans hE1) hE2 (by exact hE9) (w := w + k) (by exact rfl) (by omega)) rfl (fun h9 hq9 => ?_)
            obtain ⟨T, rfl, hT⟩ := hq9
            refine xe_aload_n dX9_weeks_96 rfl ?_
            refine xe_getP dX9_weeks_97 flX9_36 (st0 hs1) (by decide) rfl (sp0_4 hs1) ?_
            refine xe_getIv dX9_weeks_100 flX9_150 (st34 hs1) (by decide) rfl (v := nI (w + k)) (rfl) ?_
            refine xe_ireturn dX9_weeks_103 rfl (by first | rfl | decide +kernel) ?_
            refine ⟨rfl, rk_did_of q_out_r k_ (by repeat (first | exact q_out_r | refine q_out_w rfl ?_)), ?_, hT, by show upd (q_I h1 34) _ _ = _; rw [r34], rk_nd_r k_ (r := 36) (by decide) (by decide), rk_nd_r k_ (r := 38) (by decide) (by decide), rk_nd_r k_ (r := 39) (by decide) (by decide)⟩
            refine e4.trans ?_
            rw [r35]
            refine congrFun (congrArg (q_wkF (q_I h 35)) (funext fun m => ?_)) nm
            rw [show q_I h1 (10 + 5) = q_I h (10 + 5) from rr _ (by decide), q_cr_same rr]
          · omega
    · omega
  · refine q_CtV mvX9_weeks (Nat.le_of_ble_eq_true rfl) ?_
    refine xe_iload_n dX9_weeks_0 rfl ?_
    refine xn_if_lt (tgt := 10) dX9_weeks_1 rfl (by omega) ?_
    refine xe_iload_n dX9_weeks_4 rfl ?_
    refine xe_bipush dX9_weeks_5 kb_100 ?_
    refine xn_icmp_le (tgt := 12) dX9_weeks_7 rfl (by omega) (by omega) (fun c2 => ?_) (fun c2 => ?_)
    · refine xe_iload_n dX9_weeks_12 rfl ?_
      refine xn_if_le (tgt := 96) dX9_weeks_13 rfl (by omega) (fun c3 => ?_) (fun c3 => ?_)
      · omega
      · refine xe_aload_n dX9_weeks_16 rfl ?_
        refine xe_getP dX9_weeks_17 flX9_51 (st0 hs) (by decide) rfl (sp0_7 hs) ?_
        refine xe_aload_n dX9_weeks_20 rfl ?_
        refine xe_getP dX9_weeks_21 flX9_36 (st0 hs) (by decide) rfl (sp0_4 hs) ?_
        refine xe_callVRn (d' := 2) (y' := mX1_note) dX9_weeks_24 mlX9_236 mvX1_note rfl (st42 hs) (by decide) rfl (by decide) (by decide) (Nat.le_of_ble_eq_true rfl) (c_X1_note l g _ (by exact hs) hx (by exact h42a) (by exact h42b) hs25) rfl (fun v h1 hq => ?_)
        obtain ⟨rfl, k_⟩ := hq
        have hs1 : q_Stat h1 := q_Stat_2 k_.1 (by exact hs)
        have r35 : q_I h1 35 = q_I h 35 := rk_nd_r k_ (r := 35) (by decide) (by decide)
        have r34 : q_I h1 34 = q_I h 34 := rk_nd_r k_ (r := 34) (by decide) (by decide)
        have rr : ∀ r, r < 42 → q_I h1 r = q_I h r := fun r hr => rk_nd_r k_ (by omega) (by omega)
        have hp1 : rk_P h1 22 nm nd nc mo n := rk_P_of hp (k_.1) (rr _ (by decide)) (rr _ (by decide))
        have P0 := hp1.1
        have P3 := hp1.2.2.2.2.1
        have hL1 : 0 < nm → rk_L h1 22 n LW := fun q => rk_L_of (hL q) (fun r hr => rr r (by omega)) (by decide)
        have hw1 : q_I h1 34 6 = nI w := (congrFun r34 6).trans hw
        have hE9 : rk_E h1 E em ed ew ep ea := rk_E_of hE (rr _ (by decide)) (rr _ (by decide))
        refine xe_pop dX9_weeks_27 rfl ?_
        refine xe_iconst dX9_weeks_28 kc_0 ?_
        refine xe_istore_n (i := 2) dX9_weeks_29 rfl (by decide) rfl ?_
        refine xe_fin (L' := (fun (i_ : Nat) (s4 : (Nat → Int32) × (Nat → Int32) × (Nat → Int32)) => [(0, .ref 0), (1, .int (nI k)), (2, .int (nI i_))]) 0 (q_I h1 35, q_I h1 32, q_I h1 33)) (h' := (fun (i_ : Nat) (s4 : (Nat → Int32) × (Nat → Int32) × (Nat → Int32)) => (q_wI (q_wI (q_wI h1 32 s4.2.1) 33 s4.2.2) 35 s4.1)) 0 (q_I h1 35, q_I h1 32, q_I h1 33)) ?_ (And.intro rfl (And.intro rfl (And.intro rfl trivial))) (q_heq [32, 33, 35] (H := h1) (by repeat (first | exact q_out_r | refine q_out_w rfl ?_)) (by repeat (first | exact q_out_r | refine q_out_w rfl ?_)) (And.intro rfl (And.intro rfl (And.intro rfl trivial))))
        refine xe_loopI (σ := (Nat → Int32) × (Nat → Int32) × (Nat → Int32)) (nm) (fun i s => s.1 = q_wkF (q_I h1 35) (fun m => q_kB (q_cr h1) (q_I h1 (22 + 5)) LW nc mo w m k) i) (fun (i_ : Nat) (s4 : (Nat → Int32) × (Nat → Int32) × (Nat → Int32)) => [(0, .ref 0), (1, .int (nI k)), (2, .int (nI i_))]) (fun (i_ : Nat) (s4 : (Nat → Int32) × (Nat → Int32) × (Nat → Int32)) => (q_wI (q_wI (q_wI h1 32 s4.2.1) 33 s4.2.2) 35 s4.1)) (q_I h1 35, q_I h1 32, q_I h1 33) (rfl) (fun i_ hi_ s4 e4 K4 => ?_) (fun s4 e4 => ?_)
        · refine xe_iload_n dX9_weeks_30 rfl ?_
          refine xe_aload_n dX9_weeks_31 rfl ?_
          refine xe_getP dX9_weeks_32 flX9_26 (st0 hs1) (by decide) rfl P0 ?_
          refine xe_getIv dX9_weeks_35 flX9_117 (st22 hs1) (by decide) rfl (v := nI nm) (P3) ?_
          refine xn_icmp_ge (tgt := 79) dX9_weeks_38 rfl (by omega) (by omega) (fun c5 => ?_) (fun c5 => ?_)
          · omega
          · refine xe_aload_n dX9_weeks_41 rfl ?_
            refine xe_getP dX9_weeks_42 flX9_36 (st0 hs1) (by decide) rfl (sp0_4 hs1) ?_
            refine xe_getP dX9_weeks_45 flX9_120 (st34 hs1) (by decide) rfl (sp34_0 hs1) ?_
            refine xe_iload_n dX9_weeks_48 rfl ?_
            refine xe_bipush dX9_weeks_49 kb_8 ?_
            refine xn_imul dX9_weeks_51 ?_
            refine xe_iload_n dX9_weeks_52 rfl ?_
            refine xn_iadd dX9_weeks_53 ?_
            refine xe_dup2 dX9_weeks_54 rfl rfl ?_
            refine xn_ialdv dX9_weeks_55 (st35 hs1) (by omega) (by decide) (v := (s4.1 ((i_ * 8) + i_))) (rfl) ?_
            refine xe_aload_n dX9_weeks_56 rfl ?_
            refine xe_iload_n dX9_weeks_57 rfl ?_
            refine xe_iload_n dX9_weeks_58 rfl ?_
            refine xe_callVIq (d' := 3) (y' := mX9_haveBehind) dX9_weeks_59 mlX9_276 mvX9_haveBehind rfl (st0 hs1) (by decide) rfl (by decide) (by decide) (Nat.le_of_ble_eq_true rfl) (c_X9_haveBehind l g _ (by exact hs1) (by exact hp1) (by exact hL1 (by omega)) (by exact hw1) (by omega) (m := i_) (k := k) (by omega) (by omega)) rfl (fun h6 hq6 => ?_)
            obtain ⟨V6, S6, rfl⟩ := hq6
            refine xe_top (v' := (fun m => q_kB (q_cr h1) (q_I h1 (22 + 5)) LW nc mo w m k) i_) (by exact q_kB_wk (h := h1) (h' := (q_wI (q_wI (q_wI h1 32 s4.2.1) 33 s4.2.2) 35 s4.1)) (m := i_) (F := q_I h1 35) (B := (fun m => q_kB (q_cr h1) (q_I h1 (22 + 5)) LW nc mo w m k)) (by omega) e4 rfl rfl k) ?_
            refine xe_aload_n dX9_weeks_62 rfl ?_
            refine xe_getP dX9_weeks_63 flX9_36 (st0 hs1) (by decide) rfl (sp0_4 hs1) ?_
            refine xe_iload_n dX9_weeks_66 rfl ?_
            refine xe_callVI (d' := 0) (y' := mX6_inRow) dX9_weeks_67 mlX9_140 mvX6_inRow rfl (st34 hs1) (by decide) rfl (by decide) (by decide) (Nat.le_of_ble_eq_true rfl) (c_X6_inRow l g _ (by exact hs1) _ (by omega)) rfl ?_
            refine xe_isub dX9_weeks_70 ?_
            refine xe_iadd dX9_weeks_71 ?_
            refine xn_iast dX9_weeks_72 (st35 hs1) (by omega) (by decide) ?_
            refine xn_iinc dX9_weeks_73 rfl kc_1 ?_
            refine xe_goto (tgt := 30) dX9_weeks_76 rfl ?_
            exact xe_fin (K4 (upd s4.1 ((i_ * 8) + i_) ((s4.1 ((i_ * 8) + i_)) + (((fun m => q_kB (q_cr h1) (q_I h1 (22 + 5)) LW nc mo w m k) i_) - (q_sum (fun k => s4.1 (i_ * 8 + k)) 8))), V6, S6) (by rw [e4]; rfl)) (And.intro rfl (And.intro rfl (And.intro rfl trivial))) (q_heq [32, 33, 35] (H := h1) (by repeat (first | exact q_out_r | refine q_out_w rfl ?_)) (by repeat (first | exact q_out_r | refine q_out_w rfl ?_)) (And.intro rfl (And.intro rfl (And.intro rfl trivial))))
        · refine xe_iload_n dX9_weeks_30 rfl ?_
          refine xe_aload_n dX9_weeks_31 rfl ?_
          refine xe_getP dX9_weeks_32 flX9_26 (st0 hs1) (by decide) rfl P0 ?_
          refine xe_getIv dX9_weeks_35 flX9_117 (st22 hs1) (by decide) rfl (v := nI nm) (P3) ?_
          refine xn_icmp_ge (tgt := 79) dX9_weeks_38 rfl (by omega) (by omega) (fun c7 => ?_) (fun c7 => ?_)
          · refine xe_aload_n dX9_weeks_79 rfl ?_
            refine xe_getP dX9_weeks_80 flX9_36 (st0 hs1) (by decide) rfl (sp0_4 hs1) ?_
            refine xe_dup dX9_weeks_83 rfl ?_
            refine xe_getIv dX9_weeks_84 flX9_150 (st34 hs1) (by decide) rfl (v := nI w) ((congrFun r34 6).trans hw) ?_
            refine xe_iload_n dX9_weeks_87 rfl ?_
            refine xn_iadd dX9_weeks_88 ?_
            refine xe_putI dX9_weeks_89 flX9_150 (st34 hs1) (by decide) rfl (Or.inl rfl) rfl rfl ?_
            refine xe_aload_n dX9_weeks_92 rfl ?_
            refine xe_callVVq (d' := 2) (y' := mX9_countTimes) dX9_weeks_93 mlX9_248 mvX9_countTimes rfl (st0 hs1) (by decide) rfl (by decide) (by decide) (Nat.le_of_ble_eq_true rfl) (c_X9_countTimes l g _ (by exact hs1) (by exact hp1) (E := E) (by exact (congrFun r34 5).trans hE1) hE2 (by exact hE9) (w := w + k) (by exact rfl) (by omega)) rfl (fun h9 hq9 => ?_)
            obtain ⟨T, rfl, hT⟩ := hq9
            refine xe_aload_n dX9_weeks_96 rfl ?_
            refine xe_getP dX9_weeks_97 flX9_36 (st0 hs1) (by decide) rfl (sp0_4 hs1) ?_
            refine xe_getIv dX9_weeks_100 flX9_150 (st34 hs1) (by decide) rfl (v := nI (w + k)) (rfl) ?_
            refine xe_ireturn dX9_weeks_103 rfl (by first | rfl | decide +kernel) ?_
            refine ⟨rfl, rk_did_of q_out_r k_ (by repeat (first | exact q_out_r | refine q_out_w rfl ?_)), ?_, hT, by show upd (q_I h1 34) _ _ = _; rw [r34], rk_nd_r k_ (r := 36) (by decide) (by decide), rk_nd_r k_ (r := 38) (by decide) (by decide), rk_nd_r k_ (r := 39) (by decide) (by decide)⟩
            refine e4.trans ?_
            rw [r35]
            refine congrFun (congrArg (q_wkF (q_I h 35)) (funext fun m => ?_)) nm
            rw [show q_I h1 (22 + 5) = q_I h (22 + 5) from rr _ (by decide), q_cr_same rr]
          · omega
    · omega
theorem c_X9_weeks_0 (l : Launch) (g : q_GP) (h : q_H) (hs : q_Stat h) {p nm nd nc mo n : Nat} (hp : rk_P h p nm nd nc mo n) : q_Cd l g 4 mX9_weeks [.ref 0, .int (nI 0)] h (some (.int (q_I h 34 6))) h := by
  obtain ⟨P0, P1, P2, P2b, P3, P3b, P4, P4b, P5, P5b, P6, P6b⟩ := id hp
  rcases P1 with rfl | rfl
  · refine q_CdV mvX9_weeks (Nat.le_of_ble_eq_true rfl) ?_
    refine xe_iload_n dX9_weeks_0 rfl ?_
    refine xn_if_lt (tgt := 10) dX9_weeks_1 rfl (by omega) ?_
    refine xe_iload_n dX9_weeks_4 rfl ?_
    refine xe_bipush dX9_weeks_5 kb_100 ?_
    refine xn_icmp_le (tgt := 12) dX9_weeks_7 rfl (by omega) (by omega) (fun c2 => ?_) (fun c2 => ?_)
    · refine xe_iload_n dX9_weeks_12 rfl ?_
      refine xn_if_le (tgt := 96) dX9_weeks_13 rfl (by omega) (fun c3 => ?_) (fun c3 => ?_)
      · refine xe_aload_n dX9_weeks_96 rfl ?_
        refine xe_getP dX9_weeks_97 flX9_36 (st0 hs) (by decide) rfl (sp0_4 hs) ?_
        refine xe_getIv dX9_weeks_100 flX9_150 (st34 hs) (by decide) rfl (v := (q_I h 34 6)) (rfl) ?_
        refine xe_ireturn dX9_weeks_103 rfl (by first | rfl | decide +kernel) ?_
        exact ⟨rfl, rfl⟩
      · omega
    · omega
  · refine q_CdV mvX9_weeks (Nat.le_of_ble_eq_true rfl) ?_
    refine xe_iload_n dX9_weeks_0 rfl ?_
    refine xn_if_lt (tgt := 10) dX9_weeks_1 rfl (by omega) ?_
    refine xe_iload_n dX9_weeks_4 rfl ?_
    refine xe_bipush dX9_weeks_5 kb_100 ?_
    refine xn_icmp_le (tgt := 12) dX9_weeks_7 rfl (by omega) (by omega) (fun c2 => ?_) (fun c2 => ?_)
    · refine xe_iload_n dX9_weeks_12 rfl ?_
      refine xn_if_le (tgt := 96) dX9_weeks_13 rfl (by omega) (fun c3 => ?_) (fun c3 => ?_)
      · refine xe_aload_n dX9_weeks_96 rfl ?_
        refine xe_getP dX9_weeks_97 flX9_36 (st0 hs) (by decide) rfl (sp0_4 hs) ?_
        refine xe_getIv dX9_weeks_100 flX9_150 (st34 hs) (by decide) rfl (v := (q_I h 34 6)) (rfl) ?_
        refine xe_ireturn dX9_weeks_103 rfl (by first | rfl | decide +kernel) ?_
        exact ⟨rfl, rfl⟩
      · omega
    · omega
theorem c_X9_weeks_f (l : Launch) (g : q_GP) (h : q_H) (hs : q_Stat h) {x : Int32} (hx : ¬ ∃ k, 0 ≤ k ∧ k ≤ 100 ∧ x = nI k) : q_Cd l g 4 mX9_weeks [.ref 0, .int x] h (some (.int (-1))) h := by
  refine q_CdV mvX9_weeks (Nat.le_of_ble_eq_true rfl) ?_
  refine xe_iload_n dX9_weeks_0 rfl ?_
  refine xe_if_lt (tgt := 10) dX9_weeks_1 rfl (fun c_1 => ?_) (fun c_1 => ?_)
  · refine xe_iconst dX9_weeks_10 kc_m1 ?_
    refine xe_ireturn dX9_weeks_11 rfl (by first | rfl | decide +kernel) ?_
    exact ⟨rfl, rfl⟩
  · refine xe_iload_n dX9_weeks_4 rfl ?_
    refine xe_bipush dX9_weeks_5 kb_100 ?_
    refine xe_icmp_le (tgt := 12) dX9_weeks_7 rfl (fun c1 => ?_) (fun c1 => ?_)
    · exact absurd (q_rng (Int32.not_lt.mp c_1) c1) hx
    · refine xe_iconst dX9_weeks_10 kc_m1 ?_
      refine xe_ireturn dX9_weeks_11 rfl (by first | rfl | decide +kernel) ?_
      exact ⟨rfl, rfl⟩
theorem c_X9_undo_a (l : Launch) (g : q_GP) (h : q_H) (hs : q_Stat h) {p nm nd nc mo n : Nat} (hp : rk_P h p nm nd nc mo n) {x s : Nat} (hx : x < 25) (h42a : q_I h 42 1 = nI x) (h42b : q_I h 42 2 = nI s) (hs25 : s ≤ 25) (hs0 : 0 < s) {E0 w0 : Nat} (h1 : q_I h (44 + 2 * ((x + 24) % 25)) 1 = nI E0) (h2 : q_I h (44 + 2 * ((x + 24) % 25)) 2 = nI w0) (hE0 : E0 ≤ 300) (hw0 : w0 < 2 ^ 20) {E : Nat} (hE2 : E ≤ 300) {em ed ew ep ea : Nat → Nat} (hE : rk_E h E em ed ew ep ea) (hEE : E0 ≤ E) (h3 : q_I h (44 + 2 * ((x + 24) % 25)) 3 = -1) (h5 : q_I h (44 + 2 * ((x + 24) % 25)) 5 = -1) : q_Ct l g 5 mX9_undo [.ref 0] h (fun r h1 => r = some (.int (nI 1)) ∧ ∃ T, h1 = q_wI (q_wI (q_wI (q_wI h 34 (upd (upd (q_I h 34) 5 (nI E0)) 6 (nI w0))) 35 (q_cpy (q_I h (45 + 2 * ((x + 24) % 25))) (q_I h 35) 72)) 42 (upd (upd (q_I h 42) 2 (nI (s - 1))) 1 (nI ((x + 24) % 25)))) 37 T ∧ ∀ k, k < 64 → T k = nI (q_cnt em ed ew (if mo = 0 then 0 else w0 - w0 % mo) E0 k)) := by
  obtain ⟨P0, P1, P2, P2b, P3, P3b, P4, P4b, P5, P5b, P6, P6b⟩ := id hp
  rcases P1 with rfl | rfl
  · refine q_CtV mvX9_undo (Nat.le_of_ble_eq_true rfl) ?_
    refine xe_aload_n dX9_undo_0 rfl ?_
    refine xe_getP dX9_undo_1 flX9_51 (st0 hs) (by decide) rfl (sp0_7 hs) ?_
    refine xe_aload_n dX9_undo_4 rfl ?_
    refine xe_getP dX9_undo_5 flX9_36 (st0 hs) (by decide) rfl (sp0_4 hs) ?_
    refine xe_callVI (d' := 4) (y' := mX1_takeBack) dX9_undo_8 mlX9_279 mvX1_takeBack rfl (st42 hs) (by decide) rfl (by decide) (by decide) (Nat.le_of_ble_eq_true rfl) (c_X1_takeBack_a l g _ (by exact hs) hx (by exact h42a) (by exact h42b) hs25 hs0 (by exact h1) (by exact h2) (by exact h3) (by exact h5)) rfl ?_
    refine xn_if_ne (tgt := 16) dX9_undo_11 rfl (by omega) (fun c1 => ?_) (fun c1 => ?_)
    · refine xe_aload_n dX9_undo_16 rfl ?_
      refine xe_callVVq (d' := 2) (y' := mX9_countTimes) dX9_undo_17 mlX9_248 mvX9_countTimes rfl (st0 hs) (by decide) rfl (by decide) (by decide) (Nat.le_of_ble_eq_true rfl) (c_X9_countTimes l g _ (by exact hs) (by exact hp) (E := E0) (by exact rfl) hE0 (fun i hi => by exact hE i (by omega)) (w := w0) (by exact rfl) (by omega)) rfl (fun h9 hq9 => ?_)
      obtain ⟨T, rfl, hT⟩ := hq9
      refine xe_iconst dX9_undo_20 kc_1 ?_
      refine xe_ireturn dX9_undo_21 rfl (by first | rfl | decide +kernel) ?_
      exact ⟨rfl, _, rfl, hT⟩
    · omega
  · refine q_CtV mvX9_undo (Nat.le_of_ble_eq_true rfl) ?_
    refine xe_aload_n dX9_undo_0 rfl ?_
    refine xe_getP dX9_undo_1 flX9_51 (st0 hs) (by decide) rfl (sp0_7 hs) ?_
    refine xe_aload_n dX9_undo_4 rfl ?_
    refine xe_getP dX9_undo_5 flX9_36 (st0 hs) (by decide) rfl (sp0_4 hs) ?_
    refine xe_callVI (d' := 4) (y' := mX1_takeBack) dX9_undo_8 mlX9_279 mvX1_takeBack rfl (st42 hs) (by decide) rfl (by decide) (by decide) (Nat.le_of_ble_eq_true rfl) (c_X1_takeBack_a l g _ (by exact hs) hx (by exact h42a) (by exact h42b) hs25 hs0 (by exact h1) (by exact h2) (by exact h3) (by exact h5)) rfl ?_
    refine xn_if_ne (tgt := 16) dX9_undo_11 rfl (by omega) (fun c1 => ?_) (fun c1 => ?_)
    · refine xe_aload_n dX9_undo_16 rfl ?_
      refine xe_callVVq (d' := 2) (y' := mX9_countTimes) dX9_undo_17 mlX9_248 mvX9_countTimes rfl (st0 hs) (by decide) rfl (by decide) (by decide) (Nat.le_of_ble_eq_true rfl) (c_X9_countTimes l g _ (by exact hs) (by exact hp) (E := E0) (by exact rfl) hE0 (fun i hi => by exact hE i (by omega)) (w := w0) (by exact rfl) (by omega)) rfl (fun h9 hq9 => ?_)
      obtain ⟨T, rfl, hT⟩ := hq9
      refine xe_iconst dX9_undo_20 kc_1 ?_
      refine xe_ireturn dX9_undo_21 rfl (by first | rfl | decide +kernel) ?_
      exact ⟨rfl, _, rfl, hT⟩
    · omega
theorem c_X9_undo_b (l : Launch) (g : q_GP) (h : q_H) (hs : q_Stat h) {p nm nd nc mo n : Nat} (hp : rk_P h p nm nd nc mo n) {x s : Nat} (hx : x < 25) (h42a : q_I h 42 1 = nI x) (h42b : q_I h 42 2 = nI s) (hs25 : s ≤ 25) (hs0 : 0 < s) {E0 w0 : Nat} (h1 : q_I h (44 + 2 * ((x + 24) % 25)) 1 = nI E0) (h2 : q_I h (44 + 2 * ((x + 24) % 25)) 2 = nI w0) (hE0 : E0 ≤ 300) (hw0 : w0 < 2 ^ 20) {E : Nat} (hE2 : E ≤ 300) {em ed ew ep ea : Nat → Nat} (hE : rk_E h E em ed ew ep ea) (hEE : E0 ≤ E) {a : Nat} (ha : a < 64) {dv : Int32} (h3 : q_I h (44 + 2 * ((x + 24) % 25)) 3 = nI a) (h4 : q_I h (44 + 2 * ((x + 24) % 25)) 4 = dv) (h5 : q_I h (44 + 2 * ((x + 24) % 25)) 5 = -1) : q_Ct l g 5 mX9_undo [.ref 0] h (fun r h1 => r = some (.int (nI 1)) ∧ ∃ T, h1 = q_wI (q_wI (q_wI (q_wI (q_wI h 34 (upd (upd (q_I h 34) 5 (nI E0)) 6 (nI w0))) 35 (q_cpy (q_I h (45 + 2 * ((x + 24) % 25))) (q_I h 35) 72)) 42 (upd (upd (q_I h 42) 2 (nI (s - 1))) 1 (nI ((x + 24) % 25)))) 36 (upd (q_I h 36) a dv)) 37 T ∧ ∀ k, k < 64 → T k = nI (q_cnt em ed ew (if mo = 0 then 0 else w0 - w0 % mo) E0 k)) := by
  obtain ⟨P0, P1, P2, P2b, P3, P3b, P4, P4b, P5, P5b, P6, P6b⟩ := id hp
  rcases P1 with rfl | rfl
  · refine q_CtV mvX9_undo (Nat.le_of_ble_eq_true rfl) ?_
    refine xe_aload_n dX9_undo_0 rfl ?_
    refine xe_getP dX9_undo_1 flX9_51 (st0 hs) (by decide) rfl (sp0_7 hs) ?_
    refine xe_aload_n dX9_undo_4 rfl ?_
    refine xe_getP dX9_undo_5 flX9_36 (st0 hs) (by decide) rfl (sp0_4 hs) ?_
    refine xe_callVI (d' := 4) (y' := mX1_takeBack) dX9_undo_8 mlX9_279 mvX1_takeBack rfl (st42 hs) (by decide) rfl (by decide) (by decide) (Nat.le_of_ble_eq_true rfl) (c_X1_takeBack_b l g _ (by exact hs) hx (by exact h42a) (by exact h42b) hs25 hs0 (by exact h1) (by exact h2) ha (by exact h3) (by exact h4) (by exact h5)) rfl ?_
    refine xn_if_ne (tgt := 16) dX9_undo_11 rfl (by omega) (fun c1 => ?_) (fun c1 => ?_)
    · refine xe_aload_n dX9_undo_16 rfl ?_
      refine xe_callVVq (d' := 2) (y' := mX9_countTimes) dX9_undo_17 mlX9_248 mvX9_countTimes rfl (st0 hs) (by decide) rfl (by decide) (by decide) (Nat.le_of_ble_eq_true rfl) (c_X9_countTimes l g _ (by exact hs) (by exact hp) (E := E0) (by exact rfl) hE0 (fun i hi => by exact hE i (by omega)) (w := w0) (by exact rfl) (by omega)) rfl (fun h9 hq9 => ?_)
      obtain ⟨T, rfl, hT⟩ := hq9
      refine xe_iconst dX9_undo_20 kc_1 ?_
      refine xe_ireturn dX9_undo_21 rfl (by first | rfl | decide +kernel) ?_
      exact ⟨rfl, _, rfl, hT⟩
    · omega
  · refine q_CtV mvX9_undo (Nat.le_of_ble_eq_true rfl) ?_
    refine xe_aload_n dX9_undo_0 rfl ?_
    refine xe_getP dX9_undo_1 flX9_51 (st0 hs) (by decide) rfl (sp0_7 hs) ?_
    refine xe_aload_n dX9_undo_4 rfl ?_
    refine xe_getP dX9_undo_5 flX9_36 (st0 hs) (by decide) rfl (sp0_4 hs) ?_
    refine xe_callVI (d' := 4) (y' := mX1_takeBack) dX9_undo_8 mlX9_279 mvX1_takeBack rfl (st42 hs) (by decide) rfl (by decide) (by decide) (Nat.le_of_ble_eq_true rfl) (c_X1_takeBack_b l g _ (by exact hs) hx (by exact h42a) (by exact h42b) hs25 hs0 (by exact h1) (by exact h2) ha (by exact h3) (by exact h4) (by exact h5)) rfl ?_
    refine xn_if_ne (tgt := 16) dX9_undo_11 rfl (by omega) (fun c1 => ?_) (fun c1 => ?_)
    · refine xe_aload_n dX9_undo_16 rfl ?_
      refine xe_callVVq (d' := 2) (y' := mX9_countTimes) dX9_undo_17 mlX9_248 mvX9_countTimes rfl (st0 hs) (by decide) rfl (by decide) (by decide) (Nat.le_of_ble_eq_true rfl) (c_X9_countTimes l g _ (by exact hs) (by exact hp) (E := E0) (by exact rfl) hE0 (fun i hi => by exact hE i (by omega)) (w := w0) (by exact rfl) (by omega)) rfl (fun h9 hq9 => ?_)
      obtain ⟨T, rfl, hT⟩ := hq9
      refine xe_iconst dX9_undo_20 kc_1 ?_
      refine xe_ireturn dX9_undo_21 rfl (by first | rfl | decide +kernel) ?_
      exact ⟨rfl, _, rfl, hT⟩
    · omega
theorem c_X9_undo_c (l : Launch) (g : q_GP) (h : q_H) (hs : q_Stat h) {p nm nd nc mo n : Nat} (hp : rk_P h p nm nd nc mo n) {x s : Nat} (hx : x < 25) (h42a : q_I h 42 1 = nI x) (h42b : q_I h 42 2 = nI s) (hs25 : s ≤ 25) (hs0 : 0 < s) {E0 w0 : Nat} (h1 : q_I h (44 + 2 * ((x + 24) % 25)) 1 = nI E0) (h2 : q_I h (44 + 2 * ((x + 24) % 25)) 2 = nI w0) (hE0 : E0 ≤ 300) (hw0 : w0 < 2 ^ 20) {E : Nat} (hE2 : E ≤ 300) {em ed ew ep ea : Nat → Nat} (hE : rk_E h E em ed ew ep ea) (hEE : E0 ≤ E) {i : Nat} (hi : i < E) (hai : ea i = 1) (h3 : q_I h (44 + 2 * ((x + 24) % 25)) 3 = -1) (h5 : q_I h (44 + 2 * ((x + 24) % 25)) 5 = nI i) : q_Ct l g 5 mX9_undo [.ref 0] h (fun r h1 => r = some (.int (nI 1)) ∧ ∃ T, h1 = q_wI (q_wI (q_wI (q_wI (q_wI h 34 (upd (upd (q_I h 34) 5 (nI E0)) 6 (nI w0))) 35 (q_cpy (q_I h (45 + 2 * ((x + 24) % 25))) (q_I h 35) 72)) 42 (upd (upd (q_I h 42) 2 (nI (s - 1))) 1 (nI ((x + 24) % 25)))) 38 (upd (q_I h 38) i (nI (ep i * 128 + 0 * 64 + em i * 8 + ed i)))) 37 T ∧ ∀ k, k < 64 → T k = nI (q_cnt em ed ew (if mo = 0 then 0 else w0 - w0 % mo) E0 k)) := by
  obtain ⟨P0, P1, P2, P2b, P3, P3b, P4, P4b, P5, P5b, P6, P6b⟩ := id hp
  rcases P1 with rfl | rfl
  · refine q_CtV mvX9_undo (Nat.le_of_ble_eq_true rfl) ?_
    refine xe_aload_n dX9_undo_0 rfl ?_
    refine xe_getP dX9_undo_1 flX9_51 (st0 hs) (by decide) rfl (sp0_7 hs) ?_
    refine xe_aload_n dX9_undo_4 rfl ?_
    refine xe_getP dX9_undo_5 flX9_36 (st0 hs) (by decide) rfl (sp0_4 hs) ?_
    refine xe_callVI (d' := 4) (y' := mX1_takeBack) dX9_undo_8 mlX9_279 mvX1_takeBack rfl (st42 hs) (by decide) rfl (by decide) (by decide) (Nat.le_of_ble_eq_true rfl) (c_X1_takeBack_c l g _ (by exact hs) hx (by exact h42a) (by exact h42b) hs25 hs0 (by exact h1) (by exact h2) hE2 (by exact hE) hi hai (by exact h3) (by exact h5)) rfl ?_
    refine xn_if_ne (tgt := 16) dX9_undo_11 rfl (by omega) (fun c1 => ?_) (fun c1 => ?_)
    · refine xe_aload_n dX9_undo_16 rfl ?_
      refine xe_callVVq (d' := 2) (y' := mX9_countTimes) dX9_undo_17 mlX9_248 mvX9_countTimes rfl (st0 hs) (by decide) rfl (by decide) (by decide) (Nat.le_of_ble_eq_true rfl) (c_X9_countTimes l g _ (by exact hs) (by exact hp) (E := E0) (by exact rfl) hE0 (fun j hj => by exact rk_E_set hE hi (by decide) j (by omega)) (w := w0) (by exact rfl) (by omega)) rfl (fun h9 hq9 => ?_)
      obtain ⟨T, rfl, hT⟩ := hq9
      refine xe_iconst dX9_undo_20 kc_1 ?_
      refine xe_ireturn dX9_undo_21 rfl (by first | rfl | decide +kernel) ?_
      exact ⟨rfl, _, rfl, hT⟩
    · omega
  · refine q_CtV mvX9_undo (Nat.le_of_ble_eq_true rfl) ?_
    refine xe_aload_n dX9_undo_0 rfl ?_
    refine xe_getP dX9_undo_1 flX9_51 (st0 hs) (by decide) rfl (sp0_7 hs) ?_
    refine xe_aload_n dX9_undo_4 rfl ?_
    refine xe_getP dX9_undo_5 flX9_36 (st0 hs) (by decide) rfl (sp0_4 hs) ?_
    refine xe_callVI (d' := 4) (y' := mX1_takeBack) dX9_undo_8 mlX9_279 mvX1_takeBack rfl (st42 hs) (by decide) rfl (by decide) (by decide) (Nat.le_of_ble_eq_true rfl) (c_X1_takeBack_c l g _ (by exact hs) hx (by exact h42a) (by exact h42b) hs25 hs0 (by exact h1) (by exact h2) hE2 (by exact hE) hi hai (by exact h3) (by exact h5)) rfl ?_
    refine xn_if_ne (tgt := 16) dX9_undo_11 rfl (by omega) (fun c1 => ?_) (fun c1 => ?_)
    · refine xe_aload_n dX9_undo_16 rfl ?_
      refine xe_callVVq (d' := 2) (y' := mX9_countTimes) dX9_undo_17 mlX9_248 mvX9_countTimes rfl (st0 hs) (by decide) rfl (by decide) (by decide) (Nat.le_of_ble_eq_true rfl) (c_X9_countTimes l g _ (by exact hs) (by exact hp) (E := E0) (by exact rfl) hE0 (fun j hj => by exact rk_E_set hE hi (by decide) j (by omega)) (w := w0) (by exact rfl) (by omega)) rfl (fun h9 hq9 => ?_)
      obtain ⟨T, rfl, hT⟩ := hq9
      refine xe_iconst dX9_undo_20 kc_1 ?_
      refine xe_ireturn dX9_undo_21 rfl (by first | rfl | decide +kernel) ?_
      exact ⟨rfl, _, rfl, hT⟩
    · omega
theorem c_X9_undo_0 (l : Launch) (g : q_GP) (h : q_H) (hs : q_Stat h) (h42b : q_I h 42 2 = nI 0) : q_Cd l g 5 mX9_undo [.ref 0] h (some (.int (nI 0))) h := by
  refine q_CdV mvX9_undo (Nat.le_of_ble_eq_true rfl) ?_
  refine xe_aload_n dX9_undo_0 rfl ?_
  refine xe_getP dX9_undo_1 flX9_51 (st0 hs) (by decide) rfl (sp0_7 hs) ?_
  refine xe_aload_n dX9_undo_4 rfl ?_
  refine xe_getP dX9_undo_5 flX9_36 (st0 hs) (by decide) rfl (sp0_4 hs) ?_
  refine xe_callVI (d' := 4) (y' := mX1_takeBack) dX9_undo_8 mlX9_279 mvX1_takeBack rfl (st42 hs) (by decide) rfl (by decide) (by decide) (Nat.le_of_ble_eq_true rfl) (c_X1_takeBack_0 l g _ (by exact hs) (by exact h42b)) rfl ?_
  refine xn_if_ne (tgt := 16) dX9_undo_11 rfl (by omega) (fun c1 => ?_) (fun c1 => ?_)
  · omega
  · refine xe_iconst dX9_undo_14 kc_0 ?_
    refine xe_ireturn dX9_undo_15 rfl (by first | rfl | decide +kernel) ?_
    exact ⟨rfl, rfl⟩
theorem c_X7_hasRoomFor (l : Launch) (g : q_GP) (h : q_H) (hs : q_Stat h) {t : Nat} (ht : q_I h 1 1 = nI t) (ht2 : t ≤ 2000) : q_Cd l g 0 mX7_hasRoomFor [.ref 1, .int (nI 20)] h (some (.int (if t ≤ 1980 then nI 1 else nI 0))) h := by
  refine q_CdV mvX7_hasRoomFor (Nat.le_of_ble_eq_true rfl) ?_
  refine xe_aload_n dX7_hasRoomFor_0 rfl ?_
  refine xe_getIv dX7_hasRoomFor_1 flX7_45 (st1 hs) (by decide) rfl (v := nI t) (ht) ?_
  refine xe_sipush dX7_hasRoomFor_4 ks_2000 ?_
  refine xe_iload_n dX7_hasRoomFor_7 rfl ?_
  refine xn_isub dX7_hasRoomFor_8 (by omega) ?_
  refine xn_icmp_gt (tgt := 16) dX7_hasRoomFor_9 rfl (by omega) (by omega) (fun c1 => ?_) (fun c1 => ?_)
  · refine xe_iconst dX7_hasRoomFor_16 kc_0 ?_
    refine xe_ireturn dX7_hasRoomFor_17 rfl (by first | rfl | decide +kernel) ?_
    exact ⟨congrArg (fun v => some (Value.int v)) (if_neg (by omega)).symm, rfl⟩
  · refine xe_iconst dX7_hasRoomFor_12 kc_1 ?_
    refine xe_goto (tgt := 17) dX7_hasRoomFor_13 rfl ?_
    refine xe_ireturn dX7_hasRoomFor_17 rfl (by first | rfl | decide +kernel) ?_
    exact ⟨congrArg (fun v => some (Value.int v)) (if_pos (by omega)).symm, rfl⟩
theorem c_X7_append (l : Launch) (g : q_GP) (h : q_H) (hs : q_Stat h) {t : Nat} (ht : q_I h 1 1 = nI t) (ht2 : t + 4 ≤ 2000) (x : Int32) : q_Cd l g 0 mX7_append [.ref 1, .int x] h none (q_wI (q_wI h 1 (upd (q_I h 1) 1 (nI (t + 4)))) 2 (q_put (q_I h 2) (q_by x) t 4)) := by
  refine q_CdV mvX7_append (Nat.le_of_ble_eq_true rfl) ?_
  refine xe_bipush dX7_append_0 kb_24 ?_
  refine xe_istore_n (i := 2) dX7_append_2 rfl (by decide) rfl ?_
  refine xe_fin (L' := (fun (i_ : Nat) (s1 : (Nat → Int32) × Nat) => [(0, .ref 1), (1, .int x), (2, .int (q_kI i_))]) 0 (q_I h 2, t)) (h' := (fun (i_ : Nat) (s1 : (Nat → Int32) × Nat) => (q_wI (q_wI h 1 (upd (q_I h 1) 1 (nI s1.2))) 2 s1.1)) 0 (q_I h 2, t)) ?_ (And.intro rfl (And.intro rfl (And.intro (by exact congrArg (fun v => some (Value.int v)) (by decide +kernel)) trivial))) (q_heq [1, 2] (H := h) (by repeat (first | exact q_out_r | refine q_out_w rfl ?_)) (by repeat (first | exact q_out_r | refine q_out_w rfl ?_)) (And.intro (q_upd_same ht).symm (And.intro rfl trivial)))
  refine xe_loopI (σ := (Nat → Int32) × Nat) (4) (fun i s => s.1 = q_put (q_I h 2) (q_by x) t i ∧ s.2 = t + i) (fun (i_ : Nat) (s1 : (Nat → Int32) × Nat) => [(0, .ref 1), (1, .int x), (2, .int (q_kI i_))]) (fun (i_ : Nat) (s1 : (Nat → Int32) × Nat) => (q_wI (q_wI h 1 (upd (q_I h 1) 1 (nI s1.2))) 2 s1.1)) (q_I h 2, t) (⟨(q_put0 _ _ _).symm, rfl⟩) (fun i_ hi_ s1 e1 K1 => ?_) (fun s1 e1 => ?_)
  · have hs2 := e1.2
    refine xe_iload_n dX7_append_3 rfl ?_
    refine xe_if_lt (tgt := 46) dX7_append_4 rfl (fun c2 => ?_) (fun c2 => ?_)
    · exact absurd c2 (q_kI_p hi_)
    · refine xe_aload_n dX7_append_7 rfl ?_
      refine xe_getIv dX7_append_8 flX7_45 (st1 hs) (by decide) rfl (v := nI s1.2) (rfl) ?_
      refine xe_sipush dX7_append_11 ks_2000 ?_
      refine xn_icmp_ge (tgt := 46) dX7_append_14 rfl (by omega) (by omega) (fun c3 => ?_) (fun c3 => ?_)
      · omega
      · refine xe_aload_n dX7_append_17 rfl ?_
        refine xe_getP dX7_append_18 flX7_11 (st1 hs) (by decide) rfl (sp1_0 hs) ?_
        refine xe_aload_n dX7_append_21 rfl ?_
        refine xe_getIv dX7_append_22 flX7_45 (st1 hs) (by decide) rfl (v := nI s1.2) (rfl) ?_
        refine xe_iload_n dX7_append_25 rfl ?_
        refine xe_iload_n dX7_append_26 rfl ?_
        refine xe_ishr dX7_append_27 ?_
        refine xe_i2b dX7_append_28 rfl ?_
        refine xn_bast dX7_append_29 (st2 hs) (by omega) (by decide) (v := (q_by x i_)) (Value.int.inj (pk_nb (x >>> (q_kI i_ &&& 31)))) ?_
        refine xe_aload_n dX7_append_30 rfl ?_
        refine xe_dup dX7_append_31 rfl ?_
        refine xe_getIv dX7_append_32 flX7_45 (st1 hs) (by decide) rfl (v := nI s1.2) (rfl) ?_
        refine xe_iconst dX7_append_35 kc_1 ?_
        refine xn_iadd dX7_append_36 ?_
        refine xe_putI dX7_append_37 flX7_45 (st1 hs) (by decide) rfl (Or.inl rfl) rfl rfl ?_
        refine xe_iinc dX7_append_40 rfl (v := (q_kI (i_ + 1))) (q_kI_S hi_) ?_
        refine xe_goto (tgt := 3) dX7_append_43 rfl ?_
        exact xe_fin (K1 (upd s1.1 s1.2 (q_by x i_), s1.2 + 1) (⟨by rw [e1.1, hs2]; exact q_putS _ _ _ _, by omega⟩)) (And.intro rfl (And.intro rfl (And.intro rfl trivial))) (q_heq [1, 2] (H := h) (by repeat (first | exact q_out_r | refine q_out_w rfl ?_)) (by repeat (first | exact q_out_r | refine q_out_w rfl ?_)) (And.intro (q_feq [1] (f := q_I h 1) (by repeat (first | exact q_fout_r | refine q_fout_w rfl ?_)) (by repeat (first | exact q_fout_r | refine q_fout_w rfl ?_)) (And.intro rfl trivial)) (And.intro rfl trivial)))
  · refine xe_iload_n dX7_append_3 rfl ?_
    refine xe_if_lt (tgt := 46) dX7_append_4 rfl (fun c4 => ?_) (fun c4 => ?_)
    · refine xe_return dX7_append_46 rfl ?_
      have q1 := e1.1
      have q2 := e1.2
      rw [q1, q2]
      exact ⟨rfl, rfl⟩
    · exact absurd (by decide +kernel) c4
