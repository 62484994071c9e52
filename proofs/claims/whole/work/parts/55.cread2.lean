/-! the class: ints and names that its reader takes -/
theorem q_cmp0 {x y : Int64} : lg_cmp x y = 0 ↔ x = y := by
  unfold lg_cmp
  by_cases h : x > y
  · rw [if_pos h]
    refine ⟨fun q => absurd q (by decide), fun q => ?_⟩
    rw [q] at h
    exact absurd h Int64.lt_irrefl
  · rw [if_neg h]
    by_cases h2 : x = y
    · rw [if_pos h2]
      exact ⟨fun _ => h2, fun _ => rfl⟩
    · rw [if_neg h2]
      exact ⟨fun q => absurd q (by decide), fun q => absurd q h2⟩
def q_ofi (o : Option Nat) : Int32 := match o with
  | none => -1
  | some i => nI i
theorem tx_find_st {x : List Nat} {ns : List (List Nat)} {i : Nat} (h : i < ns.length) : tx_find x (ns.drop i) i = if ns.getD i [] = x then some i else tx_find x (ns.drop (i + 1)) (i + 1) := by
  rw [List.drop_eq_getElem_cons h, tx_find, List.getD_eq_getElem?_getD, List.getElem?_eq_getElem h, Option.getD_some]
theorem tx_find_lt {x : List Nat} : ∀ (ns : List (List Nat)) (i j : Nat), tx_find x ns i = some j → i ≤ j ∧ j < i + ns.length
  | [], i, j, h => by cases h
  | y :: r, i, j, h => by
    unfold tx_find at h
    split at h
    · cases h
      show i ≤ i ∧ i < i + (r.length + 1)
      omega
    · have := tx_find_lt r (i + 1) j h
      show i ≤ j ∧ j < i + (r.length + 1)
      omega
/-- names in a row of numbers -/
def ck_N (h : q_H) (c : Nat) (ns : List (List Nat)) : Prop := ns.length ≤ 8 ∧ ∀ i, i < ns.length → q_J h c i = q_e5 (ns.getD i []) ∧ nm_ok (ns.getD i [])
theorem c_X5_find8 (l : Launch) (g : q_GP) (h : q_H) (hs : q_Stat h) {ns : List (List Nat)} (hN : ck_N h 8 ns) {x : List Nat} (hx : nm_ok x) : q_Cd l g 0 mX5_find [.ref 8, .int (nI ns.length), .long (q_e5 x)] h (some (.int (q_ofi (tx_find x ns 0)))) h := by
  have hl8 := hN.1
  refine q_CdS msX5_find (Nat.le_of_ble_eq_true rfl) ?_
  refine xe_iconst dX5_find_0 kc_0 ?_
  refine xe_istore dX5_find_1 (by decide) rfl ?_
  refine xe_fin (L' := (fun (i_ : Nat) (s1 : Unit) => [(0, .ref 8), (1, .int (nI ns.length)), (2, .long (q_e5 x)), (4, .int (nI i_))]) 0 ()) (h' := (fun (_ : Nat) (_ : Unit) => h) 0 ()) ?_ (And.intro rfl (And.intro rfl (And.intro rfl (And.intro rfl trivial)))) rfl
  refine xe_loopW (σ := Unit) (ns.length) (fun i _ => tx_find x ns 0 = tx_find x (ns.drop i) i) (fun (i_ : Nat) (s1 : Unit) => [(0, .ref 8), (1, .int (nI ns.length)), (2, .long (q_e5 x)), (4, .int (nI i_))]) (fun (_ : Nat) (_ : Unit) => h) () (rfl) (fun i_ hi_ s1 e1 K1 => ?_)
  · refine xe_iload dX5_find_3 rfl ?_
    refine xe_iload_n dX5_find_5 rfl ?_
    refine xn_icmp_ge (tgt := 34) dX5_find_6 rfl (by omega) (by omega) (fun c2 => ?_) (fun c2 => ?_)
    · refine xe_iconst dX5_find_34 kc_m1 ?_
      refine xe_ireturn dX5_find_35 rfl (by first | rfl | decide +kernel) ?_
      exact ⟨congrArg some (congrArg Value.int (show q_ofi (tx_find x ns 0) = q_ofi none from congrArg q_ofi (e1.trans (by rw [List.drop_eq_nil_of_le (by omega)] <;> rfl))).symm), rfl⟩
    · have c_i : i_ < ns.length := by omega
      have c_v := hN.2 i_ c_i
      refine xe_iload dX5_find_9 rfl ?_
      refine xe_aload_n dX5_find_11 rfl ?_
      refine xe_alen dX5_find_12 (st8 hs) (by decide) ⟨3, _, rfl⟩ (v := nI 8) rfl ?_
      refine xn_icmp_ge (tgt := 34) dX5_find_13 rfl (by omega) (by omega) (fun c3 => ?_) (fun c3 => ?_)
      · omega
      · refine xe_aload_n dX5_find_16 rfl ?_
        refine xe_iload dX5_find_17 rfl ?_
        refine xn_laldv dX5_find_19 (st8 hs) (by omega) (by decide) (v := (q_e5 (ns.getD i_ []))) (c_v.1) ?_
        refine xe_lload_n dX5_find_20 rfl ?_
        refine xe_lcmp dX5_find_21 ?_
        refine xe_if_ne (tgt := 28) dX5_find_22 rfl (fun c4 => ?_) (fun c4 => ?_)
        · have c_ne : ¬ ns.getD i_ [] = x := fun q => c4 (q_cmp0.mpr (by rw [q]))
          refine xn_iinc dX5_find_28 rfl kc_1 ?_
          refine xe_goto (tgt := 3) dX5_find_31 rfl ?_
          exact xe_fin (K1 (by omega) () (by rw [e1, tx_find_st c_i, if_neg c_ne])) (And.intro rfl (And.intro rfl (And.intro rfl (And.intro rfl trivial)))) rfl
        · refine xe_iload dX5_find_25 rfl ?_
          refine xe_ireturn dX5_find_27 rfl (by first | rfl | decide +kernel) ?_
          exact ⟨congrArg some (congrArg Value.int (congrArg q_ofi (e1.trans ((tx_find_st c_i).trans (if_pos ((q_e5_inj c_v.2 hx).mp (q_cmp0.mp c4)))))).symm), rfl⟩
theorem c_X5_find9 (l : Launch) (g : q_GP) (h : q_H) (hs : q_Stat h) {ns : List (List Nat)} (hN : ck_N h 9 ns) {x : List Nat} (hx : nm_ok x) : q_Cd l g 0 mX5_find [.ref 9, .int (nI ns.length), .long (q_e5 x)] h (some (.int (q_ofi (tx_find x ns 0)))) h := by
  have hl8 := hN.1
  refine q_CdS msX5_find (Nat.le_of_ble_eq_true rfl) ?_
  refine xe_iconst dX5_find_0 kc_0 ?_
  refine xe_istore dX5_find_1 (by decide) rfl ?_
  refine xe_fin (L' := (fun (i_ : Nat) (s1 : Unit) => [(0, .ref 9), (1, .int (nI ns.length)), (2, .long (q_e5 x)), (4, .int (nI i_))]) 0 ()) (h' := (fun (_ : Nat) (_ : Unit) => h) 0 ()) ?_ (And.intro rfl (And.intro rfl (And.intro rfl (And.intro rfl trivial)))) rfl
  refine xe_loopW (σ := Unit) (ns.length) (fun i _ => tx_find x ns 0 = tx_find x (ns.drop i) i) (fun (i_ : Nat) (s1 : Unit) => [(0, .ref 9), (1, .int (nI ns.length)), (2, .long (q_e5 x)), (4, .int (nI i_))]) (fun (_ : Nat) (_ : Unit) => h) () (rfl) (fun i_ hi_ s1 e1 K1 => ?_)
  · refine xe_iload dX5_find_3 rfl ?_
    refine xe_iload_n dX5_find_5 rfl ?_
    refine xn_icmp_ge (tgt := 34) dX5_find_6 rfl (by omega) (by omega) (fun c2 => ?_) (fun c2 => ?_)
    · refine xe_iconst dX5_find_34 kc_m1 ?_
      refine xe_ireturn dX5_find_35 rfl (by first | rfl | decide +kernel) ?_
      exact ⟨congrArg some (congrArg Value.int (show q_ofi (tx_find x ns 0) = q_ofi none from congrArg q_ofi (e1.trans (by rw [List.drop_eq_nil_of_le (by omega)] <;> rfl))).symm), rfl⟩
    · have c_i : i_ < ns.length := by omega
      have c_v := hN.2 i_ c_i
      refine xe_iload dX5_find_9 rfl ?_
      refine xe_aload_n dX5_find_11 rfl ?_
      refine xe_alen dX5_find_12 (st9 hs) (by decide) ⟨3, _, rfl⟩ (v := nI 8) rfl ?_
      refine xn_icmp_ge (tgt := 34) dX5_find_13 rfl (by omega) (by omega) (fun c3 => ?_) (fun c3 => ?_)
      · omega
      · refine xe_aload_n dX5_find_16 rfl ?_
        refine xe_iload dX5_find_17 rfl ?_
        refine xn_laldv dX5_find_19 (st9 hs) (by omega) (by decide) (v := (q_e5 (ns.getD i_ []))) (c_v.1) ?_
        refine xe_lload_n dX5_find_20 rfl ?_
        refine xe_lcmp dX5_find_21 ?_
        refine xe_if_ne (tgt := 28) dX5_find_22 rfl (fun c4 => ?_) (fun c4 => ?_)
        · have c_ne : ¬ ns.getD i_ [] = x := fun q => c4 (q_cmp0.mpr (by rw [q]))
          refine xn_iinc dX5_find_28 rfl kc_1 ?_
          refine xe_goto (tgt := 3) dX5_find_31 rfl ?_
          exact xe_fin (K1 (by omega) () (by rw [e1, tx_find_st c_i, if_neg c_ne])) (And.intro rfl (And.intro rfl (And.intro rfl (And.intro rfl trivial)))) rfl
        · refine xe_iload dX5_find_25 rfl ?_
          refine xe_ireturn dX5_find_27 rfl (by first | rfl | decide +kernel) ?_
          exact ⟨congrArg some (congrArg Value.int (congrArg q_ofi (e1.trans ((tx_find_st c_i).trans (if_pos ((q_e5_inj c_v.2 hx).mp (q_cmp0.mp c4)))))).symm), rfl⟩
theorem ck_R_t {h : q_H} {K : q_TK} {m p t : Nat} {h1 : q_H} (hR : ck_R h K m p t) (e2 : q_P h1 7 = q_P h 7) (e3 : q_I h1 3 = q_I h 3) (e4 : q_I h1 4 = q_I h 4) (e5 : q_J h1 5 = q_J h 5) {t' : Nat} (ht : t' ≤ m) (a4 : q_I h1 7 4 = nI t') (a5 : q_I h1 7 5 = q_kap (tk_T K t')) : ck_R h1 K m p t' := by
  obtain ⟨r1, r2, r3, r4, r5, r6⟩ := hR
  refine ⟨by rw [e2]; exact r1, by rw [e2]; exact r2, ?_, ht, a4, a5⟩
  unfold ck_T
  rw [e3, e4, e5]
  exact r3
theorem c_X5_takeInt_t (l : Launch) (g : q_GP) (h : q_H) (hs : q_Stat h) {K : q_TK} {m p t : Nat} (hR : ck_R h K m p t) {e : Option (Nat × Nat)} (hlf : q_lfv K (q_I h 7 9) (q_I h 7 10) e) {lo hi : Nat} (hlo : lo < 2 ^ 20) (hhi : hi < 2 ^ 20) (hck : tx_ck (tk_T K) 2 t = none) : q_Ct l g 1 mX5_takeInt [.ref 7, .int (nI lo), .int (nI hi)] h (fun r h1 => r = some (.int (nI 1)) ∧ ∃ a b, h1 = q_wI h 7 (upd (upd (upd (upd (upd (q_I h 7) 4 (nI (t + 1))) 5 (q_kap (tk_T K (t + 1)))) 6 (nI (tk_V K t))) 9 a) 10 b) ∧ q_lfv K a b (tx_lf e (decide (tk_V K t < lo ∨ hi < tk_V K t)) 5 t)) := by
  obtain ⟨R2, R3, hT, ht, h4, h5⟩ := id hR
  obtain ⟨hm4, hme, hti⟩ := id hT
  obtain ⟨z1, z2, z3, z4, z5, z6⟩ := hti t ht
  obtain ⟨hk, ht4⟩ := tx_ck_none hck
  have hgo : t + 1 ≤ m := ck_go hT ht ht4 (by omega) (by omega)
  have hv := z6 hk
  have hv2 := hv.2
  refine q_CtV mvX5_takeInt (Nat.le_of_ble_eq_true rfl) ?_
  refine xe_aload_n dX5_takeInt_0 rfl ?_
  refine xe_getIv dX5_takeInt_1 flX5_33 (st7 hs) (by decide) rfl (v := nI t) (h4) ?_
  refine xe_istore_n (i := 3) dX5_takeInt_4 rfl (by decide) rfl ?_
  refine xe_aload_n dX5_takeInt_5 rfl ?_
  refine xe_iconst dX5_takeInt_6 kc_2 ?_
  refine xe_callVI (d' := 0) (y' := mX5_take) dX5_takeInt_7 mlX5_63 mvX5_take rfl (st7 hs) (by decide) rfl (by decide) (by decide) (Nat.le_of_ble_eq_true rfl) (c_X5_take_t l g _ (by exact hs) (by exact hR) (k := 2) (by decide) (by decide) (by decide) hck) rfl ?_
  refine xn_if_ne (tgt := 15) dX5_takeInt_10 rfl (by omega) (fun c1 => ?_) (fun c1 => ?_)
  · refine xe_aload_n dX5_takeInt_15 rfl ?_
    refine xe_aload_n dX5_takeInt_16 rfl ?_
    refine xe_getP dX5_takeInt_17 flX5_22 (st7 hs) (by decide) rfl R2 ?_
    refine xe_getP dX5_takeInt_20 flX5_67 (st1 hs) (by decide) rfl (sp1_4 hs) ?_
    refine xe_iload_n dX5_takeInt_23 rfl ?_
    refine xn_laldv dX5_takeInt_24 (st5 hs) (by omega) (by decide) (v := (q_J h 5 t)) (rfl) ?_
    refine xe_l2i dX5_takeInt_25 rfl ?_
    refine xe_top (v' := nI (tk_V K t)) (hv.1) ?_
    refine xe_putI dX5_takeInt_26 flX5_70 (st7 hs) (by decide) rfl (Or.inl rfl) rfl rfl ?_
    refine xe_aload_n dX5_takeInt_29 rfl ?_
    refine xe_getIv dX5_takeInt_30 flX5_70 (st7 hs) (by decide) rfl (v := nI (tk_V K t)) (rfl) ?_
    refine xe_iload_n dX5_takeInt_33 rfl ?_
    refine xn_icmp_lt (tgt := 45) dX5_takeInt_34 rfl (by omega) (by omega) (fun c2 => ?_) (fun c2 => ?_)
    · refine xe_aload_n dX5_takeInt_45 rfl ?_
      refine xe_iconst dX5_takeInt_46 kc_5 ?_
      refine xe_iload_n dX5_takeInt_47 rfl ?_
      refine xe_callVVq (d' := 0) (y' := mX5_failLater) dX5_takeInt_48 mlX5_73 mvX5_failLater rfl (st7 hs) (by decide) rfl (by decide) (by decide) (Nat.le_of_ble_eq_true rfl) (c_X5_failLater l g _ (p := p) (t := t + 1) (by exact hs) (by refine (ck_R_t (t' := t + 1) hR ?_ ?_ ?_ ?_ hgo ?_ ?_) <;> exact rfl) (by exact hlf) (k := 5) (u := t) (by decide) (by decide) ht) rfl (fun h1 hq => ?_)
      obtain ⟨a_, b_, rfl, hl2⟩ := hq
      refine xe_iconst dX5_takeInt_51 kc_1 ?_
      refine xe_ireturn dX5_takeInt_52 rfl (by first | rfl | decide +kernel) ?_
      refine ⟨rfl, a_, b_, (q_heq [7] (H := h) (by repeat (first | exact q_out_r | refine q_out_w rfl ?_)) (by repeat (first | exact q_out_r | refine q_out_w rfl ?_)) (And.intro (q_feq [4, 5, 6, 9, 10] (f := q_I h 7) (by repeat (first | exact q_fout_r | refine q_fout_w rfl ?_)) (by repeat (first | exact q_fout_r | refine q_fout_w rfl ?_)) (And.intro rfl (And.intro rfl (And.intro rfl (And.intro rfl (And.intro rfl trivial)))))) trivial)), ?_⟩
      rw [show decide (tk_V K t < lo ∨ hi < tk_V K t) = true from decide_eq_true (by omega)]
      exact hl2
    · refine xe_aload_n dX5_takeInt_37 rfl ?_
      refine xe_getIv dX5_takeInt_38 flX5_70 (st7 hs) (by decide) rfl (v := nI (tk_V K t)) (rfl) ?_
      refine xe_iload_n dX5_takeInt_41 rfl ?_
      refine xn_icmp_le (tgt := 51) dX5_takeInt_42 rfl (by omega) (by omega) (fun c3 => ?_) (fun c3 => ?_)
      · refine xe_iconst dX5_takeInt_51 kc_1 ?_
        refine xe_ireturn dX5_takeInt_52 rfl (by first | rfl | decide +kernel) ?_
        refine ⟨rfl, q_I h 7 9, q_I h 7 10, (q_heq [7] (H := h) (by repeat (first | exact q_out_r | refine q_out_w rfl ?_)) (by repeat (first | exact q_out_r | refine q_out_w rfl ?_)) (And.intro (q_feq [4, 5, 6, 9, 10] (f := q_I h 7) (by repeat (first | exact q_fout_r | refine q_fout_w rfl ?_)) (by repeat (first | exact q_fout_r | refine q_fout_w rfl ?_)) (And.intro rfl (And.intro rfl (And.intro rfl (And.intro rfl (And.intro rfl trivial)))))) trivial)), ?_⟩
        rw [show decide (tk_V K t < lo ∨ hi < tk_V K t) = false from decide_eq_false (by omega)]
        rw [show tx_lf e false 5 t = e by cases e <;> rfl]
        exact hlf
      · refine xe_aload_n dX5_takeInt_45 rfl ?_
        refine xe_iconst dX5_takeInt_46 kc_5 ?_
        refine xe_iload_n dX5_takeInt_47 rfl ?_
        refine xe_callVVq (d' := 0) (y' := mX5_failLater) dX5_takeInt_48 mlX5_73 mvX5_failLater rfl (st7 hs) (by decide) rfl (by decide) (by decide) (Nat.le_of_ble_eq_true rfl) (c_X5_failLater l g _ (p := p) (t := t + 1) (by exact hs) (by refine (ck_R_t (t' := t + 1) hR ?_ ?_ ?_ ?_ hgo ?_ ?_) <;> exact rfl) (by exact hlf) (k := 5) (u := t) (by decide) (by decide) ht) rfl (fun h1 hq => ?_)
        obtain ⟨a_, b_, rfl, hl2⟩ := hq
        refine xe_iconst dX5_takeInt_51 kc_1 ?_
        refine xe_ireturn dX5_takeInt_52 rfl (by first | rfl | decide +kernel) ?_
        refine ⟨rfl, a_, b_, (q_heq [7] (H := h) (by repeat (first | exact q_out_r | refine q_out_w rfl ?_)) (by repeat (first | exact q_out_r | refine q_out_w rfl ?_)) (And.intro (q_feq [4, 5, 6, 9, 10] (f := q_I h 7) (by repeat (first | exact q_fout_r | refine q_fout_w rfl ?_)) (by repeat (first | exact q_fout_r | refine q_fout_w rfl ?_)) (And.intro rfl (And.intro rfl (And.intro rfl (And.intro rfl (And.intro rfl trivial)))))) trivial)), ?_⟩
        rw [show decide (tk_V K t < lo ∨ hi < tk_V K t) = true from decide_eq_true (by omega)]
        exact hl2
  · omega
theorem c_X5_takeInt_f (l : Launch) (g : q_GP) (h : q_H) (hs : q_Stat h) {K : q_TK} {m p t : Nat} (hR : ck_R h K m p t) {f u : Nat} (hck : tx_ck (tk_T K) 2 t = some (f, u)) (lo hi : Int32) : q_Cd l g 1 mX5_takeInt [.ref 7, .int lo, .int hi] h (some (.int (nI 0))) (q_wI h 7 (upd (upd (q_I h 7) 7 (nI f)) 8 (nI (tk_P K u)))) := by
  obtain ⟨R2, R3, hT, ht, h4, h5⟩ := id hR
  obtain ⟨hm4, hme, hti⟩ := id hT
  obtain ⟨z1, z2, z3, z4, z5, z6⟩ := hti t ht
  refine q_CdV mvX5_takeInt (Nat.le_of_ble_eq_true rfl) ?_
  refine xe_aload_n dX5_takeInt_0 rfl ?_
  refine xe_getIv dX5_takeInt_1 flX5_33 (st7 hs) (by decide) rfl (v := nI t) (h4) ?_
  refine xe_istore_n (i := 3) dX5_takeInt_4 rfl (by decide) rfl ?_
  refine xe_aload_n dX5_takeInt_5 rfl ?_
  refine xe_iconst dX5_takeInt_6 kc_2 ?_
  refine xe_callVI (d' := 0) (y' := mX5_take) dX5_takeInt_7 mlX5_63 mvX5_take rfl (st7 hs) (by decide) rfl (by decide) (by decide) (Nat.le_of_ble_eq_true rfl) (c_X5_take_f l g _ (by exact hs) (by exact hR) (k := 2) (by decide) (by decide) hck) rfl ?_
  refine xn_if_ne (tgt := 15) dX5_takeInt_10 rfl (by omega) (fun c1 => ?_) (fun c1 => ?_)
  · omega
  · refine xe_iconst dX5_takeInt_13 kc_0 ?_
    refine xe_ireturn dX5_takeInt_14 rfl (by first | rfl | decide +kernel) ?_
    exact ⟨rfl, (q_heq [7] (H := h) (by repeat (first | exact q_out_r | refine q_out_w rfl ?_)) (by repeat (first | exact q_out_r | refine q_out_w rfl ?_)) (And.intro (q_feq [7, 8] (f := q_I h 7) (by repeat (first | exact q_fout_r | refine q_fout_w rfl ?_)) (by repeat (first | exact q_fout_r | refine q_fout_w rfl ?_)) (And.intro rfl (And.intro rfl trivial))) trivial))⟩
theorem q_ofi_m {o : Option Nat} {n : Nat} (h : ∀ i, o = some i → i < n) (hn : n < 2 ^ 31) : q_ofi o = (-1) ↔ o = none := by
  cases o with
  | none => exact ⟨fun _ => rfl, fun _ => rfl⟩
  | some i =>
    have hi := h i rfl
    refine ⟨fun q => ?_, fun q => (by cases q)⟩
    have q : nI i = -1 := q
    have h1 : (0 : Int32) ≤ nI i := nI_pos' (by omega)
    rw [q] at h1
    exact absurd h1 (by decide)
theorem q_ofi_f {x : List Nat} {ns : List (List Nat)} (h8 : ns.length ≤ 8) : q_ofi (tx_find x ns 0) = (-1) ↔ tx_find x ns 0 = none := q_ofi_m (n := 8) (fun i hi => by have := tx_find_lt ns 0 i hi; omega) (by decide)
theorem q_find_s {x : List Nat} {a b : List (List Nat)} (h : ¬ q_ofi (tx_find x a 0) = (-1)) : ((tx_find x a 0).isSome || (tx_find x b 0).isSome) = true := by
  cases ha : tx_find x a 0 with
  | none => rw [ha] at h; exact absurd rfl h
  | some i => rfl
theorem q_find_s2 {x : List Nat} {a b : List (List Nat)} (h : ¬ q_ofi (tx_find x b 0) = (-1)) : ((tx_find x a 0).isSome || (tx_find x b 0).isSome) = true := by
  cases hb : tx_find x b 0 with
  | none => rw [hb] at h; exact absurd rfl h
  | some i => exact Bool.or_true _
theorem q_find_n {x : List Nat} {a b : List (List Nat)} (ha8 : a.length ≤ 8) (hb8 : b.length ≤ 8) (h : q_ofi (tx_find x a 0) = (-1)) (h2 : q_ofi (tx_find x b 0) = (-1)) : ((tx_find x a 0).isSome || (tx_find x b 0).isSome) = false := by
  rw [(q_ofi_f ha8).mp h, (q_ofi_f hb8).mp h2]
  rfl
theorem c_X5_takeNewName810_t (l : Launch) (g : q_GP) (h : q_H) (hs : q_Stat h) {K : q_TK} {m t : Nat} (hR : ck_R h K m 10 t) {e : Option (Nat × Nat)} (hlf : q_lfv K (q_I h 7 9) (q_I h 7 10) e) {nsm nsd : List (List Nat)} (hNm : ck_N h 8 nsm) (hNd : ck_N h 9 nsd) (hn3 : q_I h 10 3 = nI nsm.length) (hn4 : q_I h 10 4 = nI nsd.length) (hn8 : nsm.length < 8) (hck : tx_ck (tk_T K) 1 t = none) : q_Ct l g 1 mX5_takeNewName [.ref 7, .ref 8, .int (nI nsm.length)] h (fun r h1 => r = some (.int (nI 1)) ∧ ∃ a b, h1 = q_wJ (q_wI h 7 (upd (upd (upd (upd (q_I h 7) 4 (nI (t + 1))) 5 (q_kap (tk_T K (t + 1)))) 9 a) 10 b)) 8 (vp_updL (q_J h 8) (nsm.length) (q_e5 (tk_N K t))) ∧ q_lfv K a b (tx_lf e ((tx_find (tk_N K t) nsm 0).isSome || (tx_find (tk_N K t) nsd 0).isSome) 3 t)) := by
  obtain ⟨R2, R3, hT, ht, h4, h5⟩ := id hR
  obtain ⟨hm4, hme, hti⟩ := id hT
  obtain ⟨z1, z2, z3, z4, z5, z6⟩ := hti t ht
  obtain ⟨hk, ht4⟩ := tx_ck_none hck
  have hgo : t + 1 ≤ m := ck_go hT ht ht4 (by omega) (by omega)
  have hv := z5 hk
  have hl8 := hNm.1
  have hl9 := hNd.1
  refine q_CtV mvX5_takeNewName (Nat.le_of_ble_eq_true rfl) ?_
  refine xe_aload_n dX5_takeNewName_0 rfl ?_
  refine xe_getIv dX5_takeNewName_1 flX5_33 (st7 hs) (by decide) rfl (v := nI t) (h4) ?_
  refine xe_istore_n (i := 3) dX5_takeNewName_4 rfl (by decide) rfl ?_
  refine xe_aload_n dX5_takeNewName_5 rfl ?_
  refine xe_iconst dX5_takeNewName_6 kc_1 ?_
  refine xe_callVI (d' := 0) (y' := mX5_take) dX5_takeNewName_7 mlX5_63 mvX5_take rfl (st7 hs) (by decide) rfl (by decide) (by decide) (Nat.le_of_ble_eq_true rfl) (c_X5_take_t l g _ (by exact hs) (by exact hR) (k := 1) (by decide) (by decide) (by decide) hck) rfl ?_
  refine xn_if_ne (tgt := 15) dX5_takeNewName_10 rfl (by omega) (fun c1 => ?_) (fun c1 => ?_)
  · refine xe_aload_n dX5_takeNewName_15 rfl ?_
    refine xe_getP dX5_takeNewName_16 flX5_22 (st7 hs) (by decide) rfl R2 ?_
    refine xe_getP dX5_takeNewName_19 flX5_67 (st1 hs) (by decide) rfl (sp1_4 hs) ?_
    refine xe_iload_n dX5_takeNewName_22 rfl ?_
    refine xn_laldv dX5_takeNewName_23 (st5 hs) (by omega) (by decide) (v := (q_e5 (tk_N K t))) (hv.1) ?_
    refine xe_lstore dX5_takeNewName_24 (by decide) rfl rfl ?_
    refine xe_aload_n dX5_takeNewName_26 rfl ?_
    refine xe_getP dX5_takeNewName_27 flX5_15 (st7 hs) (by decide) rfl (sp7_0 hs) ?_
    refine xe_aload_n dX5_takeNewName_30 rfl ?_
    refine xe_getP dX5_takeNewName_31 flX5_26 (st7 hs) (by decide) rfl R3 ?_
    refine xe_getIv dX5_takeNewName_34 flX5_77 (st10 hs) (by decide) rfl (v := nI nsm.length) (hn3) ?_
    refine xe_lload dX5_takeNewName_37 rfl ?_
    refine xe_callSI (d' := 0) (y' := mX5_find) dX5_takeNewName_39 mlX5_80 msX5_find rfl (by decide) (by decide) (Nat.le_of_ble_eq_true rfl) (c_X5_find8 l g _ (by exact hs) (ns := nsm) (by exact hNm) (x := tk_N K t) hv.2) rfl ?_
    refine xe_iconst dX5_takeNewName_42 kc_m1 ?_
    refine xe_icmp_ne (tgt := 66) dX5_takeNewName_43 rfl (fun c_m => ?_) (fun c_m => ?_)
    · refine xe_aload_n dX5_takeNewName_66 rfl ?_
      refine xe_iconst dX5_takeNewName_67 kc_3 ?_
      refine xe_iload_n dX5_takeNewName_68 rfl ?_
      refine xe_callVVq (d' := 0) (y' := mX5_failLater) dX5_takeNewName_69 mlX5_73 mvX5_failLater rfl (st7 hs) (by decide) rfl (by decide) (by decide) (Nat.le_of_ble_eq_true rfl) (c_X5_failLater l g _ (p := 10) (t := t + 1) (by exact hs) (by refine (ck_R_t (t' := t + 1) hR ?_ ?_ ?_ ?_ hgo ?_ ?_) <;> exact rfl) (by exact hlf) (k := 3) (u := t) (by decide) (by decide) ht) rfl (fun h1 hq => ?_)
      obtain ⟨a_, b_, rfl, hl2⟩ := hq
      refine xe_iload_n dX5_takeNewName_72 rfl ?_
      refine xn_if_lt (tgt := 87) dX5_takeNewName_73 rfl (by omega) ?_
      refine xe_iload_n dX5_takeNewName_76 rfl ?_
      refine xe_aload_n dX5_takeNewName_77 rfl ?_
      refine xe_alen dX5_takeNewName_78 (st8 hs) (by decide) ⟨3, _, rfl⟩ (v := nI 8) rfl ?_
      refine xn_icmp_ge (tgt := 87) dX5_takeNewName_79 rfl (by omega) (by omega) (fun c3 => ?_) (fun c3 => ?_)
      · omega
      · refine xe_aload_n dX5_takeNewName_82 rfl ?_
        refine xe_iload_n dX5_takeNewName_83 rfl ?_
        refine xe_lload dX5_takeNewName_84 rfl ?_
        refine xn_last dX5_takeNewName_86 (st8 hs) (by omega) (by decide) ?_
        refine xe_iconst dX5_takeNewName_87 kc_1 ?_
        refine xe_ireturn dX5_takeNewName_88 rfl (by first | rfl | decide +kernel) ?_
        refine ⟨rfl, a_, b_, (q_heqJ [7] [8] (H := h) (by repeat (first | exact q_outJ_r | refine q_outJ_w rfl ?_ | refine q_outJ_j rfl ?_)) (by repeat (first | exact q_outJ_r | refine q_outJ_w rfl ?_ | refine q_outJ_j rfl ?_)) (And.intro (q_feq [4, 5, 9, 10] (f := q_I h 7) (by repeat (first | exact q_fout_r | refine q_fout_w rfl ?_)) (by repeat (first | exact q_fout_r | refine q_fout_w rfl ?_)) (And.intro rfl (And.intro rfl (And.intro rfl (And.intro rfl trivial))))) trivial) (And.intro rfl trivial)), ?_⟩
        rw [show ((tx_find (tk_N K t) nsm 0).isSome || (tx_find (tk_N K t) nsd 0).isSome) = true from q_find_s c_m]
        exact hl2
    · refine xe_aload_n dX5_takeNewName_46 rfl ?_
      refine xe_getP dX5_takeNewName_47 flX5_19 (st7 hs) (by decide) rfl (sp7_1 hs) ?_
      refine xe_aload_n dX5_takeNewName_50 rfl ?_
      refine xe_getP dX5_takeNewName_51 flX5_26 (st7 hs) (by decide) rfl R3 ?_
      refine xe_getIv dX5_takeNewName_54 flX5_84 (st10 hs) (by decide) rfl (v := nI nsd.length) (hn4) ?_
      refine xe_lload dX5_takeNewName_57 rfl ?_
      refine xe_callSI (d' := 0) (y' := mX5_find) dX5_takeNewName_59 mlX5_80 msX5_find rfl (by decide) (by decide) (Nat.le_of_ble_eq_true rfl) (c_X5_find9 l g _ (by exact hs) (ns := nsd) (by exact hNd) (x := tk_N K t) hv.2) rfl ?_
      refine xe_iconst dX5_takeNewName_62 kc_m1 ?_
      refine xe_icmp_eq (tgt := 72) dX5_takeNewName_63 rfl (fun c_d => ?_) (fun c_d => ?_)
      · refine xe_iload_n dX5_takeNewName_72 rfl ?_
        refine xn_if_lt (tgt := 87) dX5_takeNewName_73 rfl (by omega) ?_
        refine xe_iload_n dX5_takeNewName_76 rfl ?_
        refine xe_aload_n dX5_takeNewName_77 rfl ?_
        refine xe_alen dX5_takeNewName_78 (st8 hs) (by decide) ⟨3, _, rfl⟩ (v := nI 8) rfl ?_
        refine xn_icmp_ge (tgt := 87) dX5_takeNewName_79 rfl (by omega) (by omega) (fun c5 => ?_) (fun c5 => ?_)
        · omega
        · refine xe_aload_n dX5_takeNewName_82 rfl ?_
          refine xe_iload_n dX5_takeNewName_83 rfl ?_
          refine xe_lload dX5_takeNewName_84 rfl ?_
          refine xn_last dX5_takeNewName_86 (st8 hs) (by omega) (by decide) ?_
          refine xe_iconst dX5_takeNewName_87 kc_1 ?_
          refine xe_ireturn dX5_takeNewName_88 rfl (by first | rfl | decide +kernel) ?_
          refine ⟨rfl, q_I h 7 9, q_I h 7 10, (q_heqJ [7] [8] (H := h) (by repeat (first | exact q_outJ_r | refine q_outJ_w rfl ?_ | refine q_outJ_j rfl ?_)) (by repeat (first | exact q_outJ_r | refine q_outJ_w rfl ?_ | refine q_outJ_j rfl ?_)) (And.intro (q_feq [4, 5, 9, 10] (f := q_I h 7) (by repeat (first | exact q_fout_r | refine q_fout_w rfl ?_)) (by repeat (first | exact q_fout_r | refine q_fout_w rfl ?_)) (And.intro rfl (And.intro rfl (And.intro rfl (And.intro rfl trivial))))) trivial) (And.intro rfl trivial)), ?_⟩
          rw [show ((tx_find (tk_N K t) nsm 0).isSome || (tx_find (tk_N K t) nsd 0).isSome) = false from q_find_n hl8 hl9 c_m c_d, show tx_lf e false 3 t = e by cases e <;> rfl]
          exact hlf
      · refine xe_aload_n dX5_takeNewName_66 rfl ?_
        refine xe_iconst dX5_takeNewName_67 kc_3 ?_
        refine xe_iload_n dX5_takeNewName_68 rfl ?_
        refine xe_callVVq (d' := 0) (y' := mX5_failLater) dX5_takeNewName_69 mlX5_73 mvX5_failLater rfl (st7 hs) (by decide) rfl (by decide) (by decide) (Nat.le_of_ble_eq_true rfl) (c_X5_failLater l g _ (p := 10) (t := t + 1) (by exact hs) (by refine (ck_R_t (t' := t + 1) hR ?_ ?_ ?_ ?_ hgo ?_ ?_) <;> exact rfl) (by exact hlf) (k := 3) (u := t) (by decide) (by decide) ht) rfl (fun h1 hq => ?_)
        obtain ⟨a_, b_, rfl, hl2⟩ := hq
        refine xe_iload_n dX5_takeNewName_72 rfl ?_
        refine xn_if_lt (tgt := 87) dX5_takeNewName_73 rfl (by omega) ?_
        refine xe_iload_n dX5_takeNewName_76 rfl ?_
        refine xe_aload_n dX5_takeNewName_77 rfl ?_
        refine xe_alen dX5_takeNewName_78 (st8 hs) (by decide) ⟨3, _, rfl⟩ (v := nI 8) rfl ?_
        refine xn_icmp_ge (tgt := 87) dX5_takeNewName_79 rfl (by omega) (by omega) (fun c7 => ?_) (fun c7 => ?_)
        · omega
        · refine xe_aload_n dX5_takeNewName_82 rfl ?_
          refine xe_iload_n dX5_takeNewName_83 rfl ?_
          refine xe_lload dX5_takeNewName_84 rfl ?_
          refine xn_last dX5_takeNewName_86 (st8 hs) (by omega) (by decide) ?_
          refine xe_iconst dX5_takeNewName_87 kc_1 ?_
          refine xe_ireturn dX5_takeNewName_88 rfl (by first | rfl | decide +kernel) ?_
          refine ⟨rfl, a_, b_, (q_heqJ [7] [8] (H := h) (by repeat (first | exact q_outJ_r | refine q_outJ_w rfl ?_ | refine q_outJ_j rfl ?_)) (by repeat (first | exact q_outJ_r | refine q_outJ_w rfl ?_ | refine q_outJ_j rfl ?_)) (And.intro (q_feq [4, 5, 9, 10] (f := q_I h 7) (by repeat (first | exact q_fout_r | refine q_fout_w rfl ?_)) (by repeat (first | exact q_fout_r | refine q_fout_w rfl ?_)) (And.intro rfl (And.intro rfl (And.intro rfl (And.intro rfl trivial))))) trivial) (And.intro rfl trivial)), ?_⟩
          rw [show ((tx_find (tk_N K t) nsm 0).isSome || (tx_find (tk_N K t) nsd 0).isSome) = true from q_find_s2 c_d]
          exact hl2
  · omega
theorem c_X5_takeNewName822_t (l : Launch) (g : q_GP) (h : q_H) (hs : q_Stat h) {K : q_TK} {m t : Nat} (hR : ck_R h K m 22 t) {e : Option (Nat × Nat)} (hlf : q_lfv K (q_I h 7 9) (q_I h 7 10) e) {nsm nsd : List (List Nat)} (hNm : ck_N h 8 nsm) (hNd : ck_N h 9 nsd) (hn3 : q_I h 22 3 = nI nsm.length) (hn4 : q_I h 22 4 = nI nsd.length) (hn8 : nsm.length < 8) (hck : tx_ck (tk_T K) 1 t = none) : q_Ct l g 1 mX5_takeNewName [.ref 7, .ref 8, .int (nI nsm.length)] h (fun r h1 => r = some (.int (nI 1)) ∧ ∃ a b, h1 = q_wJ (q_wI h 7 (upd (upd (upd (upd (q_I h 7) 4 (nI (t + 1))) 5 (q_kap (tk_T K (t + 1)))) 9 a) 10 b)) 8 (vp_updL (q_J h 8) (nsm.length) (q_e5 (tk_N K t))) ∧ q_lfv K a b (tx_lf e ((tx_find (tk_N K t) nsm 0).isSome || (tx_find (tk_N K t) nsd 0).isSome) 3 t)) := by
  obtain ⟨R2, R3, hT, ht, h4, h5⟩ := id hR
  obtain ⟨hm4, hme, hti⟩ := id hT
  obtain ⟨z1, z2, z3, z4, z5, z6⟩ := hti t ht
  obtain ⟨hk, ht4⟩ := tx_ck_none hck
  have hgo : t + 1 ≤ m := ck_go hT ht ht4 (by omega) (by omega)
  have hv := z5 hk
  have hl8 := hNm.1
  have hl9 := hNd.1
  refine q_CtV mvX5_takeNewName (Nat.le_of_ble_eq_true rfl) ?_
  refine xe_aload_n dX5_takeNewName_0 rfl ?_
  refine xe_getIv dX5_takeNewName_1 flX5_33 (st7 hs) (by decide) rfl (v := nI t) (h4) ?_
  refine xe_istore_n (i := 3) dX5_takeNewName_4 rfl (by decide) rfl ?_
  refine xe_aload_n dX5_takeNewName_5 rfl ?_
  refine xe_iconst dX5_takeNewName_6 kc_1 ?_
  refine xe_callVI (d' := 0) (y' := mX5_take) dX5_takeNewName_7 mlX5_63 mvX5_take rfl (st7 hs) (by decide) rfl (by decide) (by decide) (Nat.le_of_ble_eq_true rfl) (c_X5_take_t l g _ (by exact hs) (by exact hR) (k := 1) (by decide) (by decide) (by decide) hck) rfl ?_
  refine xn_if_ne (tgt := 15) dX5_takeNewName_10 rfl (by omega) (fun c1 => ?_) (fun c1 => ?_)
  · refine xe_aload_n dX5_takeNewName_15 rfl ?_
    refine xe_getP dX5_takeNewName_16 flX5_22 (st7 hs) (by decide) rfl R2 ?_
    refine xe_getP dX5_takeNewName_19 flX5_67 (st1 hs) (by decide) rfl (sp1_4 hs) ?_
    refine xe_iload_n dX5_takeNewName_22 rfl ?_
    refine xn_laldv dX5_takeNewName_23 (st5 hs) (by omega) (by decide) (v := (q_e5 (tk_N K t))) (hv.1) ?_
    refine xe_lstore dX5_takeNewName_24 (by decide) rfl rfl ?_
    refine xe_aload_n dX5_takeNewName_26 rfl ?_
    refine xe_getP dX5_takeNewName_27 flX5_15 (st7 hs) (by decide) rfl (sp7_0 hs) ?_
    refine xe_aload_n dX5_takeNewName_30 rfl ?_
    refine xe_getP dX5_takeNewName_31 flX5_26 (st7 hs) (by decide) rfl R3 ?_
    refine xe_getIv dX5_takeNewName_34 flX5_77 (st22 hs) (by decide) rfl (v := nI nsm.length) (hn3) ?_
    refine xe_lload dX5_takeNewName_37 rfl ?_
    refine xe_callSI (d' := 0) (y' := mX5_find) dX5_takeNewName_39 mlX5_80 msX5_find rfl (by decide) (by decide) (Nat.le_of_ble_eq_true rfl) (c_X5_find8 l g _ (by exact hs) (ns := nsm) (by exact hNm) (x := tk_N K t) hv.2) rfl ?_
    refine xe_iconst dX5_takeNewName_42 kc_m1 ?_
    refine xe_icmp_ne (tgt := 66) dX5_takeNewName_43 rfl (fun c_m => ?_) (fun c_m => ?_)
    · refine xe_aload_n dX5_takeNewName_66 rfl ?_
      refine xe_iconst dX5_takeNewName_67 kc_3 ?_
      refine xe_iload_n dX5_takeNewName_68 rfl ?_
      refine xe_callVVq (d' := 0) (y' := mX5_failLater) dX5_takeNewName_69 mlX5_73 mvX5_failLater rfl (st7 hs) (by decide) rfl (by decide) (by decide) (Nat.le_of_ble_eq_true rfl) (c_X5_failLater l g _ (p := 22) (t := t + 1) (by exact hs) (by refine (ck_R_t (t' := t + 1) hR ?_ ?_ ?_ ?_ hgo ?_ ?_) <;> exact rfl) (by exact hlf) (k := 3) (u := t) (by decide) (by decide) ht) rfl (fun h1 hq => ?_)
      obtain ⟨a_, b_, rfl, hl2⟩ := hq
      refine xe_iload_n dX5_takeNewName_72 rfl ?_
      refine xn_if_lt (tgt := 87) dX5_takeNewName_73 rfl (by omega) ?_
      refine xe_iload_n dX5_takeNewName_76 rfl ?_
      refine xe_aload_n dX5_takeNewName_77 rfl ?_
      refine xe_alen dX5_takeNewName_78 (st8 hs) (by decide) ⟨3, _, rfl⟩ (v := nI 8) rfl ?_
      refine xn_icmp_ge (tgt := 87) dX5_takeNewName_79 rfl (by omega) (by omega) (fun c3 => ?_) (fun c3 => ?_)
      · omega
      · refine xe_aload_n dX5_takeNewName_82 rfl ?_
        refine xe_iload_n dX5_takeNewName_83 rfl ?_
        refine xe_lload dX5_takeNewName_84 rfl ?_
        refine xn_last dX5_takeNewName_86 (st8 hs) (by omega) (by decide) ?_
        refine xe_iconst dX5_takeNewName_87 kc_1 ?_
        refine xe_ireturn dX5_takeNewName_88 rfl (by first | rfl | decide +kernel) ?_
        refine ⟨rfl, a_, b_, (q_heqJ [7] [8] (H := h) (by repeat (first | exact q_outJ_r | refine q_outJ_w rfl ?_ | refine q_outJ_j rfl ?_)) (by repeat (first | exact q_outJ_r | refine q_outJ_w rfl ?_ | refine q_outJ_j rfl ?_)) (And.intro (q_feq [4, 5, 9, 10] (f := q_I h 7) (by repeat (first | exact q_fout_r | refine q_fout_w rfl ?_)) (by repeat (first | exact q_fout_r | refine q_fout_w rfl ?_)) (And.intro rfl (And.intro rfl (And.intro rfl (And.intro rfl trivial))))) trivial) (And.intro rfl trivial)), ?_⟩
        rw [show ((tx_find (tk_N K t) nsm 0).isSome || (tx_find (tk_N K t) nsd 0).isSome) = true from q_find_s c_m]
        exact hl2
    · refine xe_aload_n dX5_takeNewName_46 rfl ?_
      refine xe_getP dX5_takeNewName_47 flX5_19 (st7 hs) (by decide) rfl (sp7_1 hs) ?_
      refine xe_aload_n dX5_takeNewName_50 rfl ?_
      refine xe_getP dX5_takeNewName_51 flX5_26 (st7 hs) (by decide) rfl R3 ?_
      refine xe_getIv dX5_takeNewName_54 flX5_84 (st22 hs) (by decide) rfl (v := nI nsd.length) (hn4) ?_
      refine xe_lload dX5_takeNewName_57 rfl ?_
      refine xe_callSI (d' := 0) (y' := mX5_find) dX5_takeNewName_59 mlX5_80 msX5_find rfl (by decide) (by decide) (Nat.le_of_ble_eq_true rfl) (c_X5_find9 l g _ (by exact hs) (ns := nsd) (by exact hNd) (x := tk_N K t) hv.2) rfl ?_
      refine xe_iconst dX5_takeNewName_62 kc_m1 ?_
      refine xe_icmp_eq (tgt := 72) dX5_takeNewName_63 rfl (fun c_d => ?_) (fun c_d => ?_)
      · refine xe_iload_n dX5_takeNewName_72 rfl ?_
        refine xn_if_lt (tgt := 87) dX5_takeNewName_73 rfl (by omega) ?_
        refine xe_iload_n dX5_takeNewName_76 rfl ?_
        refine xe_aload_n dX5_takeNewName_77 rfl ?_
        refine xe_alen dX5_takeNewName_78 (st8 hs) (by decide) ⟨3, _, rfl⟩ (v := nI 8) rfl ?_
        refine xn_icmp_ge (tgt := 87) dX5_takeNewName_79 rfl (by omega) (by omega) (fun c5 => ?_) (fun c5 => ?_)
        · omega
        · refine xe_aload_n dX5_takeNewName_82 rfl ?_
          refine xe_iload_n dX5_takeNewName_83 rfl ?_
          refine xe_lload dX5_takeNewName_84 rfl ?_
          refine xn_last dX5_takeNewName_86 (st8 hs) (by omega) (by decide) ?_
          refine xe_iconst dX5_takeNewName_87 kc_1 ?_
          refine xe_ireturn dX5_takeNewName_88 rfl (by first | rfl | decide +kernel) ?_
          refine ⟨rfl, q_I h 7 9, q_I h 7 10, (q_heqJ [7] [8] (H := h) (by repeat (first | exact q_outJ_r | refine q_outJ_w rfl ?_ | refine q_outJ_j rfl ?_)) (by repeat (first | exact q_outJ_r | refine q_outJ_w rfl ?_ | refine q_outJ_j rfl ?_)) (And.intro (q_feq [4, 5, 9, 10] (f := q_I h 7) (by repeat (first | exact q_fout_r | refine q_fout_w rfl ?_)) (by repeat (first | exact q_fout_r | refine q_fout_w rfl ?_)) (And.intro rfl (And.intro rfl (And.intro rfl (And.intro rfl trivial))))) trivial) (And.intro rfl trivial)), ?_⟩
          rw [show ((tx_find (tk_N K t) nsm 0).isSome || (tx_find (tk_N K t) nsd 0).isSome) = false from q_find_n hl8 hl9 c_m c_d, show tx_lf e false 3 t = e by cases e <;> rfl]
          exact hlf
      · refine xe_aload_n dX5_takeNewName_66 rfl ?_
        refine xe_iconst dX5_takeNewName_67 kc_3 ?_
        refine xe_iload_n dX5_takeNewName_68 rfl ?_
        refine xe_callVVq (d' := 0) (y' := mX5_failLater) dX5_takeNewName_69 mlX5_73 mvX5_failLater rfl (st7 hs) (by decide) rfl (by decide) (by decide) (Nat.le_of_ble_eq_true rfl) (c_X5_failLater l g _ (p := 22) (t := t + 1) (by exact hs) (by refine (ck_R_t (t' := t + 1) hR ?_ ?_ ?_ ?_ hgo ?_ ?_) <;> exact rfl) (by exact hlf) (k := 3) (u := t) (by decide) (by decide) ht) rfl (fun h1 hq => ?_)
        obtain ⟨a_, b_, rfl, hl2⟩ := hq
        refine xe_iload_n dX5_takeNewName_72 rfl ?_
        refine xn_if_lt (tgt := 87) dX5_takeNewName_73 rfl (by omega) ?_
        refine xe_iload_n dX5_takeNewName_76 rfl ?_
        refine xe_aload_n dX5_takeNewName_77 rfl ?_
        refine xe_alen dX5_takeNewName_78 (st8 hs) (by decide) ⟨3, _, rfl⟩ (v := nI 8) rfl ?_
        refine xn_icmp_ge (tgt := 87) dX5_takeNewName_79 rfl (by omega) (by omega) (fun c7 => ?_) (fun c7 => ?_)
        · omega
        · refine xe_aload_n dX5_takeNewName_82 rfl ?_
          refine xe_iload_n dX5_takeNewName_83 rfl ?_
          refine xe_lload dX5_takeNewName_84 rfl ?_
          refine xn_last dX5_takeNewName_86 (st8 hs) (by omega) (by decide) ?_
          refine xe_iconst dX5_takeNewName_87 kc_1 ?_
          refine xe_ireturn dX5_takeNewName_88 rfl (by first | rfl | decide +kernel) ?_
          refine ⟨rfl, a_, b_, (q_heqJ [7] [8] (H := h) (by repeat (first | exact q_outJ_r | refine q_outJ_w rfl ?_ | refine q_outJ_j rfl ?_)) (by repeat (first | exact q_outJ_r | refine q_outJ_w rfl ?_ | refine q_outJ_j rfl ?_)) (And.intro (q_feq [4, 5, 9, 10] (f := q_I h 7) (by repeat (first | exact q_fout_r | refine q_fout_w rfl ?_)) (by repeat (first | exact q_fout_r | refine q_fout_w rfl ?_)) (And.intro rfl (And.intro rfl (And.intro rfl (And.intro rfl trivial))))) trivial) (And.intro rfl trivial)), ?_⟩
          rw [show ((tx_find (tk_N K t) nsm 0).isSome || (tx_find (tk_N K t) nsd 0).isSome) = true from q_find_s2 c_d]
          exact hl2
  · omega
theorem c_X5_takeNewName910_t (l : Launch) (g : q_GP) (h : q_H) (hs : q_Stat h) {K : q_TK} {m t : Nat} (hR : ck_R h K m 10 t) {e : Option (Nat × Nat)} (hlf : q_lfv K (q_I h 7 9) (q_I h 7 10) e) {nsm nsd : List (List Nat)} (hNm : ck_N h 8 nsm) (hNd : ck_N h 9 nsd) (hn3 : q_I h 10 3 = nI nsm.length) (hn4 : q_I h 10 4 = nI nsd.length) (hn8 : nsd.length < 8) (hck : tx_ck (tk_T K) 1 t = none) : q_Ct l g 1 mX5_takeNewName [.ref 7, .ref 9, .int (nI nsd.length)] h (fun r h1 => r = some (.int (nI 1)) ∧ ∃ a b, h1 = q_wJ (q_wI h 7 (upd (upd (upd (upd (q_I h 7) 4 (nI (t + 1))) 5 (q_kap (tk_T K (t + 1)))) 9 a) 10 b)) 9 (vp_updL (q_J h 9) (nsd.length) (q_e5 (tk_N K t))) ∧ q_lfv K a b (tx_lf e ((tx_find (tk_N K t) nsm 0).isSome || (tx_find (tk_N K t) nsd 0).isSome) 3 t)) := by
  obtain ⟨R2, R3, hT, ht, h4, h5⟩ := id hR
  obtain ⟨hm4, hme, hti⟩ := id hT
  obtain ⟨z1, z2, z3, z4, z5, z6⟩ := hti t ht
  obtain ⟨hk, ht4⟩ := tx_ck_none hck
  have hgo : t + 1 ≤ m := ck_go hT ht ht4 (by omega) (by omega)
  have hv := z5 hk
  have hl8 := hNm.1
  have hl9 := hNd.1
  refine q_CtV mvX5_takeNewName (Nat.le_of_ble_eq_true rfl) ?_
  refine xe_aload_n dX5_takeNewName_0 rfl ?_
  refine xe_getIv dX5_takeNewName_1 flX5_33 (st7 hs) (by decide) rfl (v := nI t) (h4) ?_
  refine xe_istore_n (i := 3) dX5_takeNewName_4 rfl (by decide) rfl ?_
  refine xe_aload_n dX5_takeNewName_5 rfl ?_
  refine xe_iconst dX5_takeNewName_6 kc_1 ?_
  refine xe_callVI (d' := 0) (y' := mX5_take) dX5_takeNewName_7 mlX5_63 mvX5_take rfl (st7 hs) (by decide) rfl (by decide) (by decide) (Nat.le_of_ble_eq_true rfl) (c_X5_take_t l g _ (by exact hs) (by exact hR) (k := 1) (by decide) (by decide) (by decide) hck) rfl ?_
  refine xn_if_ne (tgt := 15) dX5_takeNewName_10 rfl (by omega) (fun c1 => ?_) (fun c1 => ?_)
  · refine xe_aload_n dX5_takeNewName_15 rfl ?_
    refine xe_getP dX5_takeNewName_16 flX5_22 (st7 hs) (by decide) rfl R2 ?_
    refine xe_getP dX5_takeNewName_19 flX5_67 (st1 hs) (by decide) rfl (sp1_4 hs) ?_
    refine xe_iload_n dX5_takeNewName_22 rfl ?_
    refine xn_laldv dX5_takeNewName_23 (st5 hs) (by omega) (by decide) (v := (q_e5 (tk_N K t))) (hv.1) ?_
    refine xe_lstore dX5_takeNewName_24 (by decide) rfl rfl ?_
    refine xe_aload_n dX5_takeNewName_26 rfl ?_
    refine xe_getP dX5_takeNewName_27 flX5_15 (st7 hs) (by decide) rfl (sp7_0 hs) ?_
    refine xe_aload_n dX5_takeNewName_30 rfl ?_
    refine xe_getP dX5_takeNewName_31 flX5_26 (st7 hs) (by decide) rfl R3 ?_
    refine xe_getIv dX5_takeNewName_34 flX5_77 (st10 hs) (by decide) rfl (v := nI nsm.length) (hn3) ?_
    refine xe_lload dX5_takeNewName_37 rfl ?_
    refine xe_callSI (d' := 0) (y' := mX5_find) dX5_takeNewName_39 mlX5_80 msX5_find rfl (by decide) (by decide) (Nat.le_of_ble_eq_true rfl) (c_X5_find8 l g _ (by exact hs) (ns := nsm) (by exact hNm) (x := tk_N K t) hv.2) rfl ?_
    refine xe_iconst dX5_takeNewName_42 kc_m1 ?_
    refine xe_icmp_ne (tgt := 66) dX5_takeNewName_43 rfl (fun c_m => ?_) (fun c_m => ?_)
    · refine xe_aload_n dX5_takeNewName_66 rfl ?_
      refine xe_iconst dX5_takeNewName_67 kc_3 ?_
      refine xe_iload_n dX5_takeNewName_68 rfl ?_
      refine xe_callVVq (d' := 0) (y' := mX5_failLater) dX5_takeNewName_69 mlX5_73 mvX5_failLater rfl (st7 hs) (by decide) rfl (by decide) (by decide) (Nat.le_of_ble_eq_true rfl) (c_X5_failLater l g _ (p := 10) (t := t + 1) (by exact hs) (by refine (ck_R_t (t' := t + 1) hR ?_ ?_ ?_ ?_ hgo ?_ ?_) <;> exact rfl) (by exact hlf) (k := 3) (u := t) (by decide) (by decide) ht) rfl (fun h1 hq => ?_)
      obtain ⟨a_, b_, rfl, hl2⟩ := hq
      refine xe_iload_n dX5_takeNewName_72 rfl ?_
      refine xn_if_lt (tgt := 87) dX5_takeNewName_73 rfl (by omega) ?_
      refine xe_iload_n dX5_takeNewName_76 rfl ?_
      refine xe_aload_n dX5_takeNewName_77 rfl ?_
      refine xe_alen dX5_takeNewName_78 (st9 hs) (by decide) ⟨3, _, rfl⟩ (v := nI 8) rfl ?_
      refine xn_icmp_ge (tgt := 87) dX5_takeNewName_79 rfl (by omega) (by omega) (fun c3 => ?_) (fun c3 => ?_)
      · omega
      · refine xe_aload_n dX5_takeNewName_82 rfl ?_
        refine xe_iload_n dX5_takeNewName_83 rfl ?_
        refine xe_lload dX5_takeNewName_84 rfl ?_
        refine xn_last dX5_takeNewName_86 (st9 hs) (by omega) (by decide) ?_
        refine xe_iconst dX5_takeNewName_87 kc_1 ?_
        refine xe_ireturn dX5_takeNewName_88 rfl (by first | rfl | decide +kernel) ?_
        refine ⟨rfl, a_, b_, (q_heqJ [7] [9] (H := h) (by repeat (first | exact q_outJ_r | refine q_outJ_w rfl ?_ | refine q_outJ_j rfl ?_)) (by repeat (first | exact q_outJ_r | refine q_outJ_w rfl ?_ | refine q_outJ_j rfl ?_)) (And.intro (q_feq [4, 5, 9, 10] (f := q_I h 7) (by repeat (first | exact q_fout_r | refine q_fout_w rfl ?_)) (by repeat (first | exact q_fout_r | refine q_fout_w rfl ?_)) (And.intro rfl (And.intro rfl (And.intro rfl (And.intro rfl trivial))))) trivial) (And.intro rfl trivial)), ?_⟩
        rw [show ((tx_find (tk_N K t) nsm 0).isSome || (tx_find (tk_N K t) nsd 0).isSome) = true from q_find_s c_m]
        exact hl2
    · refine xe_aload_n dX5_takeNewName_46 rfl ?_
      refine xe_getP dX5_takeNewName_47 flX5_19 (st7 hs) (by decide) rfl (sp7_1 hs) ?_
      refine xe_aload_n dX5_takeNewName_50 rfl ?_
      refine xe_getP dX5_takeNewName_51 flX5_26 (st7 hs) (by decide) rfl R3 ?_
      refine xe_getIv dX5_takeNewName_54 flX5_84 (st10 hs) (by decide) rfl (v := nI nsd.length) (hn4) ?_
      refine xe_lload dX5_takeNewName_57 rfl ?_
      refine xe_callSI (d' := 0) (y' := mX5_find) dX5_takeNewName_59 mlX5_80 msX5_find rfl (by decide) (by decide) (Nat.le_of_ble_eq_true rfl) (c_X5_find9 l g _ (by exact hs) (ns := nsd) (by exact hNd) (x := tk_N K t) hv.2) rfl ?_
      refine xe_iconst dX5_takeNewName_62 kc_m1 ?_
      refine xe_icmp_eq (tgt := 72) dX5_takeNewName_63 rfl (fun c_d => ?_) (fun c_d => ?_)
      · refine xe_iload_n dX5_takeNewName_72 rfl ?_
        refine xn_if_lt (tgt := 87) dX5_takeNewName_73 rfl (by omega) ?_
        refine xe_iload_n dX5_takeNewName_76 rfl ?_
        refine xe_aload_n dX5_takeNewName_77 rfl ?_
        refine xe_alen dX5_takeNewName_78 (st9 hs) (by decide) ⟨3, _, rfl⟩ (v := nI 8) rfl ?_
        refine xn_icmp_ge (tgt := 87) dX5_takeNewName_79 rfl (by omega) (by omega) (fun c5 => ?_) (fun c5 => ?_)
        · omega
        · refine xe_aload_n dX5_takeNewName_82 rfl ?_
          refine xe_iload_n dX5_takeNewName_83 rfl ?_
          refine xe_lload dX5_takeNewName_84 rfl ?_
          refine xn_last dX5_takeNewName_86 (st9 hs) (by omega) (by decide) ?_
          refine xe_iconst dX5_takeNewName_87 kc_1 ?_
          refine xe_ireturn dX5_takeNewName_88 rfl (by first | rfl | decide +kernel) ?_
          refine ⟨rfl, q_I h 7 9, q_I h 7 10, (q_heqJ [7] [9] (H := h) (by repeat (first | exact q_outJ_r | refine q_outJ_w rfl ?_ | refine q_outJ_j rfl ?_)) (by repeat (first | exact q_outJ_r | refine q_outJ_w rfl ?_ | refine q_outJ_j rfl ?_)) (And.intro (q_feq [4, 5, 9, 10] (f := q_I h 7) (by repeat (first | exact q_fout_r | refine q_fout_w rfl ?_)) (by repeat (first | exact q_fout_r | refine q_fout_w rfl ?_)) (And.intro rfl (And.intro rfl (And.intro rfl (And.intro rfl trivial))))) trivial) (And.intro rfl trivial)), ?_⟩
          rw [show ((tx_find (tk_N K t) nsm 0).isSome || (tx_find (tk_N K t) nsd 0).isSome) = false from q_find_n hl8 hl9 c_m c_d, show tx_lf e false 3 t = e by cases e <;> rfl]
          exact hlf
      · refine xe_aload_n dX5_takeNewName_66 rfl ?_
        refine xe_iconst dX5_takeNewName_67 kc_3 ?_
        refine xe_iload_n dX5_takeNewName_68 rfl ?_
        refine xe_callVVq (d' := 0) (y' := mX5_failLater) dX5_takeNewName_69 mlX5_73 mvX5_failLater rfl (st7 hs) (by decide) rfl (by decide) (by decide) (Nat.le_of_ble_eq_true rfl) (c_X5_failLater l g _ (p := 10) (t := t + 1) (by exact hs) (by refine (ck_R_t (t' := t + 1) hR ?_ ?_ ?_ ?_ hgo ?_ ?_) <;> exact rfl) (by exact hlf) (k := 3) (u := t) (by decide) (by decide) ht) rfl (fun h1 hq => ?_)
        obtain ⟨a_, b_, rfl, hl2⟩ := hq
        refine xe_iload_n dX5_takeNewName_72 rfl ?_
        refine xn_if_lt (tgt := 87) dX5_takeNewName_73 rfl (by omega) ?_
        refine xe_iload_n dX5_takeNewName_76 rfl ?_
        refine xe_aload_n dX5_takeNewName_77 rfl ?_
        refine xe_alen dX5_takeNewName_78 (st9 hs) (by decide) ⟨3, _, rfl⟩ (v := nI 8) rfl ?_
        refine xn_icmp_ge (tgt := 87) dX5_takeNewName_79 rfl (by omega) (by omega) (fun c7 => ?_) (fun c7 => ?_)
        · omega
        · refine xe_aload_n dX5_takeNewName_82 rfl ?_
          refine xe_iload_n dX5_takeNewName_83 rfl ?_
          refine xe_lload dX5_takeNewName_84 rfl ?_
          refine xn_last dX5_takeNewName_86 (st9 hs) (by omega) (by decide) ?_
          refine xe_iconst dX5_takeNewName_87 kc_1 ?_
          refine xe_ireturn dX5_takeNewName_88 rfl (by first | rfl | decide +kernel) ?_
          refine ⟨rfl, a_, b_, (q_heqJ [7] [9] (H := h) (by repeat (first | exact q_outJ_r | refine q_outJ_w rfl ?_ | refine q_outJ_j rfl ?_)) (by repeat (first | exact q_outJ_r | refine q_outJ_w rfl ?_ | refine q_outJ_j rfl ?_)) (And.intro (q_feq [4, 5, 9, 10] (f := q_I h 7) (by repeat (first | exact q_fout_r | refine q_fout_w rfl ?_)) (by repeat (first | exact q_fout_r | refine q_fout_w rfl ?_)) (And.intro rfl (And.intro rfl (And.intro rfl (And.intro rfl trivial))))) trivial) (And.intro rfl trivial)), ?_⟩
          rw [show ((tx_find (tk_N K t) nsm 0).isSome || (tx_find (tk_N K t) nsd 0).isSome) = true from q_find_s2 c_d]
          exact hl2
  · omega
theorem c_X5_takeNewName922_t (l : Launch) (g : q_GP) (h : q_H) (hs : q_Stat h) {K : q_TK} {m t : Nat} (hR : ck_R h K m 22 t) {e : Option (Nat × Nat)} (hlf : q_lfv K (q_I h 7 9) (q_I h 7 10) e) {nsm nsd : List (List Nat)} (hNm : ck_N h 8 nsm) (hNd : ck_N h 9 nsd) (hn3 : q_I h 22 3 = nI nsm.length) (hn4 : q_I h 22 4 = nI nsd.length) (hn8 : nsd.length < 8) (hck : tx_ck (tk_T K) 1 t = none) : q_Ct l g 1 mX5_takeNewName [.ref 7, .ref 9, .int (nI nsd.length)] h (fun r h1 => r = some (.int (nI 1)) ∧ ∃ a b, h1 = q_wJ (q_wI h 7 (upd (upd (upd (upd (q_I h 7) 4 (nI (t + 1))) 5 (q_kap (tk_T K (t + 1)))) 9 a) 10 b)) 9 (vp_updL (q_J h 9) (nsd.length) (q_e5 (tk_N K t))) ∧ q_lfv K a b (tx_lf e ((tx_find (tk_N K t) nsm 0).isSome || (tx_find (tk_N K t) nsd 0).isSome) 3 t)) := by
  obtain ⟨R2, R3, hT, ht, h4, h5⟩ := id hR
  obtain ⟨hm4, hme, hti⟩ := id hT
  obtain ⟨z1, z2, z3, z4, z5, z6⟩ := hti t ht
  obtain ⟨hk, ht4⟩ := tx_ck_none hck
  have hgo : t + 1 ≤ m := ck_go hT ht ht4 (by omega) (by omega)
  have hv := z5 hk
  have hl8 := hNm.1
  have hl9 := hNd.1
  refine q_CtV mvX5_takeNewName (Nat.le_of_ble_eq_true rfl) ?_
  refine xe_aload_n dX5_takeNewName_0 rfl ?_
  refine xe_getIv dX5_takeNewName_1 flX5_33 (st7 hs) (by decide) rfl (v := nI t) (h4) ?_
  refine xe_istore_n (i := 3) dX5_takeNewName_4 rfl (by decide) rfl ?_
  refine xe_aload_n dX5_takeNewName_5 rfl ?_
  refine xe_iconst dX5_takeNewName_6 kc_1 ?_
  refine xe_callVI (d' := 0) (y' := mX5_take) dX5_takeNewName_7 mlX5_63 mvX5_take rfl (st7 hs) (by decide) rfl (by decide) (by decide) (Nat.le_of_ble_eq_true rfl) (c_X5_take_t l g _ (by exact hs) (by exact hR) (k := 1) (by decide) (by decide) (by decide) hck) rfl ?_
  refine xn_if_ne (tgt := 15) dX5_takeNewName_10 rfl (by omega) (fun c1 => ?_) (fun c1 => ?_)
  · refine xe_aload_n dX5_takeNewName_15 rfl ?_
    refine xe_getP dX5_takeNewName_16 flX5_22 (st7 hs) (by decide) rfl R2 ?_
    refine xe_getP dX5_takeNewName_19 flX5_67 (st1 hs) (by decide) rfl (sp1_4 hs) ?_
    refine xe_iload_n dX5_takeNewName_22 rfl ?_
    refine xn_laldv dX5_takeNewName_23 (st5 hs) (by omega) (by decide) (v := (q_e5 (tk_N K t))) (hv.1) ?_
    refine xe_lstore dX5_takeNewName_24 (by decide) rfl rfl ?_
    refine xe_aload_n dX5_takeNewName_26 rfl ?_
    refine xe_getP dX5_takeNewName_27 flX5_15 (st7 hs) (by decide) rfl (sp7_0 hs) ?_
    refine xe_aload_n dX5_takeNewName_30 rfl ?_
    refine xe_getP dX5_takeNewName_31 flX5_26 (st7 hs) (by decide) rfl R3 ?_
    refine xe_getIv dX5_takeNewName_34 flX5_77 (st22 hs) (by decide) rfl (v := nI nsm.length) (hn3) ?_
    refine xe_lload dX5_takeNewName_37 rfl ?_
    refine xe_callSI (d' := 0) (y' := mX5_find) dX5_takeNewName_39 mlX5_80 msX5_find rfl (by decide) (by decide) (Nat.le_of_ble_eq_true rfl) (c_X5_find8 l g _ (by exact hs) (ns := nsm) (by exact hNm) (x := tk_N K t) hv.2) rfl ?_
    refine xe_iconst dX5_takeNewName_42 kc_m1 ?_
    refine xe_icmp_ne (tgt := 66) dX5_takeNewName_43 rfl (fun c_m => ?_) (fun c_m => ?_)
    · refine xe_aload_n dX5_takeNewName_66 rfl ?_
      refine xe_iconst dX5_takeNewName_67 kc_3 ?_
      refine xe_iload_n dX5_takeNewName_68 rfl ?_
      refine xe_callVVq (d' := 0) (y' := mX5_failLater) dX5_takeNewName_69 mlX5_73 mvX5_failLater rfl (st7 hs) (by decide) rfl (by decide) (by decide) (Nat.le_of_ble_eq_true rfl) (c_X5_failLater l g _ (p := 22) (t := t + 1) (by exact hs) (by refine (ck_R_t (t' := t + 1) hR ?_ ?_ ?_ ?_ hgo ?_ ?_) <;> exact rfl) (by exact hlf) (k := 3) (u := t) (by decide) (by decide) ht) rfl (fun h1 hq => ?_)
      obtain ⟨a_, b_, rfl, hl2⟩ := hq
      refine xe_iload_n dX5_takeNewName_72 rfl ?_
      refine xn_if_lt (tgt := 87) dX5_takeNewName_73 rfl (by omega) ?_
      refine xe_iload_n dX5_takeNewName_76 rfl ?_
      refine xe_aload_n dX5_takeNewName_77 rfl ?_
      refine xe_alen dX5_takeNewName_78 (st9 hs) (by decide) ⟨3, _, rfl⟩ (v := nI 8) rfl ?_
      refine xn_icmp_ge (tgt := 87) dX5_takeNewName_79 rfl (by omega) (by omega) (fun c3 => ?_) (fun c3 => ?_)
      · omega
      · refine xe_aload_n dX5_takeNewName_82 rfl ?_
        refine xe_iload_n dX5_takeNewName_83 rfl ?_
        refine xe_lload dX5_takeNewName_84 rfl ?_
        refine xn_last dX5_takeNewName_86 (st9 hs) (by omega) (by decide) ?_
        refine xe_iconst dX5_takeNewName_87 kc_1 ?_
        refine xe_ireturn dX5_takeNewName_88 rfl (by first | rfl | decide +kernel) ?_
        refine ⟨rfl, a_, b_, (q_heqJ [7] [9] (H := h) (by repeat (first | exact q_outJ_r | refine q_outJ_w rfl ?_ | refine q_outJ_j rfl ?_)) (by repeat (first | exact q_outJ_r | refine q_outJ_w rfl ?_ | refine q_outJ_j rfl ?_)) (And.intro (q_feq [4, 5, 9, 10] (f := q_I h 7) (by repeat (first | exact q_fout_r | refine q_fout_w rfl ?_)) (by repeat (first | exact q_fout_r | refine q_fout_w rfl ?_)) (And.intro rfl (And.intro rfl (And.intro rfl (And.intro rfl trivial))))) trivial) (And.intro rfl trivial)), ?_⟩
        rw [show ((tx_find (tk_N K t) nsm 0).isSome || (tx_find (tk_N K t) nsd 0).isSome) = true from q_find_s c_m]
        exact hl2
    · refine xe_aload_n dX5_takeNewName_46 rfl ?_
      refine xe_getP dX5_takeNewName_47 flX5_19 (st7 hs) (by decide) rfl (sp7_1 hs) ?_
      refine xe_aload_n dX5_takeNewName_50 rfl ?_
      refine xe_getP dX5_takeNewName_51 flX5_26 (st7 hs) (by decide) rfl R3 ?_
      refine xe_getIv dX5_takeNewName_54 flX5_84 (st22 hs) (by decide) rfl (v := nI nsd.length) (hn4) ?_
      refine xe_lload dX5_takeNewName_57 rfl ?_
      refine xe_callSI (d' := 0) (y' := mX5_find) dX5_takeNewName_59 mlX5_80 msX5_find rfl (by decide) (by decide) (Nat.le_of_ble_eq_true rfl) (c_X5_find9 l g _ (by exact hs) (ns := nsd) (by exact hNd) (x := tk_N K t) hv.2) rfl ?_
      refine xe_iconst dX5_takeNewName_62 kc_m1 ?_
      refine xe_icmp_eq (tgt := 72) dX5_takeNewName_63 rfl (fun c_d => ?_) (fun c_d => ?_)
      · refine xe_iload_n dX5_takeNewName_72 rfl ?_
        refine xn_if_lt (tgt := 87) dX5_takeNewName_73 rfl (by omega) ?_
        refine xe_iload_n dX5_takeNewName_76 rfl ?_
        refine xe_aload_n dX5_takeNewName_77 rfl ?_
        refine xe_alen dX5_takeNewName_78 (st9 hs) (by decide) ⟨3, _, rfl⟩ (v := nI 8) rfl ?_
        refine xn_icmp_ge (tgt := 87) dX5_takeNewName_79 rfl (by omega) (by omega) (fun c5 => ?_) (fun c5 => ?_)
        · omega
        · refine xe_aload_n dX5_takeNewName_82 rfl ?_
          refine xe_iload_n dX5_takeNewName_83 rfl ?_
          refine xe_lload dX5_takeNewName_84 rfl ?_
          refine xn_last dX5_takeNewName_86 (st9 hs) (by omega) (by decide) ?_
          refine xe_iconst dX5_takeNewName_87 kc_1 ?_
          refine xe_ireturn dX5_takeNewName_88 rfl (by first | rfl | decide +kernel) ?_
          refine ⟨rfl, q_I h 7 9, q_I h 7 10, (q_heqJ [7] [9] (H := h) (by repeat (first | exact q_outJ_r | refine q_outJ_w rfl ?_ | refine q_outJ_j rfl ?_)) (by repeat (first | exact q_outJ_r | refine q_outJ_w rfl ?_ | refine q_outJ_j rfl ?_)) (And.intro (q_feq [4, 5, 9, 10] (f := q_I h 7) (by repeat (first | exact q_fout_r | refine q_fout_w rfl ?_)) (by repeat (first | exact q_fout_r | refine q_fout_w rfl ?_)) (And.intro rfl (And.intro rfl (And.intro rfl (And.intro rfl trivial))))) trivial) (And.intro rfl trivial)), ?_⟩
          rw [show ((tx_find (tk_N K t) nsm 0).isSome || (tx_find (tk_N K t) nsd 0).isSome) = false from q_find_n hl8 hl9 c_m c_d, show tx_lf e false 3 t = e by cases e <;> rfl]
          exact hlf
      · refine xe_aload_n dX5_takeNewName_66 rfl ?_
        refine xe_iconst dX5_takeNewName_67 kc_3 ?_
        refine xe_iload_n dX5_takeNewName_68 rfl ?_
        refine xe_callVVq (d' := 0) (y' := mX5_failLater) dX5_takeNewName_69 mlX5_73 mvX5_failLater rfl (st7 hs) (by decide) rfl (by decide) (by decide) (Nat.le_of_ble_eq_true rfl) (c_X5_failLater l g _ (p := 22) (t := t + 1) (by exact hs) (by refine (ck_R_t (t' := t + 1) hR ?_ ?_ ?_ ?_ hgo ?_ ?_) <;> exact rfl) (by exact hlf) (k := 3) (u := t) (by decide) (by decide) ht) rfl (fun h1 hq => ?_)
        obtain ⟨a_, b_, rfl, hl2⟩ := hq
        refine xe_iload_n dX5_takeNewName_72 rfl ?_
        refine xn_if_lt (tgt := 87) dX5_takeNewName_73 rfl (by omega) ?_
        refine xe_iload_n dX5_takeNewName_76 rfl ?_
        refine xe_aload_n dX5_takeNewName_77 rfl ?_
        refine xe_alen dX5_takeNewName_78 (st9 hs) (by decide) ⟨3, _, rfl⟩ (v := nI 8) rfl ?_
        refine xn_icmp_ge (tgt := 87) dX5_takeNewName_79 rfl (by omega) (by omega) (fun c7 => ?_) (fun c7 => ?_)
        · omega
        · refine xe_aload_n dX5_takeNewName_82 rfl ?_
          refine xe_iload_n dX5_takeNewName_83 rfl ?_
          refine xe_lload dX5_takeNewName_84 rfl ?_
          refine xn_last dX5_takeNewName_86 (st9 hs) (by omega) (by decide) ?_
          refine xe_iconst dX5_takeNewName_87 kc_1 ?_
          refine xe_ireturn dX5_takeNewName_88 rfl (by first | rfl | decide +kernel) ?_
          refine ⟨rfl, a_, b_, (q_heqJ [7] [9] (H := h) (by repeat (first | exact q_outJ_r | refine q_outJ_w rfl ?_ | refine q_outJ_j rfl ?_)) (by repeat (first | exact q_outJ_r | refine q_outJ_w rfl ?_ | refine q_outJ_j rfl ?_)) (And.intro (q_feq [4, 5, 9, 10] (f := q_I h 7) (by repeat (first | exact q_fout_r | refine q_fout_w rfl ?_)) (by repeat (first | exact q_fout_r | refine q_fout_w rfl ?_)) (And.intro rfl (And.intro rfl (And.intro rfl (And.intro rfl trivial))))) trivial) (And.intro rfl trivial)), ?_⟩
          rw [show ((tx_find (tk_N K t) nsm 0).isSome || (tx_find (tk_N K t) nsd 0).isSome) = true from q_find_s2 c_d]
          exact hl2
  · omega
theorem c_X5_takeNewName_f (l : Launch) (g : q_GP) (h : q_H) (hs : q_Stat h) {K : q_TK} {m p t : Nat} (hR : ck_R h K m p t) {f u : Nat} (hck : tx_ck (tk_T K) 1 t = some (f, u)) (c : Nat) (n : Int32) : q_Cd l g 1 mX5_takeNewName [.ref 7, .ref c, .int n] h (some (.int (nI 0))) (q_wI h 7 (upd (upd (q_I h 7) 7 (nI f)) 8 (nI (tk_P K u)))) := by
  obtain ⟨R2, R3, hT, ht, h4, h5⟩ := id hR
  obtain ⟨hm4, hme, hti⟩ := id hT
  obtain ⟨z1, z2, z3, z4, z5, z6⟩ := hti t ht
  refine q_CdV mvX5_takeNewName (Nat.le_of_ble_eq_true rfl) ?_
  refine xe_aload_n dX5_takeNewName_0 rfl ?_
  refine xe_getIv dX5_takeNewName_1 flX5_33 (st7 hs) (by decide) rfl (v := nI t) (h4) ?_
  refine xe_istore_n (i := 3) dX5_takeNewName_4 rfl (by decide) rfl ?_
  refine xe_aload_n dX5_takeNewName_5 rfl ?_
  refine xe_iconst dX5_takeNewName_6 kc_1 ?_
  refine xe_callVI (d' := 0) (y' := mX5_take) dX5_takeNewName_7 mlX5_63 mvX5_take rfl (st7 hs) (by decide) rfl (by decide) (by decide) (Nat.le_of_ble_eq_true rfl) (c_X5_take_f l g _ (by exact hs) (by exact hR) (k := 1) (by decide) (by decide) hck) rfl ?_
  refine xn_if_ne (tgt := 15) dX5_takeNewName_10 rfl (by omega) (fun c1 => ?_) (fun c1 => ?_)
  · omega
  · refine xe_iconst dX5_takeNewName_13 kc_0 ?_
    refine xe_ireturn dX5_takeNewName_14 rfl (by first | rfl | decide +kernel) ?_
    exact ⟨rfl, (q_heq [7] (H := h) (by repeat (first | exact q_out_r | refine q_out_w rfl ?_)) (by repeat (first | exact q_out_r | refine q_out_w rfl ?_)) (And.intro (q_feq [7, 8] (f := q_I h 7) (by repeat (first | exact q_fout_r | refine q_fout_w rfl ?_)) (by repeat (first | exact q_fout_r | refine q_fout_w rfl ?_)) (And.intro rfl (And.intro rfl trivial))) trivial))⟩
theorem c_X5_takeOldName8_t (l : Launch) (g : q_GP) (h : q_H) (hs : q_Stat h) {K : q_TK} {m p t : Nat} (hR : ck_R h K m p t) {e : Option (Nat × Nat)} (hlf : q_lfv K (q_I h 7 9) (q_I h 7 10) e) {ns : List (List Nat)} (hN : ck_N h 8 ns) (hck : tx_ck (tk_T K) 1 t = none) : q_Ct l g 1 mX5_takeOldName [.ref 7, .ref 8, .int (nI ns.length)] h (fun r h1 => r = some (.int (nI 1)) ∧ ∃ a b, h1 = q_wI h 7 (upd (upd (upd (upd (upd (q_I h 7) 4 (nI (t + 1))) 5 (q_kap (tk_T K (t + 1)))) 6 (q_ofi (tx_find (tk_N K t) ns 0))) 9 a) 10 b) ∧ q_lfv K a b (tx_lf e (tx_find (tk_N K t) ns 0).isNone 4 t)) := by
  obtain ⟨R2, R3, hT, ht, h4, h5⟩ := id hR
  obtain ⟨hm4, hme, hti⟩ := id hT
  obtain ⟨z1, z2, z3, z4, z5, z6⟩ := hti t ht
  obtain ⟨hk, ht4⟩ := tx_ck_none hck
  have hgo : t + 1 ≤ m := ck_go hT ht ht4 (by omega) (by omega)
  have hv := z5 hk
  have hl8 := hN.1
  refine q_CtV mvX5_takeOldName (Nat.le_of_ble_eq_true rfl) ?_
  refine xe_aload_n dX5_takeOldName_0 rfl ?_
  refine xe_getIv dX5_takeOldName_1 flX5_33 (st7 hs) (by decide) rfl (v := nI t) (h4) ?_
  refine xe_istore_n (i := 3) dX5_takeOldName_4 rfl (by decide) rfl ?_
  refine xe_aload_n dX5_takeOldName_5 rfl ?_
  refine xe_iconst dX5_takeOldName_6 kc_1 ?_
  refine xe_callVI (d' := 0) (y' := mX5_take) dX5_takeOldName_7 mlX5_63 mvX5_take rfl (st7 hs) (by decide) rfl (by decide) (by decide) (Nat.le_of_ble_eq_true rfl) (c_X5_take_t l g _ (by exact hs) (by exact hR) (k := 1) (by decide) (by decide) (by decide) hck) rfl ?_
  refine xn_if_ne (tgt := 15) dX5_takeOldName_10 rfl (by omega) (fun c1 => ?_) (fun c1 => ?_)
  · refine xe_aload_n dX5_takeOldName_15 rfl ?_
    refine xe_aload_n dX5_takeOldName_16 rfl ?_
    refine xe_iload_n dX5_takeOldName_17 rfl ?_
    refine xe_aload_n dX5_takeOldName_18 rfl ?_
    refine xe_getP dX5_takeOldName_19 flX5_22 (st7 hs) (by decide) rfl R2 ?_
    refine xe_getP dX5_takeOldName_22 flX5_67 (st1 hs) (by decide) rfl (sp1_4 hs) ?_
    refine xe_iload_n dX5_takeOldName_25 rfl ?_
    refine xn_laldv dX5_takeOldName_26 (st5 hs) (by omega) (by decide) (v := (q_e5 (tk_N K t))) (hv.1) ?_
    refine xe_callSI (d' := 0) (y' := mX5_find) dX5_takeOldName_27 mlX5_80 msX5_find rfl (by decide) (by decide) (Nat.le_of_ble_eq_true rfl) (c_X5_find8 l g _ (by exact hs) (ns := ns) (by exact hN) (x := tk_N K t) hv.2) rfl ?_
    refine xe_putI dX5_takeOldName_30 flX5_70 (st7 hs) (by decide) rfl (Or.inl rfl) rfl rfl ?_
    refine xe_aload_n dX5_takeOldName_33 rfl ?_
    refine xe_getIv dX5_takeOldName_34 flX5_70 (st7 hs) (by decide) rfl (v := (q_ofi (tx_find (tk_N K t) ns 0))) (rfl) ?_
    refine xe_iconst dX5_takeOldName_37 kc_m1 ?_
    refine xe_icmp_ne (tgt := 47) dX5_takeOldName_38 rfl (fun c_m => ?_) (fun c_m => ?_)
    · refine xe_iconst dX5_takeOldName_47 kc_1 ?_
      refine xe_ireturn dX5_takeOldName_48 rfl (by first | rfl | decide +kernel) ?_
      refine ⟨rfl, q_I h 7 9, q_I h 7 10, (q_heq [7] (H := h) (by repeat (first | exact q_out_r | refine q_out_w rfl ?_)) (by repeat (first | exact q_out_r | refine q_out_w rfl ?_)) (And.intro (q_feq [4, 5, 6, 9, 10] (f := q_I h 7) (by repeat (first | exact q_fout_r | refine q_fout_w rfl ?_)) (by repeat (first | exact q_fout_r | refine q_fout_w rfl ?_)) (And.intro rfl (And.intro rfl (And.intro rfl (And.intro rfl (And.intro rfl trivial)))))) trivial)), ?_⟩
      rw [show (tx_find (tk_N K t) ns 0).isNone = false by cases hh : tx_find (tk_N K t) ns 0 with | none => exact absurd (by rw [hh]; rfl) c_m | some i => rfl, show tx_lf e false 4 t = e by cases e <;> rfl]
      exact hlf
    · refine xe_aload_n dX5_takeOldName_41 rfl ?_
      refine xe_iconst dX5_takeOldName_42 kc_4 ?_
      refine xe_iload_n dX5_takeOldName_43 rfl ?_
      refine xe_callVVq (d' := 0) (y' := mX5_failLater) dX5_takeOldName_44 mlX5_73 mvX5_failLater rfl (st7 hs) (by decide) rfl (by decide) (by decide) (Nat.le_of_ble_eq_true rfl) (c_X5_failLater l g _ (p := p) (t := t + 1) (by exact hs) (by refine (ck_R_t (t' := t + 1) hR ?_ ?_ ?_ ?_ hgo ?_ ?_) <;> exact rfl) (by exact hlf) (k := 4) (u := t) (by decide) (by decide) ht) rfl (fun h1 hq => ?_)
      obtain ⟨a_, b_, rfl, hl2⟩ := hq
      refine xe_iconst dX5_takeOldName_47 kc_1 ?_
      refine xe_ireturn dX5_takeOldName_48 rfl (by first | rfl | decide +kernel) ?_
      refine ⟨rfl, a_, b_, (q_heq [7] (H := h) (by repeat (first | exact q_out_r | refine q_out_w rfl ?_)) (by repeat (first | exact q_out_r | refine q_out_w rfl ?_)) (And.intro (q_feq [4, 5, 6, 9, 10] (f := q_I h 7) (by repeat (first | exact q_fout_r | refine q_fout_w rfl ?_)) (by repeat (first | exact q_fout_r | refine q_fout_w rfl ?_)) (And.intro rfl (And.intro rfl (And.intro rfl (And.intro rfl (And.intro rfl trivial)))))) trivial)), ?_⟩
      rw [show (tx_find (tk_N K t) ns 0).isNone = true by rw [(q_ofi_f hl8).mp c_m]; rfl]
      exact hl2
  · omega
theorem c_X5_takeOldName9_t (l : Launch) (g : q_GP) (h : q_H) (hs : q_Stat h) {K : q_TK} {m p t : Nat} (hR : ck_R h K m p t) {e : Option (Nat × Nat)} (hlf : q_lfv K (q_I h 7 9) (q_I h 7 10) e) {ns : List (List Nat)} (hN : ck_N h 9 ns) (hck : tx_ck (tk_T K) 1 t = none) : q_Ct l g 1 mX5_takeOldName [.ref 7, .ref 9, .int (nI ns.length)] h (fun r h1 => r = some (.int (nI 1)) ∧ ∃ a b, h1 = q_wI h 7 (upd (upd (upd (upd (upd (q_I h 7) 4 (nI (t + 1))) 5 (q_kap (tk_T K (t + 1)))) 6 (q_ofi (tx_find (tk_N K t) ns 0))) 9 a) 10 b) ∧ q_lfv K a b (tx_lf e (tx_find (tk_N K t) ns 0).isNone 4 t)) := by
  obtain ⟨R2, R3, hT, ht, h4, h5⟩ := id hR
  obtain ⟨hm4, hme, hti⟩ := id hT
  obtain ⟨z1, z2, z3, z4, z5, z6⟩ := hti t ht
  obtain ⟨hk, ht4⟩ := tx_ck_none hck
  have hgo : t + 1 ≤ m := ck_go hT ht ht4 (by omega) (by omega)
  have hv := z5 hk
  have hl8 := hN.1
  refine q_CtV mvX5_takeOldName (Nat.le_of_ble_eq_true rfl) ?_
  refine xe_aload_n dX5_takeOldName_0 rfl ?_
  refine xe_getIv dX5_takeOldName_1 flX5_33 (st7 hs) (by decide) rfl (v := nI t) (h4) ?_
  refine xe_istore_n (i := 3) dX5_takeOldName_4 rfl (by decide) rfl ?_
  refine xe_aload_n dX5_takeOldName_5 rfl ?_
  refine xe_iconst dX5_takeOldName_6 kc_1 ?_
  refine xe_callVI (d' := 0) (y' := mX5_take) dX5_takeOldName_7 mlX5_63 mvX5_take rfl (st7 hs) (by decide) rfl (by decide) (by decide) (Nat.le_of_ble_eq_true rfl) (c_X5_take_t l g _ (by exact hs) (by exact hR) (k := 1) (by decide) (by decide) (by decide) hck) rfl ?_
  refine xn_if_ne (tgt := 15) dX5_takeOldName_10 rfl (by omega) (fun c1 => ?_) (fun c1 => ?_)
  · refine xe_aload_n dX5_takeOldName_15 rfl ?_
    refine xe_aload_n dX5_takeOldName_16 rfl ?_
    refine xe_iload_n dX5_takeOldName_17 rfl ?_
    refine xe_aload_n dX5_takeOldName_18 rfl ?_
    refine xe_getP dX5_takeOldName_19 flX5_22 (st7 hs) (by decide) rfl R2 ?_
    refine xe_getP dX5_takeOldName_22 flX5_67 (st1 hs) (by decide) rfl (sp1_4 hs) ?_
    refine xe_iload_n dX5_takeOldName_25 rfl ?_
    refine xn_laldv dX5_takeOldName_26 (st5 hs) (by omega) (by decide) (v := (q_e5 (tk_N K t))) (hv.1) ?_
    refine xe_callSI (d' := 0) (y' := mX5_find) dX5_takeOldName_27 mlX5_80 msX5_find rfl (by decide) (by decide) (Nat.le_of_ble_eq_true rfl) (c_X5_find9 l g _ (by exact hs) (ns := ns) (by exact hN) (x := tk_N K t) hv.2) rfl ?_
    refine xe_putI dX5_takeOldName_30 flX5_70 (st7 hs) (by decide) rfl (Or.inl rfl) rfl rfl ?_
    refine xe_aload_n dX5_takeOldName_33 rfl ?_
    refine xe_getIv dX5_takeOldName_34 flX5_70 (st7 hs) (by decide) rfl (v := (q_ofi (tx_find (tk_N K t) ns 0))) (rfl) ?_
    refine xe_iconst dX5_takeOldName_37 kc_m1 ?_
    refine xe_icmp_ne (tgt := 47) dX5_takeOldName_38 rfl (fun c_m => ?_) (fun c_m => ?_)
    · refine xe_iconst dX5_takeOldName_47 kc_1 ?_
      refine xe_ireturn dX5_takeOldName_48 rfl (by first | rfl | decide +kernel) ?_
      refine ⟨rfl, q_I h 7 9, q_I h 7 10, (q_heq [7] (H := h) (by repeat (first | exact q_out_r | refine q_out_w rfl ?_)) (by repeat (first | exact q_out_r | refine q_out_w rfl ?_)) (And.intro (q_feq [4, 5, 6, 9, 10] (f := q_I h 7) (by repeat (first | exact q_fout_r | refine q_fout_w rfl ?_)) (by repeat (first | exact q_fout_r | refine q_fout_w rfl ?_)) (And.intro rfl (And.intro rfl (And.intro rfl (And.intro rfl (And.intro rfl trivial)))))) trivial)), ?_⟩
      rw [show (tx_find (tk_N K t) ns 0).isNone = false by cases hh : tx_find (tk_N K t) ns 0 with | none => exact absurd (by rw [hh]; rfl) c_m | some i => rfl, show tx_lf e false 4 t = e by cases e <;> rfl]
      exact hlf
    · refine xe_aload_n dX5_takeOldName_41 rfl ?_
      refine xe_iconst dX5_takeOldName_42 kc_4 ?_
      refine xe_iload_n dX5_takeOldName_43 rfl ?_
      refine xe_callVVq (d' := 0) (y' := mX5_failLater) dX5_takeOldName_44 mlX5_73 mvX5_failLater rfl (st7 hs) (by decide) rfl (by decide) (by decide) (Nat.le_of_ble_eq_true rfl) (c_X5_failLater l g _ (p := p) (t := t + 1) (by exact hs) (by refine (ck_R_t (t' := t + 1) hR ?_ ?_ ?_ ?_ hgo ?_ ?_) <;> exact rfl) (by exact hlf) (k := 4) (u := t) (by decide) (by decide) ht) rfl (fun h1 hq => ?_)
      obtain ⟨a_, b_, rfl, hl2⟩ := hq
      refine xe_iconst dX5_takeOldName_47 kc_1 ?_
      refine xe_ireturn dX5_takeOldName_48 rfl (by first | rfl | decide +kernel) ?_
      refine ⟨rfl, a_, b_, (q_heq [7] (H := h) (by repeat (first | exact q_out_r | refine q_out_w rfl ?_)) (by repeat (first | exact q_out_r | refine q_out_w rfl ?_)) (And.intro (q_feq [4, 5, 6, 9, 10] (f := q_I h 7) (by repeat (first | exact q_fout_r | refine q_fout_w rfl ?_)) (by repeat (first | exact q_fout_r | refine q_fout_w rfl ?_)) (And.intro rfl (And.intro rfl (And.intro rfl (And.intro rfl (And.intro rfl trivial)))))) trivial)), ?_⟩
      rw [show (tx_find (tk_N K t) ns 0).isNone = true by rw [(q_ofi_f hl8).mp c_m]; rfl]
      exact hl2
  · omega
theorem c_X5_takeOldName_f (l : Launch) (g : q_GP) (h : q_H) (hs : q_Stat h) {K : q_TK} {m p t : Nat} (hR : ck_R h K m p t) {f u : Nat} (hck : tx_ck (tk_T K) 1 t = some (f, u)) (c : Nat) (n : Int32) : q_Cd l g 1 mX5_takeOldName [.ref 7, .ref c, .int n] h (some (.int (nI 0))) (q_wI h 7 (upd (upd (q_I h 7) 7 (nI f)) 8 (nI (tk_P K u)))) := by
  obtain ⟨R2, R3, hT, ht, h4, h5⟩ := id hR
  obtain ⟨hm4, hme, hti⟩ := id hT
  obtain ⟨z1, z2, z3, z4, z5, z6⟩ := hti t ht
  refine q_CdV mvX5_takeOldName (Nat.le_of_ble_eq_true rfl) ?_
  refine xe_aload_n dX5_takeOldName_0 rfl ?_
  refine xe_getIv dX5_takeOldName_1 flX5_33 (st7 hs) (by decide) rfl (v := nI t) (h4) ?_
  refine xe_istore_n (i := 3) dX5_takeOldName_4 rfl (by decide) rfl ?_
  refine xe_aload_n dX5_takeOldName_5 rfl ?_
  refine xe_iconst dX5_takeOldName_6 kc_1 ?_
  refine xe_callVI (d' := 0) (y' := mX5_take) dX5_takeOldName_7 mlX5_63 mvX5_take rfl (st7 hs) (by decide) rfl (by decide) (by decide) (Nat.le_of_ble_eq_true rfl) (c_X5_take_f l g _ (by exact hs) (by exact hR) (k := 1) (by decide) (by decide) hck) rfl ?_
  refine xn_if_ne (tgt := 15) dX5_takeOldName_10 rfl (by omega) (fun c1 => ?_) (fun c1 => ?_)
  · omega
  · refine xe_iconst dX5_takeOldName_13 kc_0 ?_
    refine xe_ireturn dX5_takeOldName_14 rfl (by first | rfl | decide +kernel) ?_
    exact ⟨rfl, (q_heq [7] (H := h) (by repeat (first | exact q_out_r | refine q_out_w rfl ?_)) (by repeat (first | exact q_out_r | refine q_out_w rfl ?_)) (And.intro (q_feq [7, 8] (f := q_I h 7) (by repeat (first | exact q_fout_r | refine q_fout_w rfl ?_)) (by repeat (first | exact q_fout_r | refine q_fout_w rfl ?_)) (And.intro rfl (And.intro rfl trivial))) trivial))⟩
