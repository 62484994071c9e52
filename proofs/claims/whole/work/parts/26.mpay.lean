/-! the reference: payments -/
/-- set without k -/
def q_del (s k : Nat) : Nat := s - 2 ^ k
theorem q_bit_del : ∀ (s : Fin 256) (k : Fin 8), q_bit (nI s.1) k.1 = true → nI s.1 &&& (nI 1 <<< (nI k.1 &&& 31) ^^^ -1) = nI (q_del s.1 k.1) ∧ q_del s.1 k.1 < s.1 := by decide +kernel
theorem q_bit_delN {s k : Nat} (hs : s < 256) (hk : k < 8) (h : q_bit (nI s) k = true) : nI s &&& (nI 1 <<< (nI k &&& 31) ^^^ -1) = nI (q_del s k) ∧ q_del s k < s := q_bit_del ⟨s, hs⟩ ⟨k, hk⟩ h
/-- the sum of f over the first n of a set -/
def q_ss (f : Nat → Int32) (s : Nat) : Nat → Int32
  | 0 => nI 0
  | n + 1 => if q_bit (nI s) n then q_ss f s n + f n else q_ss f s n
/-- the most of what a set without one has, over the first n -/
def q_sm (G : Nat → Int32) (s : Nat) : Nat → Int32
  | 0 => nI 0
  | n + 1 => if q_bit (nI s) n ∧ q_sm G s n < G (q_del s n) then G (q_del s n) else q_sm G s n
def q_nbR (N : Nat → Int32) (f : Nat → Int32) (nm : Nat) (n : Nat) : Nat → Int32 := q_fil (fun s => q_ss f s nm) N n
/-- the groups behind n sets -/
def q_gpR (G f : Nat → Int32) (nm : Nat) : Nat → Nat → Int32
  | 0 => G
  | n + 1 => upd (q_gpR G f nm n) n (if 0 < n ∧ q_ss f n nm = 0 then q_sm (q_gpR G f nm n) n nm + nI 1 else q_sm (q_gpR G f nm n) n nm)
/-- scratch of payments -/
def q_py (h : q_H) (N G : Nat → Int32) : q_H := q_wI (q_wI h 159 N) 160 G
theorem q_py_N (h : q_H) (N G N' : Nat → Int32) : q_wI (q_py h N G) 159 N' = q_py h N' G := q_w2 h (by decide) _ _ _
theorem q_py_G (h : q_H) (N G G' : Nat → Int32) : q_wI (q_py h N G) 160 G' = q_py h N G' := q_wwI _ _ _ _
theorem q_py_0 (h : q_H) : h = q_py h (q_I h 159) (q_I h 160) := by
  unfold q_py
  rw [q_wsI]
  exact (q_wsI h 160).symm
/-- the men whose net is not 0 -/
def q_nz (f : Nat → Int32) (n : Nat) : Int32 := q_set (fun k => !(decide (f k = 0))) n
theorem q_updsame {f : Nat → Int32} {k : Nat} {x y : Int32} : upd (upd f k x) k y = upd f k y := q_upd_upd f k x y
/-- net of a man -/
def q_net (R : Nat → Int32) (x : Nat) : Int32 := q_sum (fun k => R (72 + 8 * k + x) - R (72 + 8 * x + k)) 8
theorem q_nz_lt : ∀ (f : Nat → Bool) (n : Nat), n ≤ 8 → ∃ s, s < 2 ^ n ∧ q_set f n = nI s
  | f, 0, _ => ⟨0, by decide, rfl⟩
  | f, n + 1, hn => by
    obtain ⟨s, hs, he⟩ := q_nz_lt f n (by omega)
    unfold q_set
    have hp : (2 : Nat) ^ (n + 1) = 2 ^ n + 2 ^ n := by rw [Nat.pow_succ]; omega
    split
    · refine ⟨s + 2 ^ n, by omega, ?_⟩
      rw [he]
      have key : ∀ (n : Fin 8) (s : Fin 128), s.1 < 2 ^ n.1 → nI s.1 ||| nI 1 <<< (nI n.1 &&& 31) = nI (s.1 + 2 ^ n.1) := by decide +kernel
      have hs2 : s < 128 := Nat.lt_of_lt_of_le hs (Nat.le_trans (Nat.pow_le_pow_right (by decide) (show n ≤ 7 by omega)) (by decide))
      exact key ⟨n, by omega⟩ ⟨s, hs2⟩ hs
    · exact ⟨s, by omega, he⟩
def q_payV (G f : Nat → Int32) (nm : Nat) : Int32 := q_sum (fun k => q_nz f nm >>> (nI k &&& 31) &&& nI 1) 8 - q_gpR G f nm 256 (q_nz f nm).toNatClampNeg
set_option maxHeartbeats 4000000 in
theorem c_X10_payments (l : Launch) (g : q_GP) (h : q_H) (hs : q_Stat h) {lv nm nd nc mo : Nat} (hp : rm_P h lv nm nd nc mo) : q_Cd l g 1 mX10_payments [.ref 124] h (some (.int (q_payV (q_I h 160) (q_net (q_I h 154)) nm))) (q_py h (q_nbR (q_I h 159) (q_net (q_I h 154)) nm 256) (q_gpR (q_I h 160) (q_net (q_I h 154)) nm 256)) := by
  obtain ⟨p1, p2, p3, p4, p5, p6, p7, p8, p9, p10⟩ := id hp
  obtain ⟨al, hal, eal⟩ := q_nz_lt (fun k => !(decide ((q_net (q_I h 154)) k = 0))) nm p4
  have hal2 : al < 256 := Nat.lt_of_lt_of_le hal (q_pow_le p4)
  refine q_CdV mvX10_payments (Nat.le_of_ble_eq_true rfl) ?_
  refine xe_iconst dX10_payments_0 kc_0 ?_
  refine xe_istore_n (i := 1) dX10_payments_1 rfl (by decide) rfl ?_
  refine xe_iconst dX10_payments_2 kc_0 ?_
  refine xe_istore_n (i := 2) dX10_payments_3 rfl (by decide) rfl ?_
  refine xe_locals (L' := (fun i => [(0, .ref 124), (1, .int (q_nz (q_net (q_I h 154)) i)), (2, .int (nI i))]) 0) (And.intro rfl (And.intro rfl (And.intro rfl trivial))) ?_
  refine xe_for nm (fun i => [(0, .ref 124), (1, .int (q_nz (q_net (q_I h 154)) i)), (2, .int (nI i))]) (fun _ => h) (fun i hi K => ?_) ?_
  · refine xe_iload_n dX10_payments_4 rfl ?_
    refine xe_aload_n dX10_payments_5 rfl ?_
    refine xe_getP dX10_payments_6 flX10_49 (st124 hs) (by decide) rfl (sp124_24 hs) ?_
    refine xe_aload_n dX10_payments_9 rfl ?_
    refine xe_getIv dX10_payments_10 flX10_228 (st124 hs) (by decide) rfl (v := nI lv) (p1) ?_
    refine xn_ialdv dX10_payments_13 (st135 hs) (by omega) (by decide) (v := nI nm) (p3) ?_
    refine xn_icmp_ge (tgt := 37) dX10_payments_14 rfl (by omega) (by omega) (fun c1 => ?_) (fun c1 => ?_)
    · omega
    · refine xe_aload_n dX10_payments_17 rfl ?_
      refine xe_iload_n dX10_payments_18 rfl ?_
      refine xe_callVI (d' := 0) (y' := mX10_netOf) dX10_payments_19 mlX10_346 mvX10_netOf rfl (st124 hs) (by decide) rfl (by decide) (by decide) (Nat.le_of_ble_eq_true rfl) (c_X10_netOf l g _ (by exact hs) _ (by omega)) rfl ?_
      refine xe_top (v' := (q_net (q_I h 154)) i) rfl ?_
      refine xe_if_eq (tgt := 31) dX10_payments_22 rfl (fun c2 => ?_) (fun c2 => ?_)
      · have c_n : (q_net (q_I h 154)) i = 0 := c2
        refine xn_iinc dX10_payments_31 rfl kc_1 ?_
        refine xe_goto (tgt := 4) dX10_payments_34 rfl ?_
        have eN : q_nz (q_net (q_I h 154)) (i + 1) = q_nz (q_net (q_I h 154)) i := if_neg (by show ¬ (!(decide ((q_net (q_I h 154)) i = 0))) = true; rw [decide_eq_true c_n]; decide)
        refine xe_locals (L' := (fun i => [(0, .ref 124), (1, .int (q_nz (q_net (q_I h 154)) i)), (2, .int (nI i))]) (i + 1)) (And.intro rfl (And.intro (by exact congrArg (fun v => some (Value.int v)) eN.symm) (And.intro rfl trivial))) ?_
        exact K
      · have c_n : ¬ (q_net (q_I h 154)) i = 0 := c2
        refine xe_iload_n dX10_payments_25 rfl ?_
        refine xe_iconst dX10_payments_26 kc_1 ?_
        refine xe_iload_n dX10_payments_27 rfl ?_
        refine xe_ishl dX10_payments_28 ?_
        refine xe_ior dX10_payments_29 ?_
        refine xe_istore_n (i := 1) dX10_payments_30 rfl (by decide) rfl ?_
        refine xn_iinc dX10_payments_31 rfl kc_1 ?_
        refine xe_goto (tgt := 4) dX10_payments_34 rfl ?_
        have eN : q_nz (q_net (q_I h 154)) (i + 1) = q_nz (q_net (q_I h 154)) i ||| nI 1 <<< (nI i &&& 31) := if_pos (by show (!(decide ((q_net (q_I h 154)) i = 0))) = true; rw [decide_eq_false c_n]; rfl)
        refine xe_locals (L' := (fun i => [(0, .ref 124), (1, .int (q_nz (q_net (q_I h 154)) i)), (2, .int (nI i))]) (i + 1)) (And.intro rfl (And.intro (by exact congrArg (fun v => some (Value.int v)) eN.symm) (And.intro rfl trivial))) ?_
        exact K
  · refine xe_iload_n dX10_payments_4 rfl ?_
    refine xe_aload_n dX10_payments_5 rfl ?_
    refine xe_getP dX10_payments_6 flX10_49 (st124 hs) (by decide) rfl (sp124_24 hs) ?_
    refine xe_aload_n dX10_payments_9 rfl ?_
    refine xe_getIv dX10_payments_10 flX10_228 (st124 hs) (by decide) rfl (v := nI lv) (p1) ?_
    refine xn_ialdv dX10_payments_13 (st135 hs) (by omega) (by decide) (v := nI nm) (p3) ?_
    refine xn_icmp_ge (tgt := 37) dX10_payments_14 rfl (by omega) (by omega) (fun c1 => ?_) (fun c1 => ?_)
    · refine xe_iconst dX10_payments_37 kc_0 ?_
      refine xe_istore_n (i := 2) dX10_payments_38 rfl (by decide) rfl ?_
      refine xe_locals (L' := (fun i => [(0, .ref 124), (1, .int (q_nz (q_net (q_I h 154)) nm)), (2, .int (nI i))]) 0) (And.intro rfl (And.intro rfl (And.intro rfl trivial))) ?_
      refine xe_heap (h2 := q_py h (q_nbR (q_I h 159) (q_net (q_I h 154)) nm 0) (q_gpR (q_I h 160) (q_net (q_I h 154)) nm 0)) ((q_py_0 h).trans (by rw [show q_nbR (q_I h 159) (q_net (q_I h 154)) nm 0 = q_I h 159 from q_fil0 _ _]; rfl)) ?_
      refine xe_for 256 (fun i => [(0, .ref 124), (1, .int (q_nz (q_net (q_I h 154)) nm)), (2, .int (nI i))]) (fun i => q_py h (q_nbR (q_I h 159) (q_net (q_I h 154)) nm i) (q_gpR (q_I h 160) (q_net (q_I h 154)) nm i)) (fun i hi K => ?_) ?_
      · refine xe_iload_n dX10_payments_39 rfl ?_
        refine xe_sipush dX10_payments_40 ks_256 ?_
        refine xn_icmp_ge (tgt := 202) dX10_payments_43 rfl (by omega) (by omega) (fun c1 => ?_) (fun c1 => ?_)
        · omega
        · refine xe_aload_n dX10_payments_46 rfl ?_
          refine xe_getP dX10_payments_47 flX10_123 (st124 hs) (by decide) rfl (sp124_53 hs) ?_
          refine xe_iload_n dX10_payments_50 rfl ?_
          refine xe_iconst dX10_payments_51 kc_0 ?_
          refine xn_iast dX10_payments_52 (st159 hs) (by omega) (by decide) ?_
          refine xe_iconst dX10_payments_53 kc_0 ?_
          refine xe_istore_n (i := 3) dX10_payments_54 rfl (by decide) rfl ?_
          refine xe_locals (L' := (fun j => [(0, .ref 124), (1, .int (q_nz (q_net (q_I h 154)) nm)), (2, .int (nI i)), (3, .int (nI j))]) 0) (And.intro rfl (And.intro rfl (And.intro rfl (And.intro rfl trivial)))) ?_
          refine xe_heap (h2 := q_py h (upd (q_nbR (q_I h 159) (q_net (q_I h 154)) nm i) i (q_ss (q_net (q_I h 154)) i 0)) (q_gpR (q_I h 160) (q_net (q_I h 154)) nm i)) (q_py_N _ _ _ _) ?_
          refine xe_for nm (fun j => [(0, .ref 124), (1, .int (q_nz (q_net (q_I h 154)) nm)), (2, .int (nI i)), (3, .int (nI j))]) (fun j => q_py h (upd (q_nbR (q_I h 159) (q_net (q_I h 154)) nm i) i (q_ss (q_net (q_I h 154)) i j)) (q_gpR (q_I h 160) (q_net (q_I h 154)) nm i)) (fun j hj K2 => ?_) ?_
          · refine xe_iload_n dX10_payments_55 rfl ?_
            refine xe_aload_n dX10_payments_56 rfl ?_
            refine xe_getP dX10_payments_57 flX10_49 (st124 hs) (by decide) rfl (sp124_24 hs) ?_
            refine xe_aload_n dX10_payments_60 rfl ?_
            refine xe_getIv dX10_payments_61 flX10_228 (st124 hs) (by decide) rfl (v := nI lv) (p1) ?_
            refine xn_ialdv dX10_payments_64 (st135 hs) (by omega) (by decide) (v := nI nm) (p3) ?_
            refine xn_icmp_ge (tgt := 97) dX10_payments_65 rfl (by omega) (by omega) (fun c1 => ?_) (fun c1 => ?_)
            · omega
            · refine xe_iload_n dX10_payments_68 rfl ?_
              refine xe_iload_n dX10_payments_69 rfl ?_
              refine xe_ishr dX10_payments_70 ?_
              refine xe_iconst dX10_payments_71 kc_1 ?_
              refine xe_iand dX10_payments_72 ?_
              refine xe_iconst dX10_payments_73 kc_1 ?_
              refine xe_icmp_ne (tgt := 91) dX10_payments_74 rfl (fun c2 => ?_) (fun c2 => ?_)
              · have c_b : ¬ q_bit (nI i) j = true := fun q => c2 (of_decide_eq_true q)
                refine xn_iinc dX10_payments_91 rfl kc_1 ?_
                refine xe_goto (tgt := 55) dX10_payments_94 rfl ?_
                have c_e : q_ss (q_net (q_I h 154)) i (j + 1) = q_ss (q_net (q_I h 154)) i j := if_neg c_b
                refine xe_locals (L' := (fun j => [(0, .ref 124), (1, .int (q_nz (q_net (q_I h 154)) nm)), (2, .int (nI i)), (3, .int (nI j))]) (j + 1)) (And.intro rfl (And.intro rfl (And.intro rfl (And.intro rfl trivial)))) ?_
                refine xe_heap (h2 := q_py h (upd (q_nbR (q_I h 159) (q_net (q_I h 154)) nm i) i (q_ss (q_net (q_I h 154)) i (j + 1))) (q_gpR (q_I h 160) (q_net (q_I h 154)) nm i)) (by rw [c_e]) ?_
                exact K2
              · have c_b : q_bit (nI i) j = true := decide_eq_true c2
                refine xe_aload_n dX10_payments_77 rfl ?_
                refine xe_getP dX10_payments_78 flX10_123 (st124 hs) (by decide) rfl (sp124_53 hs) ?_
                refine xe_iload_n dX10_payments_81 rfl ?_
                refine xe_dup2 dX10_payments_82 rfl rfl ?_
                refine xn_iald dX10_payments_83 (st159 hs) (by omega) (by decide) ?_
                refine xe_aload_n dX10_payments_84 rfl ?_
                refine xe_iload_n dX10_payments_85 rfl ?_
                refine xe_callVI (d' := 0) (y' := mX10_netOf) dX10_payments_86 mlX10_346 mvX10_netOf rfl (st124 hs) (by decide) rfl (by decide) (by decide) (Nat.le_of_ble_eq_true rfl) (c_X10_netOf l g _ (by exact hs) _ (by omega)) rfl ?_
                refine xe_top (v' := (q_net (q_I h 154)) j) rfl ?_
                refine xe_iadd dX10_payments_89 ?_
                refine xn_iast dX10_payments_90 (st159 hs) (by omega) (by decide) ?_
                refine xn_iinc dX10_payments_91 rfl kc_1 ?_
                refine xe_goto (tgt := 55) dX10_payments_94 rfl ?_
                have c_e : q_ss (q_net (q_I h 154)) i (j + 1) = q_ss (q_net (q_I h 154)) i j + (q_net (q_I h 154)) j := if_pos c_b
                refine xe_locals (L' := (fun j => [(0, .ref 124), (1, .int (q_nz (q_net (q_I h 154)) nm)), (2, .int (nI i)), (3, .int (nI j))]) (j + 1)) (And.intro rfl (And.intro rfl (And.intro rfl (And.intro rfl trivial)))) ?_
                refine xe_heap (h2 := q_py h (upd (q_nbR (q_I h 159) (q_net (q_I h 154)) nm i) i (q_ss (q_net (q_I h 154)) i (j + 1))) (q_gpR (q_I h 160) (q_net (q_I h 154)) nm i)) ((q_py_N _ _ _ _).trans (by rw [c_e]; exact congrArg (fun N => q_py h N _) ((q_upd_upd _ _ _ _).trans (congrArg (upd _ i) (congrArg (· + _) pk_us))))) ?_
                exact K2
          · refine xe_iload_n dX10_payments_55 rfl ?_
            refine xe_aload_n dX10_payments_56 rfl ?_
            refine xe_getP dX10_payments_57 flX10_49 (st124 hs) (by decide) rfl (sp124_24 hs) ?_
            refine xe_aload_n dX10_payments_60 rfl ?_
            refine xe_getIv dX10_payments_61 flX10_228 (st124 hs) (by decide) rfl (v := nI lv) (p1) ?_
            refine xn_ialdv dX10_payments_64 (st135 hs) (by omega) (by decide) (v := nI nm) (p3) ?_
            refine xn_icmp_ge (tgt := 97) dX10_payments_65 rfl (by omega) (by omega) (fun c1 => ?_) (fun c1 => ?_)
            · refine xe_aload_n dX10_payments_97 rfl ?_
              refine xe_getP dX10_payments_98 flX10_126 (st124 hs) (by decide) rfl (sp124_54 hs) ?_
              refine xe_iload_n dX10_payments_101 rfl ?_
              refine xe_iconst dX10_payments_102 kc_0 ?_
              refine xn_iast dX10_payments_103 (st160 hs) (by omega) (by decide) ?_
              refine xe_iconst dX10_payments_104 kc_0 ?_
              refine xe_istore_n (i := 3) dX10_payments_105 rfl (by decide) rfl ?_
              refine xe_locals (L' := (fun j => [(0, .ref 124), (1, .int (q_nz (q_net (q_I h 154)) nm)), (2, .int (nI i)), (3, .int (nI j))]) 0) (And.intro rfl (And.intro rfl (And.intro rfl (And.intro rfl trivial)))) ?_
              refine xe_heap (h2 := q_py h (q_nbR (q_I h 159) (q_net (q_I h 154)) nm (i + 1)) (upd (q_gpR (q_I h 160) (q_net (q_I h 154)) nm i) i (q_sm (q_gpR (q_I h 160) (q_net (q_I h 154)) nm i) i 0))) ((q_py_G _ _ _ _).trans (by rw [show q_nbR (q_I h 159) (q_net (q_I h 154)) nm (i + 1) = upd (q_nbR (q_I h 159) (q_net (q_I h 154)) nm i) i (q_ss (q_net (q_I h 154)) i nm) from (q_filS _ _ _).symm]; rfl)) ?_
              refine xe_for nm (fun j => [(0, .ref 124), (1, .int (q_nz (q_net (q_I h 154)) nm)), (2, .int (nI i)), (3, .int (nI j))]) (fun j => q_py h (q_nbR (q_I h 159) (q_net (q_I h 154)) nm (i + 1)) (upd (q_gpR (q_I h 160) (q_net (q_I h 154)) nm i) i (q_sm (q_gpR (q_I h 160) (q_net (q_I h 154)) nm i) i j))) (fun j hj K2 => ?_) ?_
              · refine xe_iload_n dX10_payments_106 rfl ?_
                refine xe_aload_n dX10_payments_107 rfl ?_
                refine xe_getP dX10_payments_108 flX10_49 (st124 hs) (by decide) rfl (sp124_24 hs) ?_
                refine xe_aload_n dX10_payments_111 rfl ?_
                refine xe_getIv dX10_payments_112 flX10_228 (st124 hs) (by decide) rfl (v := nI lv) (p1) ?_
                refine xn_ialdv dX10_payments_115 (st135 hs) (by omega) (by decide) (v := nI nm) (p3) ?_
                refine xn_icmp_ge (tgt := 173) dX10_payments_116 rfl (by omega) (by omega) (fun c1 => ?_) (fun c1 => ?_)
                · omega
                · refine xe_iload_n dX10_payments_119 rfl ?_
                  refine xe_iload_n dX10_payments_120 rfl ?_
                  refine xe_ishr dX10_payments_121 ?_
                  refine xe_iconst dX10_payments_122 kc_1 ?_
                  refine xe_iand dX10_payments_123 ?_
                  refine xe_iconst dX10_payments_124 kc_1 ?_
                  refine xe_icmp_ne (tgt := 167) dX10_payments_125 rfl (fun c2 => ?_) (fun c2 => ?_)
                  · have c_b : ¬ q_bit (nI i) j = true := fun q => c2 (of_decide_eq_true q)
                    refine xn_iinc dX10_payments_167 rfl kc_1 ?_
                    refine xe_goto (tgt := 106) dX10_payments_170 rfl ?_
                    have c_e : q_sm (q_gpR (q_I h 160) (q_net (q_I h 154)) nm i) i (j + 1) = q_sm (q_gpR (q_I h 160) (q_net (q_I h 154)) nm i) i j := if_neg (fun q => c_b q.1)
                    refine xe_locals (L' := (fun j => [(0, .ref 124), (1, .int (q_nz (q_net (q_I h 154)) nm)), (2, .int (nI i)), (3, .int (nI j))]) (j + 1)) (And.intro rfl (And.intro rfl (And.intro rfl (And.intro rfl trivial)))) ?_
                    refine xe_heap (h2 := q_py h (q_nbR (q_I h 159) (q_net (q_I h 154)) nm (i + 1)) (upd (q_gpR (q_I h 160) (q_net (q_I h 154)) nm i) i (q_sm (q_gpR (q_I h 160) (q_net (q_I h 154)) nm i) i (j + 1)))) (by rw [c_e]) ?_
                    exact K2
                  · have c_b : q_bit (nI i) j = true := decide_eq_true c2
                    have hd9 := q_bit_delN hi (by omega : j < 8) c_b
                    refine xe_aload_n dX10_payments_128 rfl ?_
                    refine xe_getP dX10_payments_129 flX10_126 (st124 hs) (by decide) rfl (sp124_54 hs) ?_
                    refine xe_iload_n dX10_payments_132 rfl ?_
                    refine xe_iconst dX10_payments_133 kc_1 ?_
                    refine xe_iload_n dX10_payments_134 rfl ?_
                    refine xe_ishl dX10_payments_135 ?_
                    refine xe_iconst dX10_payments_136 kc_m1 ?_
                    refine xe_ixor dX10_payments_137 ?_
                    refine xe_iand dX10_payments_138 ?_
                    refine xe_top (v' := nI (q_del i j)) hd9.1 ?_
                    refine xn_ialdv dX10_payments_139 (st160 hs) (by omega) (by decide) (v := q_gpR (q_I h 160) (q_net (q_I h 154)) nm i (q_del i j)) (pk_un (by omega)) ?_
                    refine xe_aload_n dX10_payments_140 rfl ?_
                    refine xe_getP dX10_payments_141 flX10_126 (st124 hs) (by decide) rfl (sp124_54 hs) ?_
                    refine xe_iload_n dX10_payments_144 rfl ?_
                    refine xn_ialdv dX10_payments_145 (st160 hs) (by omega) (by decide) (v := q_sm (q_gpR (q_I h 160) (q_net (q_I h 154)) nm i) i j) (pk_us) ?_
                    refine xe_icmp_le (tgt := 167) dX10_payments_146 rfl (fun c3 => ?_) (fun c3 => ?_)
                    · have c_l : q_gpR (q_I h 160) (q_net (q_I h 154)) nm i (q_del i j) ≤ q_sm (q_gpR (q_I h 160) (q_net (q_I h 154)) nm i) i j := c3
                      refine xn_iinc dX10_payments_167 rfl kc_1 ?_
                      refine xe_goto (tgt := 106) dX10_payments_170 rfl ?_
                      have c_e : q_sm (q_gpR (q_I h 160) (q_net (q_I h 154)) nm i) i (j + 1) = q_sm (q_gpR (q_I h 160) (q_net (q_I h 154)) nm i) i j := if_neg (fun q => absurd q.2 (Int32.not_lt.mpr c_l))
                      refine xe_locals (L' := (fun j => [(0, .ref 124), (1, .int (q_nz (q_net (q_I h 154)) nm)), (2, .int (nI i)), (3, .int (nI j))]) (j + 1)) (And.intro rfl (And.intro rfl (And.intro rfl (And.intro rfl trivial)))) ?_
                      refine xe_heap (h2 := q_py h (q_nbR (q_I h 159) (q_net (q_I h 154)) nm (i + 1)) (upd (q_gpR (q_I h 160) (q_net (q_I h 154)) nm i) i (q_sm (q_gpR (q_I h 160) (q_net (q_I h 154)) nm i) i (j + 1)))) (by rw [c_e]) ?_
                      exact K2
                    · have c_l : q_sm (q_gpR (q_I h 160) (q_net (q_I h 154)) nm i) i j < q_gpR (q_I h 160) (q_net (q_I h 154)) nm i (q_del i j) := Int32.not_le.mp c3
                      refine xe_aload_n dX10_payments_149 rfl ?_
                      refine xe_getP dX10_payments_150 flX10_126 (st124 hs) (by decide) rfl (sp124_54 hs) ?_
                      refine xe_iload_n dX10_payments_153 rfl ?_
                      refine xe_aload_n dX10_payments_154 rfl ?_
                      refine xe_getP dX10_payments_155 flX10_126 (st124 hs) (by decide) rfl (sp124_54 hs) ?_
                      refine xe_iload_n dX10_payments_158 rfl ?_
                      refine xe_iconst dX10_payments_159 kc_1 ?_
                      refine xe_iload_n dX10_payments_160 rfl ?_
                      refine xe_ishl dX10_payments_161 ?_
                      refine xe_iconst dX10_payments_162 kc_m1 ?_
                      refine xe_ixor dX10_payments_163 ?_
                      refine xe_iand dX10_payments_164 ?_
                      refine xe_top (v' := nI (q_del i j)) hd9.1 ?_
                      refine xn_ialdv dX10_payments_165 (st160 hs) (by omega) (by decide) (v := q_gpR (q_I h 160) (q_net (q_I h 154)) nm i (q_del i j)) (pk_un (by omega)) ?_
                      refine xn_iast dX10_payments_166 (st160 hs) (by omega) (by decide) ?_
                      refine xn_iinc dX10_payments_167 rfl kc_1 ?_
                      refine xe_goto (tgt := 106) dX10_payments_170 rfl ?_
                      have c_e : q_sm (q_gpR (q_I h 160) (q_net (q_I h 154)) nm i) i (j + 1) = q_gpR (q_I h 160) (q_net (q_I h 154)) nm i (q_del i j) := if_pos ⟨c_b, c_l⟩
                      refine xe_locals (L' := (fun j => [(0, .ref 124), (1, .int (q_nz (q_net (q_I h 154)) nm)), (2, .int (nI i)), (3, .int (nI j))]) (j + 1)) (And.intro rfl (And.intro rfl (And.intro rfl (And.intro rfl trivial)))) ?_
                      refine xe_heap (h2 := q_py h (q_nbR (q_I h 159) (q_net (q_I h 154)) nm (i + 1)) (upd (q_gpR (q_I h 160) (q_net (q_I h 154)) nm i) i (q_sm (q_gpR (q_I h 160) (q_net (q_I h 154)) nm i) i (j + 1)))) ((q_py_G _ _ _ _).trans (by rw [c_e]; exact congrArg (fun G => q_py h _ G) (q_upd_upd _ _ _ _))) ?_
                      exact K2
              · refine xe_iload_n dX10_payments_106 rfl ?_
                refine xe_aload_n dX10_payments_107 rfl ?_
                refine xe_getP dX10_payments_108 flX10_49 (st124 hs) (by decide) rfl (sp124_24 hs) ?_
                refine xe_aload_n dX10_payments_111 rfl ?_
                refine xe_getIv dX10_payments_112 flX10_228 (st124 hs) (by decide) rfl (v := nI lv) (p1) ?_
                refine xn_ialdv dX10_payments_115 (st135 hs) (by omega) (by decide) (v := nI nm) (p3) ?_
                refine xn_icmp_ge (tgt := 173) dX10_payments_116 rfl (by omega) (by omega) (fun c1 => ?_) (fun c1 => ?_)
                · refine xe_iload_n dX10_payments_173 rfl ?_
                  refine xn_if_le (tgt := 196) dX10_payments_174 rfl (by omega) (fun c2 => ?_) (fun c2 => ?_)
                  · have c_0 : i = 0 := c2
                    refine xn_iinc dX10_payments_196 rfl kc_1 ?_
                    refine xe_goto (tgt := 39) dX10_payments_199 rfl ?_
                    have c_e : q_gpR (q_I h 160) (q_net (q_I h 154)) nm (i + 1) = upd (q_gpR (q_I h 160) (q_net (q_I h 154)) nm i) i (q_sm (q_gpR (q_I h 160) (q_net (q_I h 154)) nm i) i nm) := congrArg (upd (q_gpR (q_I h 160) (q_net (q_I h 154)) nm i) i) (if_neg (by omega))
                    refine xe_locals (L' := (fun i => [(0, .ref 124), (1, .int (q_nz (q_net (q_I h 154)) nm)), (2, .int (nI i))]) (i + 1)) (And.intro rfl (And.intro rfl (And.intro rfl trivial))) ?_
                    refine xe_heap (h2 := q_py h (q_nbR (q_I h 159) (q_net (q_I h 154)) nm (i + 1)) (q_gpR (q_I h 160) (q_net (q_I h 154)) nm (i + 1))) (by rw [c_e]) ?_
                    exact K
                  · have c_0 : ¬ i = 0 := c2
                    refine xe_aload_n dX10_payments_177 rfl ?_
                    refine xe_getP dX10_payments_178 flX10_123 (st124 hs) (by decide) rfl (sp124_53 hs) ?_
                    refine xe_iload_n dX10_payments_181 rfl ?_
                    refine xn_ialdv dX10_payments_182 (st159 hs) (by omega) (by decide) (v := q_ss (q_net (q_I h 154)) i nm) ((if_pos (Nat.lt_succ_self i))) ?_
                    refine xe_if_ne (tgt := 196) dX10_payments_183 rfl (fun c3 => ?_) (fun c3 => ?_)
                    · have c_z : ¬ q_ss (q_net (q_I h 154)) i nm = 0 := c3
                      refine xn_iinc dX10_payments_196 rfl kc_1 ?_
                      refine xe_goto (tgt := 39) dX10_payments_199 rfl ?_
                      have c_e : q_gpR (q_I h 160) (q_net (q_I h 154)) nm (i + 1) = upd (q_gpR (q_I h 160) (q_net (q_I h 154)) nm i) i (q_sm (q_gpR (q_I h 160) (q_net (q_I h 154)) nm i) i nm) := congrArg (upd (q_gpR (q_I h 160) (q_net (q_I h 154)) nm i) i) (if_neg (fun q => c_z q.2))
                      refine xe_locals (L' := (fun i => [(0, .ref 124), (1, .int (q_nz (q_net (q_I h 154)) nm)), (2, .int (nI i))]) (i + 1)) (And.intro rfl (And.intro rfl (And.intro rfl trivial))) ?_
                      refine xe_heap (h2 := q_py h (q_nbR (q_I h 159) (q_net (q_I h 154)) nm (i + 1)) (q_gpR (q_I h 160) (q_net (q_I h 154)) nm (i + 1))) (by rw [c_e]) ?_
                      exact K
                    · have c_z : q_ss (q_net (q_I h 154)) i nm = 0 := c3
                      refine xe_aload_n dX10_payments_186 rfl ?_
                      refine xe_getP dX10_payments_187 flX10_126 (st124 hs) (by decide) rfl (sp124_54 hs) ?_
                      refine xe_iload_n dX10_payments_190 rfl ?_
                      refine xe_dup2 dX10_payments_191 rfl rfl ?_
                      refine xn_iald dX10_payments_192 (st160 hs) (by omega) (by decide) ?_
                      refine xe_iconst dX10_payments_193 kc_1 ?_
                      refine xe_iadd dX10_payments_194 ?_
                      refine xn_iast dX10_payments_195 (st160 hs) (by omega) (by decide) ?_
                      refine xn_iinc dX10_payments_196 rfl kc_1 ?_
                      refine xe_goto (tgt := 39) dX10_payments_199 rfl ?_
                      have c_e : q_gpR (q_I h 160) (q_net (q_I h 154)) nm (i + 1) = upd (q_gpR (q_I h 160) (q_net (q_I h 154)) nm i) i (q_sm (q_gpR (q_I h 160) (q_net (q_I h 154)) nm i) i nm + nI 1) := congrArg (upd (q_gpR (q_I h 160) (q_net (q_I h 154)) nm i) i) (if_pos ⟨Nat.pos_of_ne_zero c_0, c_z⟩)
                      refine xe_locals (L' := (fun i => [(0, .ref 124), (1, .int (q_nz (q_net (q_I h 154)) nm)), (2, .int (nI i))]) (i + 1)) (And.intro rfl (And.intro rfl (And.intro rfl trivial))) ?_
                      refine xe_heap (h2 := q_py h (q_nbR (q_I h 159) (q_net (q_I h 154)) nm (i + 1)) (q_gpR (q_I h 160) (q_net (q_I h 154)) nm (i + 1))) ((q_py_G _ _ _ _).trans (by rw [c_e]; exact congrArg (fun G => q_py h _ G) ((q_upd_upd _ _ _ _).trans (congrArg (upd _ i) (congrArg (· + nI 1) pk_us))))) ?_
                      exact K
                · omega
            · omega
      · refine xe_iload_n dX10_payments_39 rfl ?_
        refine xe_sipush dX10_payments_40 ks_256 ?_
        refine xn_icmp_ge (tgt := 202) dX10_payments_43 rfl (by omega) (by omega) (fun c1 => ?_) (fun c1 => ?_)
        · rw [show q_nz (q_net (q_I h 154)) nm = nI al from eal]
          refine xe_iload_n dX10_payments_202 rfl ?_
          refine xe_callSI (d' := 0) (y' := mX10_bits) dX10_payments_203 mlX10_382 msX10_bits rfl (by decide) (by decide) (Nat.le_of_ble_eq_true rfl) (c_X10_bits l g _ _) rfl ?_
          refine xe_aload_n dX10_payments_206 rfl ?_
          refine xe_getP dX10_payments_207 flX10_126 (st124 hs) (by decide) rfl (sp124_54 hs) ?_
          refine xe_iload_n dX10_payments_210 rfl ?_
          refine xn_iald dX10_payments_211 (st160 hs) (by omega) (by decide) ?_
          refine xe_isub dX10_payments_212 ?_
          refine xe_ireturn dX10_payments_213 rfl (by first | rfl | decide +kernel) ?_
          refine ⟨?_, rfl⟩
          unfold q_payV
          rw [show q_nz _ nm = nI al from eal, nI_clamp (by omega)]
          rfl
        · omega
    · omega
