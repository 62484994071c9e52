/-! the reference: a week; votes -/
section QF
variable {l : Launch} {g : q_GP} {d : Nat} {y : q_MI} {pc : Nat} {L : List (Nat × Value)} {S : List Value} {h : q_H} {Q : Option Value → q_H → Prop}
theorem xe_top {v v' : Int32} (e : v = v') (K : q_Ex l g d y pc L (.int v' :: S) h Q) : q_Ex l g d y pc L (.int v :: S) h Q := e ▸ K
/-- a loop that counts to n, with scratch -/
theorem xe_forE {σ : Type} (n : Nat) (Lf : Nat → List (Nat × Value)) (hf : Nat → σ → q_H) (body : ∀ i s, i < n → (∀ s', q_Ex l g d y pc (Lf (i + 1)) S (hf (i + 1) s') Q) → q_Ex l g d y pc (Lf i) S (hf i s) Q) (ex : ∀ s, q_Ex l g d y pc (Lf n) S (hf n s) Q) (s : σ) : q_Ex l g d y pc (Lf 0) S (hf 0 s) Q := by
  have key : ∀ k, k ≤ n → ∀ s, q_Ex l g d y pc (Lf (n - k)) S (hf (n - k) s) Q := by
    intro k
    induction k with
    | zero => intro _; exact ex
    | succ k ih =>
      intro hk s
      refine body (n - (k + 1)) s (by omega) ?_
      rw [show n - (k + 1) + 1 = n - k by omega]
      exact ih (by omega)
  have := key n (Nat.le_refl n) s
  rwa [Nat.sub_self] at this
end QF
def q_sc : Type := (Nat → Int32) × (Nat → Int32) × Int32
def q_h3 (h : q_H) (s : q_sc) : q_H := q_s3 h s.1 s.2.1 s.2.2
theorem q_h3_0 (h : q_H) : q_h3 h (q_I h 152, q_I h 153, q_I h 124 46) = h := q_s3_0 h
theorem q_s3_row (h : q_H) (R R' V p V' p' : Nat → Int32) (b b' : Int32) : q_wI (q_s3 (q_s3 (q_wI h 155 R) V p b) V' p' b') 155 R' = q_s3 (q_wI h 155 R') V' p' b' := by
  rw [q_s3_s3, q_s3_R _ _ _ _ _ (by decide) (by decide) (by decide), q_wwI]
/-- how much grows on goose m -/
def q_gv (C : Nat → Int32) (LW : q_LW) (lv nc w : Nat) (R : Nat → Int32) (m : Nat) : Int32 :=
  if q_s8 R (8 * m) + q_held (q_tel (q_see R C lv nc w m (q_s8 R (8 * m)) (q_s8 R (136 + 8 * m))) (LW 16) (nI 0)) ≤ nI 9999 then q_held (q_tel (q_see R C lv nc w m (q_s8 R (8 * m)) (q_s8 R (136 + 8 * m))) (LW 16) (nI 0))
  else if q_s8 R (8 * m) ≤ nI 9999 then nI 9999 - q_s8 R (8 * m) else nI 0
def q_gr (C : Nat → Int32) (LW : q_LW) (lv nc w : Nat) (R : Nat → Int32) : Nat → Nat → Int32
  | 0 => R
  | m + 1 => upd (q_gr C LW lv nc w R m) (9 * m) (q_gr C LW lv nc w R m (9 * m) + q_gv C LW lv nc w (q_gr C LW lv nc w R m) m)
theorem q_gr_ne (C : Nat → Int32) (LW : q_LW) (lv nc w : Nat) (R : Nat → Int32) : ∀ (m k : Nat), (∀ j, j < m → k ≠ 9 * j) → q_gr C LW lv nc w R m k = R k
  | 0, _, _ => rfl
  | m + 1, k, h => by
    show upd _ (9 * m) _ k = R k
    rw [pk_un (h m (by omega))]
    exact q_gr_ne C LW lv nc w R m k (fun j hj => h j (by omega))
def q_clr (R : Nat → Int32) (n : Nat) : Nat → Int32 := fun k => if 136 ≤ k ∧ k < 136 + n then nI 0 else R k
theorem q_clr0 (R : Nat → Int32) : q_clr R 0 = R := by
  funext k
  unfold q_clr
  rw [if_neg (by omega)]
theorem q_clrS (R : Nat → Int32) (n : Nat) : upd (q_clr R n) (136 + n) (nI 0) = q_clr R (n + 1) := by
  funext k
  unfold upd q_clr
  by_cases h : k = 136 + n
  · rw [if_pos h, if_pos (by omega)]
  · rw [if_neg h]
    by_cases h2 : 136 ≤ k ∧ k < 136 + n
    · rw [if_pos h2, if_pos (by omega)]
    · rw [if_neg h2, if_neg (by omega)]
/-- a week -/
def q_week (C : Nat → Int32) (LW : q_LW) (lv nm nc mo w : Nat) (R : Nat → Int32) : Nat → Int32 :=
  upd (if mo ≠ 0 ∧ (w + 1) % mo = 0 then q_clr (q_gr C LW lv nc w R nm) 64 else q_gr C LW lv nc w R nm) 200 (nI (w + 1))
theorem q_s3_row2 (h : q_H) (R R' V p : Nat → Int32) (b : Int32) : q_wI (q_s3 (q_wI h 155 R) V p b) 155 R' = q_s3 (q_wI h 155 R') V p b := by
  rw [q_s3_R _ _ _ _ _ (by decide) (by decide) (by decide), q_wwI]
set_option maxHeartbeats 4000000 in
theorem c_X10_weekGoes (l : Launch) (g : q_GP) (h : q_H) (hs : q_Stat h) {lv nm nd nc mo : Nat} (hp : rm_P h lv nm nd nc mo) {LW : q_LW} (hL : rm_L h lv LW) {w : Nat} (hw : q_I h 155 200 = nI w) (hw2 : w < 2 ^ 20) : q_Ct l g 2 mX10_weekGoes [.ref 124] h (fun r h1 => r = none ∧ ∃ V p b, h1 = q_s3 (q_wI h 155 (q_week (q_I h 140) LW lv nm nc mo w (q_I h 155))) V p b) := by
  obtain ⟨p1, p2, p3, p4, p5, p6, p7, p8, p9, p10⟩ := id hp
  have hg : ∀ i, i ≤ nm → q_gr (q_I h 140) LW lv nc w (q_I h 155) i 200 = nI w := fun i hi => (q_gr_ne _ _ _ _ _ _ i 200 (fun j hj => by omega)).trans hw
  refine q_CtV mvX10_weekGoes (Nat.le_of_ble_eq_true rfl) ?_
  refine xe_iconst dX10_weekGoes_0 kc_0 ?_
  refine xe_istore_n (i := 1) dX10_weekGoes_1 rfl (by decide) rfl ?_
  refine xe_locals (L' := (fun i => [(0, .ref 124), (1, .int (nI i))]) 0) (And.intro rfl (And.intro rfl trivial)) ?_
  refine xe_heap (h2 := q_h3 (q_wI h 155 (q_gr (q_I h 140) LW lv nc w (q_I h 155) 0)) (q_I h 152, q_I h 153, q_I h 124 46)) (by rw [show q_gr (q_I h 140) LW lv nc w (q_I h 155) 0 = q_I h 155 from rfl, q_wsI]; exact (q_h3_0 h).symm) ?_
  refine xe_forE nm (fun i => [(0, .ref 124), (1, .int (nI i))]) (fun i s => q_h3 (q_wI h 155 (q_gr (q_I h 140) LW lv nc w (q_I h 155) i)) s) (fun i s hi K => ?_) (fun s => ?_) _
  · refine xe_iload_n dX10_weekGoes_2 rfl ?_
    refine xe_aload_n dX10_weekGoes_3 rfl ?_
    refine xe_getP dX10_weekGoes_4 flX10_49 (st124 hs) (by decide) rfl (sp124_24 hs) ?_
    refine xe_aload_n dX10_weekGoes_7 rfl ?_
    refine xe_getIv dX10_weekGoes_8 flX10_228 (st124 hs) (by decide) rfl (v := nI lv) (p1) ?_
    refine xn_ialdv dX10_weekGoes_11 (st135 hs) (by omega) (by decide) (v := nI nm) (p3) ?_
    refine xn_icmp_ge (tgt := 88) dX10_weekGoes_12 rfl (by omega) (by omega) (fun c1 => ?_) (fun c1 => ?_)
    · omega
    · refine xe_aload_n dX10_weekGoes_15 rfl ?_
      refine xe_iload_n dX10_weekGoes_16 rfl ?_
      refine xe_callVI (d' := 0) (y' := mX10_haveOf) dX10_weekGoes_17 mlX10_319 mvX10_haveOf rfl (st124 hs) (by decide) rfl (by decide) (by decide) (Nat.le_of_ble_eq_true rfl) (c_X10_haveOf l g _ (by exact hs) _ (by omega)) rfl ?_
      refine xe_top (v' := q_s8 (q_gr (q_I h 140) LW lv nc w (q_I h 155) i) (8 * i)) rfl ?_
      refine xe_istore_n (i := 2) dX10_weekGoes_20 rfl (by decide) rfl ?_
      refine xe_aload_n dX10_weekGoes_21 rfl ?_
      refine xe_iload_n dX10_weekGoes_22 rfl ?_
      refine xe_iload_n dX10_weekGoes_23 rfl ?_
      refine xe_aload_n dX10_weekGoes_24 rfl ?_
      refine xe_iload_n dX10_weekGoes_25 rfl ?_
      refine xe_callVI (d' := 0) (y' := mX10_timesOf) dX10_weekGoes_26 mlX10_334 mvX10_timesOf rfl (st124 hs) (by decide) rfl (by decide) (by decide) (Nat.le_of_ble_eq_true rfl) (c_X10_timesOf l g _ (by exact hs) _ (by omega)) rfl ?_
      refine xe_callVV (d' := 1) (y' := mX10_setsOf) dX10_weekGoes_29 mlX10_325 mvX10_setsOf rfl (st124 hs) (by decide) rfl (by decide) (by decide) (Nat.le_of_ble_eq_true rfl) (c_X10_setsOf l g _ (by exact hs) (by exact hp) (by exact hg i (by omega)) (by omega) _ _ _) rfl ?_
      refine xe_aload_n dX10_weekGoes_32 rfl ?_
      refine xe_bipush dX10_weekGoes_33 kb_16 ?_
      refine xe_iconst dX10_weekGoes_35 kc_0 ?_
      refine xe_callVIq (d' := 1) (y' := mX10_tells) dX10_weekGoes_36 mlX10_328 mvX10_tells rfl (st124 hs) (by decide) rfl (by decide) (by decide) (Nat.le_of_ble_eq_true rfl) (c_X10_tellsq l g _ (by exact hs) (by exact hp) (by exact rm_L_of (h := h) ⟨rfl, rfl, rfl, rfl, rfl, rfl, rfl, rfl, rfl⟩ hL) _ (by omega) _) rfl (fun h1 hq => ?_)
      obtain ⟨p1, b1, rfl⟩ := hq
      refine xe_top (v' := q_tel (q_see (q_gr (q_I h 140) LW lv nc w (q_I h 155) i) (q_I h 140) lv nc w i (q_s8 (q_gr (q_I h 140) LW lv nc w (q_I h 155) i) (8 * i)) (q_s8 (q_gr (q_I h 140) LW lv nc w (q_I h 155) i) (136 + 8 * i))) (LW 16) (nI 0)) (q_see_tel (hL 16 (by omega)) _ (q_gr (q_I h 140) LW lv nc w (q_I h 155) i) (q_I h 140) _ _ _) ?_
      refine xe_callSI (d' := 0) (y' := mX10_held) dX10_weekGoes_39 mlX10_331 msX10_held rfl (by decide) (by decide) (Nat.le_of_ble_eq_true rfl) (c_X10_held l g _ _) rfl ?_
      refine xe_istore_n (i := 3) dX10_weekGoes_42 rfl (by decide) rfl ?_
      refine xe_iload_n dX10_weekGoes_43 rfl ?_
      refine xe_iload_n dX10_weekGoes_44 rfl ?_
      refine xe_iadd dX10_weekGoes_45 ?_
      refine xe_sipush dX10_weekGoes_46 ks_9999 ?_
      refine xe_icmp_le (tgt := 69) dX10_weekGoes_49 rfl (fun c2 => ?_) (fun c2 => ?_)
      · have c_a := c2
        refine xe_aload_n dX10_weekGoes_69 rfl ?_
        refine xe_getP dX10_weekGoes_70 flX10_110 (st124 hs) (by decide) rfl (sp124_48 hs) ?_
        refine xe_bipush dX10_weekGoes_73 kb_9 ?_
        refine xe_iload_n dX10_weekGoes_75 rfl ?_
        refine xn_imul dX10_weekGoes_76 ?_
        refine xe_dup2 dX10_weekGoes_77 rfl rfl ?_
        refine xn_iald dX10_weekGoes_78 (st155 hs) (by omega) (by decide) ?_
        refine xe_iload_n dX10_weekGoes_79 rfl ?_
        refine xe_iadd dX10_weekGoes_80 ?_
        refine xn_iast dX10_weekGoes_81 (st155 hs) (by omega) (by decide) ?_
        refine xn_iinc dX10_weekGoes_82 rfl kc_1 ?_
        refine xe_goto (tgt := 2) dX10_weekGoes_85 rfl ?_
        have e : q_gv (q_I h 140) LW lv nc w (q_gr (q_I h 140) LW lv nc w (q_I h 155) i) i = q_held (q_tel (q_see (q_gr (q_I h 140) LW lv nc w (q_I h 155) i) (q_I h 140) lv nc w i (q_s8 (q_gr (q_I h 140) LW lv nc w (q_I h 155) i) (8 * i)) (q_s8 (q_gr (q_I h 140) LW lv nc w (q_I h 155) i) (136 + 8 * i))) (LW 16) (nI 0)) := by
          unfold q_gv
          rw [if_pos c_a]
        refine xe_locals (L' := (fun i => [(0, .ref 124), (1, .int (nI i))]) (i + 1)) (And.intro rfl (And.intro rfl trivial)) ?_
        refine xe_heap ((q_s3_row h (q_gr (q_I h 140) LW lv nc w (q_I h 155) i) _ s.1 s.2.1 _ p1 s.2.2 b1).trans (congrArg (fun R => q_s3 (q_wI h 155 R) _ p1 b1) (show upd (q_gr (q_I h 140) LW lv nc w (q_I h 155) i) (9 * i) (q_gr (q_I h 140) LW lv nc w (q_I h 155) i (9 * i) + (q_held (q_tel (q_see (q_gr (q_I h 140) LW lv nc w (q_I h 155) i) (q_I h 140) lv nc w i (q_s8 (q_gr (q_I h 140) LW lv nc w (q_I h 155) i) (8 * i)) (q_s8 (q_gr (q_I h 140) LW lv nc w (q_I h 155) i) (136 + 8 * i))) (LW 16) (nI 0)))) = q_gr (q_I h 140) LW lv nc w (q_I h 155) (i + 1) by rw [← e]; rfl))) ?_
        exact K (_, p1, b1)
      · have c_a := c2
        refine xe_iload_n dX10_weekGoes_52 rfl ?_
        refine xe_sipush dX10_weekGoes_53 ks_9999 ?_
        refine xe_icmp_le (tgt := 63) dX10_weekGoes_56 rfl (fun c3 => ?_) (fun c3 => ?_)
        · have c_b := c3
          refine xe_sipush dX10_weekGoes_63 ks_9999 ?_
          refine xe_iload_n dX10_weekGoes_66 rfl ?_
          refine xe_isub dX10_weekGoes_67 ?_
          refine xe_istore_n (i := 3) dX10_weekGoes_68 rfl (by decide) rfl ?_
          refine xe_aload_n dX10_weekGoes_69 rfl ?_
          refine xe_getP dX10_weekGoes_70 flX10_110 (st124 hs) (by decide) rfl (sp124_48 hs) ?_
          refine xe_bipush dX10_weekGoes_73 kb_9 ?_
          refine xe_iload_n dX10_weekGoes_75 rfl ?_
          refine xn_imul dX10_weekGoes_76 ?_
          refine xe_dup2 dX10_weekGoes_77 rfl rfl ?_
          refine xn_iald dX10_weekGoes_78 (st155 hs) (by omega) (by decide) ?_
          refine xe_iload_n dX10_weekGoes_79 rfl ?_
          refine xe_iadd dX10_weekGoes_80 ?_
          refine xn_iast dX10_weekGoes_81 (st155 hs) (by omega) (by decide) ?_
          refine xn_iinc dX10_weekGoes_82 rfl kc_1 ?_
          refine xe_goto (tgt := 2) dX10_weekGoes_85 rfl ?_
          have e : q_gv (q_I h 140) LW lv nc w (q_gr (q_I h 140) LW lv nc w (q_I h 155) i) i = nI 9999 - q_s8 (q_gr (q_I h 140) LW lv nc w (q_I h 155) i) (8 * i) := by
            unfold q_gv
            rw [if_neg c_a, if_pos c_b]
          refine xe_locals (L' := (fun i => [(0, .ref 124), (1, .int (nI i))]) (i + 1)) (And.intro rfl (And.intro rfl trivial)) ?_
          refine xe_heap ((q_s3_row h (q_gr (q_I h 140) LW lv nc w (q_I h 155) i) _ s.1 s.2.1 _ p1 s.2.2 b1).trans (congrArg (fun R => q_s3 (q_wI h 155 R) _ p1 b1) (show upd (q_gr (q_I h 140) LW lv nc w (q_I h 155) i) (9 * i) (q_gr (q_I h 140) LW lv nc w (q_I h 155) i (9 * i) + (nI 9999 - q_s8 (q_gr (q_I h 140) LW lv nc w (q_I h 155) i) (8 * i))) = q_gr (q_I h 140) LW lv nc w (q_I h 155) (i + 1) by rw [← e]; rfl))) ?_
          exact K (_, p1, b1)
        · have c_b := c3
          refine xe_iconst dX10_weekGoes_59 kc_0 ?_
          refine xe_goto (tgt := 68) dX10_weekGoes_60 rfl ?_
          refine xe_istore_n (i := 3) dX10_weekGoes_68 rfl (by decide) rfl ?_
          refine xe_aload_n dX10_weekGoes_69 rfl ?_
          refine xe_getP dX10_weekGoes_70 flX10_110 (st124 hs) (by decide) rfl (sp124_48 hs) ?_
          refine xe_bipush dX10_weekGoes_73 kb_9 ?_
          refine xe_iload_n dX10_weekGoes_75 rfl ?_
          refine xn_imul dX10_weekGoes_76 ?_
          refine xe_dup2 dX10_weekGoes_77 rfl rfl ?_
          refine xn_iald dX10_weekGoes_78 (st155 hs) (by omega) (by decide) ?_
          refine xe_iload_n dX10_weekGoes_79 rfl ?_
          refine xe_iadd dX10_weekGoes_80 ?_
          refine xn_iast dX10_weekGoes_81 (st155 hs) (by omega) (by decide) ?_
          refine xn_iinc dX10_weekGoes_82 rfl kc_1 ?_
          refine xe_goto (tgt := 2) dX10_weekGoes_85 rfl ?_
          have e : q_gv (q_I h 140) LW lv nc w (q_gr (q_I h 140) LW lv nc w (q_I h 155) i) i = nI 0 := by
            unfold q_gv
            rw [if_neg c_a, if_neg c_b]
          refine xe_locals (L' := (fun i => [(0, .ref 124), (1, .int (nI i))]) (i + 1)) (And.intro rfl (And.intro rfl trivial)) ?_
          refine xe_heap ((q_s3_row h (q_gr (q_I h 140) LW lv nc w (q_I h 155) i) _ s.1 s.2.1 _ p1 s.2.2 b1).trans (congrArg (fun R => q_s3 (q_wI h 155 R) _ p1 b1) (show upd (q_gr (q_I h 140) LW lv nc w (q_I h 155) i) (9 * i) (q_gr (q_I h 140) LW lv nc w (q_I h 155) i (9 * i) + (nI 0)) = q_gr (q_I h 140) LW lv nc w (q_I h 155) (i + 1) by rw [← e]; rfl))) ?_
          exact K (_, p1, b1)
  · refine xe_iload_n dX10_weekGoes_2 rfl ?_
    refine xe_aload_n dX10_weekGoes_3 rfl ?_
    refine xe_getP dX10_weekGoes_4 flX10_49 (st124 hs) (by decide) rfl (sp124_24 hs) ?_
    refine xe_aload_n dX10_weekGoes_7 rfl ?_
    refine xe_getIv dX10_weekGoes_8 flX10_228 (st124 hs) (by decide) rfl (v := nI lv) (p1) ?_
    refine xn_ialdv dX10_weekGoes_11 (st135 hs) (by omega) (by decide) (v := nI nm) (p3) ?_
    refine xn_icmp_ge (tgt := 88) dX10_weekGoes_12 rfl (by omega) (by omega) (fun c1 => ?_) (fun c1 => ?_)
    · refine xe_aload_n dX10_weekGoes_88 rfl ?_
      refine xe_getP dX10_weekGoes_89 flX10_110 (st124 hs) (by decide) rfl (sp124_48 hs) ?_
      refine xe_sipush dX10_weekGoes_92 ks_200 ?_
      refine xn_ialdv dX10_weekGoes_95 (st155 hs) (by omega) (by decide) (v := nI w) (hg nm (by omega)) ?_
      refine xe_iconst dX10_weekGoes_96 kc_1 ?_
      refine xn_iadd dX10_weekGoes_97 ?_
      refine xe_istore_n (i := 1) dX10_weekGoes_98 rfl (by decide) rfl ?_
      refine xe_aload_n dX10_weekGoes_99 rfl ?_
      refine xe_getP dX10_weekGoes_100 flX10_67 (st124 hs) (by decide) rfl (sp124_30 hs) ?_
      refine xe_aload_n dX10_weekGoes_103 rfl ?_
      refine xe_getIv dX10_weekGoes_104 flX10_228 (st124 hs) (by decide) rfl (v := nI lv) (p1) ?_
      refine xn_ialdv dX10_weekGoes_107 (st141 hs) (by omega) (by decide) (v := nI mo) (p9) ?_
      refine xn_if_le (tgt := 150) dX10_weekGoes_108 rfl (by omega) (fun c2 => ?_) (fun c2 => ?_)
      · have c_m : ¬ (mo ≠ 0 ∧ (w + 1) % mo = 0) := by omega
        refine xe_aload_n dX10_weekGoes_150 rfl ?_
        refine xe_getP dX10_weekGoes_151 flX10_110 (st124 hs) (by decide) rfl (sp124_48 hs) ?_
        refine xe_sipush dX10_weekGoes_154 ks_200 ?_
        refine xe_iload_n dX10_weekGoes_157 rfl ?_
        refine xn_iast dX10_weekGoes_158 (st155 hs) (by omega) (by decide) ?_
        refine xe_return dX10_weekGoes_159 rfl ?_
        exact ⟨rfl, _, _, _, (q_s3_row2 h _ _ _ _ _).trans (congrArg (fun R => q_s3 (q_wI h 155 R) s.1 s.2.1 s.2.2) (by unfold q_week; rw [if_neg c_m]; rfl))⟩
      · have c_w : (w + 1) % mo < mo := Nat.mod_lt _ (by omega)
        refine xe_iload_n dX10_weekGoes_111 rfl ?_
        refine xe_aload_n dX10_weekGoes_112 rfl ?_
        refine xe_getP dX10_weekGoes_113 flX10_67 (st124 hs) (by decide) rfl (sp124_30 hs) ?_
        refine xe_aload_n dX10_weekGoes_116 rfl ?_
        refine xe_getIv dX10_weekGoes_117 flX10_228 (st124 hs) (by decide) rfl (v := nI lv) (p1) ?_
        refine xn_ialdv dX10_weekGoes_120 (st141 hs) (by omega) (by decide) (v := nI mo) (p9) ?_
        refine xn_irem dX10_weekGoes_121 (by omega) (by omega) (by omega) ?_
        refine xn_if_ne (tgt := 150) dX10_weekGoes_122 rfl (by omega) (fun c3 => ?_) (fun c3 => ?_)
        · have c_m : ¬ (mo ≠ 0 ∧ (w + 1) % mo = 0) := by omega
          refine xe_aload_n dX10_weekGoes_150 rfl ?_
          refine xe_getP dX10_weekGoes_151 flX10_110 (st124 hs) (by decide) rfl (sp124_48 hs) ?_
          refine xe_sipush dX10_weekGoes_154 ks_200 ?_
          refine xe_iload_n dX10_weekGoes_157 rfl ?_
          refine xn_iast dX10_weekGoes_158 (st155 hs) (by omega) (by decide) ?_
          refine xe_return dX10_weekGoes_159 rfl ?_
          exact ⟨rfl, _, _, _, (q_s3_row2 h _ _ _ _ _).trans (congrArg (fun R => q_s3 (q_wI h 155 R) s.1 s.2.1 s.2.2) (by unfold q_week; rw [if_neg c_m]; rfl))⟩
        · have c_m : mo ≠ 0 ∧ (w + 1) % mo = 0 := by omega
          refine xe_iconst dX10_weekGoes_125 kc_0 ?_
          refine xe_istore_n (i := 2) dX10_weekGoes_126 rfl (by decide) rfl ?_
          refine xe_locals (L' := (fun j => [(0, .ref 124), (1, .int (nI (w + 1))), (2, .int (nI j))]) 0) (And.intro rfl (And.intro rfl (And.intro rfl trivial))) ?_
          refine xe_heap (h2 := q_s3 (q_wI h 155 (q_clr (q_gr (q_I h 140) LW lv nc w (q_I h 155) nm) 0)) s.1 s.2.1 s.2.2) (by rw [q_clr0]; rfl) ?_
          refine xe_for 64 (fun j => [(0, .ref 124), (1, .int (nI (w + 1))), (2, .int (nI j))]) (fun j => q_s3 (q_wI h 155 (q_clr (q_gr (q_I h 140) LW lv nc w (q_I h 155) nm) j)) s.1 s.2.1 s.2.2) (fun j hj K => ?_) ?_
          · refine xe_iload_n dX10_weekGoes_127 rfl ?_
            refine xe_bipush dX10_weekGoes_128 kb_64 ?_
            refine xn_icmp_ge (tgt := 150) dX10_weekGoes_130 rfl (by omega) (by omega) (fun c4 => ?_) (fun c4 => ?_)
            · omega
            · refine xe_aload_n dX10_weekGoes_133 rfl ?_
              refine xe_getP dX10_weekGoes_134 flX10_110 (st124 hs) (by decide) rfl (sp124_48 hs) ?_
              refine xe_sipush dX10_weekGoes_137 ks_136 ?_
              refine xe_iload_n dX10_weekGoes_140 rfl ?_
              refine xn_iadd dX10_weekGoes_141 ?_
              refine xe_iconst dX10_weekGoes_142 kc_0 ?_
              refine xn_iast dX10_weekGoes_143 (st155 hs) (by omega) (by decide) ?_
              refine xn_iinc dX10_weekGoes_144 rfl kc_1 ?_
              refine xe_goto (tgt := 127) dX10_weekGoes_147 rfl ?_
              refine xe_heap ((q_s3_row2 h _ _ _ _ _).trans (congrArg (fun R => q_s3 (q_wI h 155 R) s.1 s.2.1 s.2.2) (q_clrS (q_gr (q_I h 140) LW lv nc w (q_I h 155) nm) j))) ?_
              refine xe_locals (L' := (fun j => [(0, .ref 124), (1, .int (nI (w + 1))), (2, .int (nI j))]) (j + 1)) (And.intro rfl (And.intro rfl (And.intro rfl trivial))) ?_
              exact K
          · refine xe_iload_n dX10_weekGoes_127 rfl ?_
            refine xe_bipush dX10_weekGoes_128 kb_64 ?_
            refine xn_icmp_ge (tgt := 150) dX10_weekGoes_130 rfl (by omega) (by omega) (fun c5 => ?_) (fun c5 => ?_)
            · refine xe_aload_n dX10_weekGoes_150 rfl ?_
              refine xe_getP dX10_weekGoes_151 flX10_110 (st124 hs) (by decide) rfl (sp124_48 hs) ?_
              refine xe_sipush dX10_weekGoes_154 ks_200 ?_
              refine xe_iload_n dX10_weekGoes_157 rfl ?_
              refine xn_iast dX10_weekGoes_158 (st155 hs) (by omega) (by decide) ?_
              refine xe_return dX10_weekGoes_159 rfl ?_
              exact ⟨rfl, _, _, _, (q_s3_row2 h _ _ _ _ _).trans (congrArg (fun R => q_s3 (q_wI h 155 R) s.1 s.2.1 s.2.2) (by unfold q_week; rw [if_pos c_m]; rfl))⟩
            · omega
    · omega
