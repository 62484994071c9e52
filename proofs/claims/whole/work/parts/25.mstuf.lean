/-! the reference: stuffer; payments -/
def q_si (G ok : Nat → Bool) (i : Int32) (cd : Nat → Int32) : Nat → Nat → Nat → Int32 ⊕ Nat
  | 0, _, c => .inr c
  | n + 1, a, c => if G a then (if ok a then (if nI c = i then .inl (cd a) else q_si G ok i cd n (a + 1) (c + 1)) else q_si G ok i cd n (a + 1) c) else .inr c
def q_sl (st : Nat → Nat → Int32 ⊕ Nat) : Nat → Nat → Nat → Int32 ⊕ Nat
  | 0, _, c => .inr c
  | n + 1, j, c => match st j c with
    | .inl v => .inl v
    | .inr c' => q_sl st n (j + 1) c'
def q_res (r : Int32) (s : Int32 ⊕ Nat) (P : Nat → Prop) : Prop := match s with
  | .inl v => r = v
  | .inr c => P c
theorem q_si_le (G ok : Nat → Bool) (i : Int32) (cd : Nat → Int32) : ∀ n a c c', q_si G ok i cd n a c = .inr c' → c' ≤ c + n
  | 0, _, c, c', h => by cases h; omega
  | n + 1, a, c, c', h => by
    unfold q_si at h
    split at h
    · split at h
      · split at h
        · cases h
        · have := q_si_le G ok i cd n (a + 1) (c + 1) c' h
          omega
      · have := q_si_le G ok i cd n (a + 1) c c' h
        omega
    · cases h
      omega
theorem q_sl_le {st : Nat → Nat → Int32 ⊕ Nat} {b : Nat} (hb : ∀ j c c', st j c = .inr c' → c' ≤ c + b) : ∀ n j c c', q_sl st n j c = .inr c' → c' ≤ c + n * b
  | 0, _, c, c', h => by cases h; omega
  | n + 1, j, c, c', h => by
    unfold q_sl at h
    split at h
    · cases h
    · next c2 h2 =>
      have h3 := hb j c c2 h2
      have h4 := q_sl_le hb n (j + 1) c2 c' h
      rw [Nat.succ_mul]
      omega
/-- the ways from f to t -/
def q_sft (R S T : Nat → Int32) (nm most k : Nat) (i : Int32) (f t c : Nat) : Int32 ⊕ Nat := q_si (fun a => decide (nI a ≤ R (9 * f)) && !(decide (t = f))) (fun a => q_all (q_sok R S T nm t (nI a)) k) i (fun a => nI (10000 * f + 1000 * t + a)) most 1 c
def q_stf (R S T : Nat → Int32) (nm most k : Nat) (i : Int32) : Int32 := match q_sl (fun f c => q_sl (q_sft R S T nm most k i f) nm 0 c) nm 0 0 with
  | .inl v => v
  | .inr c => if i = -1 then nI c else -1
theorem q_stuf_in (l : Launch) (g : q_GP) (h : q_H) (hs : q_Stat h) {lv nm nd nc mo : Nat} (hp : rm_P h lv nm nd nc mo) (most k : Nat) (i rs : Int32) (hm2 : most ≤ 200) (hk : k ≤ 20) (f t : Nat) (hf : f < nm) (ht : t < nm) : ∀ n a c, a + n = most + 1 → 1 ≤ a → c + n ≤ 20000 → q_res rs (q_si (fun a => decide (nI a ≤ (q_cpy (q_I h 154) (q_I h 155) 210) (9 * f)) && !(decide (t = f))) (fun a => q_all (q_sok (q_cpy (q_I h 154) (q_I h 155) 210) (q_I h 166) (q_I h 167) nm t (nI a)) k) i (fun a => nI (10000 * f + 1000 * t + a)) n a c) (fun c => q_Ex l g 2 mX10_stuffer 149 [(0, .ref 124), (1, .int (nI most)), (2, .int (nI k)), (3, .int i), (4, .int (nI c)), (5, .int (nI f)), (6, .int (nI t))] [] (q_wI h 155 (q_cpy (q_I h 154) (q_I h 155) 210)) (fun r h1 => r = some (.int rs) ∧ h1 = (q_wI h 155 (q_cpy (q_I h 154) (q_I h 155) 210)))) → q_Ex l g 2 mX10_stuffer 74 [(0, .ref 124), (1, .int (nI most)), (2, .int (nI k)), (3, .int i), (4, .int (nI c)), (5, .int (nI f)), (6, .int (nI t)), (7, .int (nI a))] [] (q_wI h 155 (q_cpy (q_I h 154) (q_I h 155) 210)) (fun r h1 => r = some (.int rs) ∧ h1 = (q_wI h 155 (q_cpy (q_I h 154) (q_I h 155) 210))) := by
  obtain ⟨p1, p2, p3, p4, p5, p6, p7, p8, p9, p10⟩ := id hp
  intro n
  induction n with
  | zero =>
    intro a c han ha hc hK
    refine xe_iload dX10_stuffer_74 rfl ?_
    refine xe_iload_n dX10_stuffer_76 rfl ?_
    refine xn_icmp_gt (tgt := 149) dX10_stuffer_77 rfl (by omega) (by omega) (fun c1 => ?_) (fun c1 => ?_)
    · refine xe_locals (L' := [(0, .ref 124), (1, .int (nI most)), (2, .int (nI k)), (3, .int i), (4, .int (nI c)), (5, .int (nI f)), (6, .int (nI t))]) (And.intro rfl (And.intro rfl (And.intro rfl (And.intro rfl (And.intro rfl (And.intro rfl (And.intro rfl trivial))))))) ?_
      exact hK
    · omega
  | succ n ih =>
    intro a c han ha hc hK
    refine xe_iload dX10_stuffer_74 rfl ?_
    refine xe_iload_n dX10_stuffer_76 rfl ?_
    refine xn_icmp_gt (tgt := 149) dX10_stuffer_77 rfl (by omega) (by omega) (fun c1 => ?_) (fun c1 => ?_)
    · omega
    · refine xe_iload dX10_stuffer_80 rfl ?_
      refine xe_aload_n dX10_stuffer_82 rfl ?_
      refine xe_getP dX10_stuffer_83 flX10_110 (st124 hs) (by decide) rfl (sp124_48 hs) ?_
      refine xe_bipush dX10_stuffer_86 kb_9 ?_
      refine xe_iload dX10_stuffer_88 rfl ?_
      refine xn_imul dX10_stuffer_90 ?_
      refine xn_ialdv dX10_stuffer_91 (st155 hs) (by omega) (by decide) (v := (q_cpy (q_I h 154) (q_I h 155) 210) (9 * f)) (rfl) ?_
      refine xe_icmp_gt (tgt := 149) dX10_stuffer_92 rfl (fun c2 => ?_) (fun c2 => ?_)
      · have c_r : ¬ nI a ≤ (q_cpy (q_I h 154) (q_I h 155) 210) (9 * f) := Int32.not_le.mpr c2
        rw [q_si, if_neg (by show ¬ (decide (nI a ≤ (q_cpy (q_I h 154) (q_I h 155) 210) (9 * f)) && !(decide (t = f))) = true; simp only [Bool.and_eq_true, decide_eq_true_eq, Bool.not_eq_true', decide_eq_false_iff_not]; intro q; exact absurd q.1 c_r)] at hK
        refine xe_locals (L' := [(0, .ref 124), (1, .int (nI most)), (2, .int (nI k)), (3, .int i), (4, .int (nI c)), (5, .int (nI f)), (6, .int (nI t))]) (And.intro rfl (And.intro rfl (And.intro rfl (And.intro rfl (And.intro rfl (And.intro rfl (And.intro rfl trivial))))))) ?_
        exact hK
      · have c_r : nI a ≤ (q_cpy (q_I h 154) (q_I h 155) 210) (9 * f) := Int32.not_lt.mp c2
        refine xe_iload dX10_stuffer_95 rfl ?_
        refine xe_iload dX10_stuffer_97 rfl ?_
        refine xn_icmp_eq (tgt := 149) dX10_stuffer_99 rfl (by omega) (by omega) (fun c3 => ?_) (fun c3 => ?_)
        · have c_t : t = f := c3
          rw [q_si, if_neg (by show ¬ (decide (nI a ≤ (q_cpy (q_I h 154) (q_I h 155) 210) (9 * f)) && !(decide (t = f))) = true; simp only [Bool.and_eq_true, decide_eq_true_eq, Bool.not_eq_true', decide_eq_false_iff_not]; intro q; exact q.2 c_t)] at hK
          refine xe_locals (L' := [(0, .ref 124), (1, .int (nI most)), (2, .int (nI k)), (3, .int i), (4, .int (nI c)), (5, .int (nI f)), (6, .int (nI t))]) (And.intro rfl (And.intro rfl (And.intro rfl (And.intro rfl (And.intro rfl (And.intro rfl (And.intro rfl trivial))))))) ?_
          exact hK
        · have c_g : (fun a => decide (nI a ≤ (q_cpy (q_I h 154) (q_I h 155) 210) (9 * f)) && !(decide (t = f))) a = true := by
            show (decide (nI a ≤ (q_cpy (q_I h 154) (q_I h 155) 210) (9 * f)) && !(decide (t = f))) = true
            rw [decide_eq_true c_r, decide_eq_false c3]
            rfl
          refine xe_aload_n dX10_stuffer_102 rfl ?_
          refine xe_iload dX10_stuffer_103 rfl ?_
          refine xe_iload dX10_stuffer_105 rfl ?_
          refine xe_iload_n dX10_stuffer_107 rfl ?_
          refine xe_callVI (d' := 1) (y' := mX10_isSo) dX10_stuffer_108 mlX10_407 mvX10_isSo rfl (st124 hs) (by decide) rfl (by decide) (by decide) (Nat.le_of_ble_eq_true rfl) (c_X10_isSo l g _ (by exact hs) (by exact hp) _ _ _ (by omega) (by omega)) rfl ?_
          refine xe_top (v' := q_bv (q_all (q_sok (q_cpy (q_I h 154) (q_I h 155) 210) (q_I h 166) (q_I h 167) nm t (nI a)) k)) rfl ?_
          refine xe_if_ne (tgt := 117) dX10_stuffer_111 rfl (fun c4 => ?_) (fun c4 => ?_)
          · have c_ok : (fun a => q_all (q_sok (q_cpy (q_I h 154) (q_I h 155) 210) (q_I h 166) (q_I h 167) nm t (nI a)) k) a = true := by
              show q_all (q_sok (q_cpy (q_I h 154) (q_I h 155) 210) (q_I h 166) (q_I h 167) nm t (nI a)) k = true
              cases q : q_all (q_sok (q_cpy (q_I h 154) (q_I h 155) 210) (q_I h 166) (q_I h 167) nm t (nI a)) k
              · rw [q] at c4
                exact absurd rfl c4
              · rfl
            refine xe_iload dX10_stuffer_117 rfl ?_
            refine xe_iload_n dX10_stuffer_119 rfl ?_
            refine xe_icmp_ne (tgt := 140) dX10_stuffer_120 rfl (fun c5 => ?_) (fun c5 => ?_)
            · have c_i := c5
              refine xn_iinc dX10_stuffer_140 rfl kc_1 ?_
              refine xn_iinc dX10_stuffer_143 rfl kc_1 ?_
              refine xe_goto (tgt := 74) dX10_stuffer_146 rfl ?_
              rw [q_si, if_pos c_g, if_pos c_ok, if_neg c_i] at hK
              refine xe_locals (L' := [(0, .ref 124), (1, .int (nI most)), (2, .int (nI k)), (3, .int i), (4, .int (nI (c + 1))), (5, .int (nI f)), (6, .int (nI t)), (7, .int (nI (a + 1)))]) (And.intro rfl (And.intro rfl (And.intro rfl (And.intro rfl (And.intro rfl (And.intro rfl (And.intro rfl (And.intro rfl trivial)))))))) ?_
              exact ih (a + 1) (c + 1) (by omega) (by omega) (by omega) hK
            · have c_i := c5
              refine xe_sipush dX10_stuffer_123 ks_10000 ?_
              refine xe_iload dX10_stuffer_126 rfl ?_
              refine xn_imul dX10_stuffer_128 ?_
              refine xe_sipush dX10_stuffer_129 ks_1000 ?_
              refine xe_iload dX10_stuffer_132 rfl ?_
              refine xn_imul dX10_stuffer_134 ?_
              refine xn_iadd dX10_stuffer_135 ?_
              refine xe_iload dX10_stuffer_136 rfl ?_
              refine xn_iadd dX10_stuffer_138 ?_
              refine xe_ireturn dX10_stuffer_139 rfl (by first | rfl | decide +kernel) ?_
              rw [q_si, if_pos c_g, if_pos c_ok, if_pos c_i] at hK
              exact ⟨congrArg (fun v => some (Value.int v)) (Eq.symm hK), rfl⟩
          · have c_ok : q_all (q_sok (q_cpy (q_I h 154) (q_I h 155) 210) (q_I h 166) (q_I h 167) nm t (nI a)) k = false := by
              cases q : q_all (q_sok (q_cpy (q_I h 154) (q_I h 155) 210) (q_I h 166) (q_I h 167) nm t (nI a)) k
              · rfl
              · rw [q] at c4
                exact absurd c4 (by decide)
            refine xe_goto (tgt := 143) dX10_stuffer_114 rfl ?_
            refine xn_iinc dX10_stuffer_143 rfl kc_1 ?_
            refine xe_goto (tgt := 74) dX10_stuffer_146 rfl ?_
            rw [q_si, if_pos c_g, if_neg (by show ¬ q_all (q_sok (q_cpy (q_I h 154) (q_I h 155) 210) (q_I h 166) (q_I h 167) nm t (nI a)) k = true; rw [c_ok]; decide)] at hK
            refine xe_locals (L' := [(0, .ref 124), (1, .int (nI most)), (2, .int (nI k)), (3, .int i), (4, .int (nI c)), (5, .int (nI f)), (6, .int (nI t)), (7, .int (nI (a + 1)))]) (And.intro rfl (And.intro rfl (And.intro rfl (And.intro rfl (And.intro rfl (And.intro rfl (And.intro rfl (And.intro rfl trivial)))))))) ?_
            exact ih (a + 1) c (by omega) (by omega) (by omega) hK
theorem q_stuf_mi (l : Launch) (g : q_GP) (h : q_H) (hs : q_Stat h) {lv nm nd nc mo : Nat} (hp : rm_P h lv nm nd nc mo) (most k : Nat) (i rs : Int32) (hm2 : most ≤ 200) (hk : k ≤ 20) (f : Nat) (hf : f < nm) : ∀ n t c, t + n = nm → c + n * 200 ≤ 16000 → q_res rs (q_sl (q_sft (q_cpy (q_I h 154) (q_I h 155) 210) (q_I h 166) (q_I h 167) nm most k i f) n t c) (fun c => q_Ex l g 2 mX10_stuffer 155 [(0, .ref 124), (1, .int (nI most)), (2, .int (nI k)), (3, .int i), (4, .int (nI c)), (5, .int (nI f))] [] (q_wI h 155 (q_cpy (q_I h 154) (q_I h 155) 210)) (fun r h1 => r = some (.int rs) ∧ h1 = (q_wI h 155 (q_cpy (q_I h 154) (q_I h 155) 210)))) → q_Ex l g 2 mX10_stuffer 57 [(0, .ref 124), (1, .int (nI most)), (2, .int (nI k)), (3, .int i), (4, .int (nI c)), (5, .int (nI f)), (6, .int (nI t))] [] (q_wI h 155 (q_cpy (q_I h 154) (q_I h 155) 210)) (fun r h1 => r = some (.int rs) ∧ h1 = (q_wI h 155 (q_cpy (q_I h 154) (q_I h 155) 210))) := by
  obtain ⟨p1, p2, p3, p4, p5, p6, p7, p8, p9, p10⟩ := id hp
  intro n
  induction n with
  | zero =>
    intro t c han hc hK
    refine xe_iload dX10_stuffer_57 rfl ?_
    refine xe_aload_n dX10_stuffer_59 rfl ?_
    refine xe_getP dX10_stuffer_60 flX10_49 (st124 hs) (by decide) rfl (sp124_24 hs) ?_
    refine xe_aload_n dX10_stuffer_63 rfl ?_
    refine xe_getIv dX10_stuffer_64 flX10_228 (st124 hs) (by decide) rfl (v := nI lv) (p1) ?_
    refine xn_ialdv dX10_stuffer_67 (st135 hs) (by omega) (by decide) (v := nI nm) (p3) ?_
    refine xn_icmp_ge (tgt := 155) dX10_stuffer_68 rfl (by omega) (by omega) (fun c1 => ?_) (fun c1 => ?_)
    · refine xe_locals (L' := [(0, .ref 124), (1, .int (nI most)), (2, .int (nI k)), (3, .int i), (4, .int (nI c)), (5, .int (nI f))]) (And.intro rfl (And.intro rfl (And.intro rfl (And.intro rfl (And.intro rfl (And.intro rfl trivial)))))) ?_
      exact hK
    · omega
  | succ n ih =>
    intro t c han hc hK
    have hc2 : c + (n * 200 + 200) ≤ 16000 := by rw [Nat.succ_mul] at hc; exact hc
    refine xe_iload dX10_stuffer_57 rfl ?_
    refine xe_aload_n dX10_stuffer_59 rfl ?_
    refine xe_getP dX10_stuffer_60 flX10_49 (st124 hs) (by decide) rfl (sp124_24 hs) ?_
    refine xe_aload_n dX10_stuffer_63 rfl ?_
    refine xe_getIv dX10_stuffer_64 flX10_228 (st124 hs) (by decide) rfl (v := nI lv) (p1) ?_
    refine xn_ialdv dX10_stuffer_67 (st135 hs) (by omega) (by decide) (v := nI nm) (p3) ?_
    refine xn_icmp_ge (tgt := 155) dX10_stuffer_68 rfl (by omega) (by omega) (fun c1 => ?_) (fun c1 => ?_)
    · omega
    · refine xe_iconst dX10_stuffer_71 kc_1 ?_
      refine xe_istore dX10_stuffer_72 (by decide) rfl ?_
      refine xe_locals (L' := [(0, .ref 124), (1, .int (nI most)), (2, .int (nI k)), (3, .int i), (4, .int (nI c)), (5, .int (nI f)), (6, .int (nI t)), (7, .int (nI 1))]) (And.intro rfl (And.intro rfl (And.intro rfl (And.intro rfl (And.intro rfl (And.intro rfl (And.intro rfl (And.intro rfl trivial)))))))) ?_
      refine q_stuf_in l g h hs hp most k i rs hm2 hk f t hf (by omega) most 1 c (by omega) (Nat.le_refl 1) (by omega) ?_
      rw [q_sl] at hK
      cases hst : q_sft (q_cpy (q_I h 154) (q_I h 155) 210) (q_I h 166) (q_I h 167) nm most k i f t c with
      | inl v =>
        rw [hst] at hK
        rw [show q_si (fun a => decide (nI a ≤ (q_cpy (q_I h 154) (q_I h 155) 210) (9 * f)) && !(decide (t = f))) (fun a => q_all (q_sok (q_cpy (q_I h 154) (q_I h 155) 210) (q_I h 166) (q_I h 167) nm t (nI a)) k) i (fun a => nI (10000 * f + 1000 * t + a)) most 1 c = .inl v from hst]
        exact hK
      | inr c2 =>
        rw [hst] at hK
        have hle := q_si_le (fun a => decide (nI a ≤ (q_cpy (q_I h 154) (q_I h 155) 210) (9 * f)) && !(decide (t = f))) (fun a => q_all (q_sok (q_cpy (q_I h 154) (q_I h 155) 210) (q_I h 166) (q_I h 167) nm t (nI a)) k) i (fun a => nI (10000 * f + 1000 * t + a)) most 1 c c2 hst
        rw [show q_si (fun a => decide (nI a ≤ (q_cpy (q_I h 154) (q_I h 155) 210) (9 * f)) && !(decide (t = f))) (fun a => q_all (q_sok (q_cpy (q_I h 154) (q_I h 155) 210) (q_I h 166) (q_I h 167) nm t (nI a)) k) i (fun a => nI (10000 * f + 1000 * t + a)) most 1 c = .inr c2 from hst]
        show q_Ex l g 2 mX10_stuffer 149 [(0, .ref 124), (1, .int (nI most)), (2, .int (nI k)), (3, .int i), (4, .int (nI c2)), (5, .int (nI f)), (6, .int (nI t))] [] (q_wI h 155 (q_cpy (q_I h 154) (q_I h 155) 210)) (fun r h1 => r = some (.int rs) ∧ h1 = (q_wI h 155 (q_cpy (q_I h 154) (q_I h 155) 210)))
        refine xn_iinc dX10_stuffer_149 rfl kc_1 ?_
        refine xe_goto (tgt := 57) dX10_stuffer_152 rfl ?_
        refine xe_locals (L' := [(0, .ref 124), (1, .int (nI most)), (2, .int (nI k)), (3, .int i), (4, .int (nI c2)), (5, .int (nI f)), (6, .int (nI (t + 1)))]) (And.intro rfl (And.intro rfl (And.intro rfl (And.intro rfl (And.intro rfl (And.intro rfl (And.intro rfl trivial))))))) ?_
        exact ih (t + 1) c2 (by omega) (by omega) hK
theorem q_stuf_ou (l : Launch) (g : q_GP) (h : q_H) (hs : q_Stat h) {lv nm nd nc mo : Nat} (hp : rm_P h lv nm nd nc mo) (most k : Nat) (i rs : Int32) (hm2 : most ≤ 200) (hk : k ≤ 20) : ∀ n f c, f + n = nm → c + n * 1600 ≤ 13000 → q_res rs (q_sl (fun f c => q_sl (q_sft (q_cpy (q_I h 154) (q_I h 155) 210) (q_I h 166) (q_I h 167) nm most k i f) nm 0 c) n f c) (fun c => q_Ex l g 2 mX10_stuffer 161 [(0, .ref 124), (1, .int (nI most)), (2, .int (nI k)), (3, .int i), (4, .int (nI c))] [] (q_wI h 155 (q_cpy (q_I h 154) (q_I h 155) 210)) (fun r h1 => r = some (.int rs) ∧ h1 = (q_wI h 155 (q_cpy (q_I h 154) (q_I h 155) 210)))) → q_Ex l g 2 mX10_stuffer 40 [(0, .ref 124), (1, .int (nI most)), (2, .int (nI k)), (3, .int i), (4, .int (nI c)), (5, .int (nI f))] [] (q_wI h 155 (q_cpy (q_I h 154) (q_I h 155) 210)) (fun r h1 => r = some (.int rs) ∧ h1 = (q_wI h 155 (q_cpy (q_I h 154) (q_I h 155) 210))) := by
  obtain ⟨p1, p2, p3, p4, p5, p6, p7, p8, p9, p10⟩ := id hp
  intro n
  induction n with
  | zero =>
    intro f c han hc hK
    refine xe_iload dX10_stuffer_40 rfl ?_
    refine xe_aload_n dX10_stuffer_42 rfl ?_
    refine xe_getP dX10_stuffer_43 flX10_49 (st124 hs) (by decide) rfl (sp124_24 hs) ?_
    refine xe_aload_n dX10_stuffer_46 rfl ?_
    refine xe_getIv dX10_stuffer_47 flX10_228 (st124 hs) (by decide) rfl (v := nI lv) (p1) ?_
    refine xn_ialdv dX10_stuffer_50 (st135 hs) (by omega) (by decide) (v := nI nm) (p3) ?_
    refine xn_icmp_ge (tgt := 161) dX10_stuffer_51 rfl (by omega) (by omega) (fun c1 => ?_) (fun c1 => ?_)
    · refine xe_locals (L' := [(0, .ref 124), (1, .int (nI most)), (2, .int (nI k)), (3, .int i), (4, .int (nI c))]) (And.intro rfl (And.intro rfl (And.intro rfl (And.intro rfl (And.intro rfl trivial))))) ?_
      exact hK
    · omega
  | succ n ih =>
    intro f c han hc hK
    have hc2 : c + (n * 1600 + 1600) ≤ 13000 := by rw [Nat.succ_mul] at hc; exact hc
    refine xe_iload dX10_stuffer_40 rfl ?_
    refine xe_aload_n dX10_stuffer_42 rfl ?_
    refine xe_getP dX10_stuffer_43 flX10_49 (st124 hs) (by decide) rfl (sp124_24 hs) ?_
    refine xe_aload_n dX10_stuffer_46 rfl ?_
    refine xe_getIv dX10_stuffer_47 flX10_228 (st124 hs) (by decide) rfl (v := nI lv) (p1) ?_
    refine xn_ialdv dX10_stuffer_50 (st135 hs) (by omega) (by decide) (v := nI nm) (p3) ?_
    refine xn_icmp_ge (tgt := 161) dX10_stuffer_51 rfl (by omega) (by omega) (fun c1 => ?_) (fun c1 => ?_)
    · omega
    · refine xe_iconst dX10_stuffer_54 kc_0 ?_
      refine xe_istore dX10_stuffer_55 (by decide) rfl ?_
      refine xe_locals (L' := [(0, .ref 124), (1, .int (nI most)), (2, .int (nI k)), (3, .int i), (4, .int (nI c)), (5, .int (nI f)), (6, .int (nI 0))]) (And.intro rfl (And.intro rfl (And.intro rfl (And.intro rfl (And.intro rfl (And.intro rfl (And.intro rfl trivial))))))) ?_
      refine q_stuf_mi l g h hs hp most k i rs hm2 hk f (by omega) nm 0 c (Nat.zero_add _) (by omega) ?_
      rw [q_sl] at hK
      cases hst : q_sl (q_sft (q_cpy (q_I h 154) (q_I h 155) 210) (q_I h 166) (q_I h 167) nm most k i f) nm 0 c with
      | inl v =>
        rw [hst] at hK
        exact hK
      | inr c2 =>
        rw [hst] at hK
        have hle := q_sl_le (b := 200) (fun j c c' h => Nat.le_trans (q_si_le _ _ _ _ _ _ _ _ h) (by omega)) nm 0 c c2 hst
        have hle2 : nm * 200 ≤ 1600 := by omega
        show q_Ex l g 2 mX10_stuffer 155 [(0, .ref 124), (1, .int (nI most)), (2, .int (nI k)), (3, .int i), (4, .int (nI c2)), (5, .int (nI f))] [] (q_wI h 155 (q_cpy (q_I h 154) (q_I h 155) 210)) (fun r h1 => r = some (.int rs) ∧ h1 = (q_wI h 155 (q_cpy (q_I h 154) (q_I h 155) 210)))
        refine xn_iinc dX10_stuffer_155 rfl kc_1 ?_
        refine xe_goto (tgt := 40) dX10_stuffer_158 rfl ?_
        refine xe_locals (L' := [(0, .ref 124), (1, .int (nI most)), (2, .int (nI k)), (3, .int i), (4, .int (nI c2)), (5, .int (nI (f + 1)))]) (And.intro rfl (And.intro rfl (And.intro rfl (And.intro rfl (And.intro rfl (And.intro rfl trivial)))))) ?_
        exact ih (f + 1) c2 (by omega) (by omega) hK
theorem c_X10_stuffer_t (l : Launch) (g : q_GP) (h : q_H) (hs : q_Stat h) {lv nm nd nc mo : Nat} (hp : rm_P h lv nm nd nc mo) {told : Nat} (htd : q_I h 124 62 = nI told) (htd2 : told ≤ 20) (most k : Nat) (i : Int32) (hm1 : 1 ≤ most) (hm2 : most ≤ 200) (hk : k ≤ told) (hi : -1 ≤ i) : q_Cd l g 2 mX10_stuffer [.ref 124, .int (nI most), .int (nI k), .int i] h (some (.int (q_stf (q_cpy (q_I h 154) (q_I h 155) 210) (q_I h 166) (q_I h 167) nm most k i))) (q_wI h 155 (q_cpy (q_I h 154) (q_I h 155) 210)) := by
  obtain ⟨p1, p2, p3, p4, p5, p6, p7, p8, p9, p10⟩ := id hp
  refine q_CdV mvX10_stuffer (Nat.le_of_ble_eq_true rfl) ?_
  refine xe_iload_n dX10_stuffer_0 rfl ?_
  refine xe_iconst dX10_stuffer_1 kc_1 ?_
  refine xe_sipush dX10_stuffer_2 ks_200 ?_
  refine xe_callSI (d' := 0) (y' := mX10_in) dX10_stuffer_5 mlX10_312 msX10_in rfl (by decide) (by decide) (Nat.le_of_ble_eq_true rfl) (c_X10_inv l g _ _ _ _ (q_in_t (by omega) (by omega) (by decide))) rfl ?_
  refine xn_if_eq (tgt := 28) dX10_stuffer_8 rfl (by omega) (fun c1 => ?_) (fun c1 => ?_)
  · omega
  · refine xe_iload_n dX10_stuffer_11 rfl ?_
    refine xe_iconst dX10_stuffer_12 kc_0 ?_
    refine xe_aload_n dX10_stuffer_13 rfl ?_
    refine xe_getIv dX10_stuffer_14 flX10_249 (st124 hs) (by decide) rfl (v := nI told) (htd) ?_
    refine xe_callSI (d' := 0) (y' := mX10_in) dX10_stuffer_17 mlX10_312 msX10_in rfl (by decide) (by decide) (Nat.le_of_ble_eq_true rfl) (c_X10_inv l g _ _ _ _ (q_in_t (by omega) (by omega) (by omega))) rfl ?_
    refine xn_if_eq (tgt := 28) dX10_stuffer_20 rfl (by omega) (fun c2 => ?_) (fun c2 => ?_)
    · omega
    · refine xe_iload_n dX10_stuffer_23 rfl ?_
      refine xe_iconst dX10_stuffer_24 kc_m1 ?_
      refine xe_icmp_ge (tgt := 30) dX10_stuffer_25 rfl (fun c3 => ?_) (fun c3 => ?_)
      · refine xe_aload_n dX10_stuffer_30 rfl ?_
        refine xe_callVV (d' := 0) (y' := mX10_copies) dX10_stuffer_31 mlX10_343 mvX10_copies rfl (st124 hs) (by decide) rfl (by decide) (by decide) (Nat.le_of_ble_eq_true rfl) (c_X10_copies l g _ (by exact hs)) rfl ?_
        refine xe_iconst dX10_stuffer_34 kc_0 ?_
        refine xe_istore dX10_stuffer_35 (by decide) rfl ?_
        refine xe_iconst dX10_stuffer_37 kc_0 ?_
        refine xe_istore dX10_stuffer_38 (by decide) rfl ?_
        refine xe_locals (L' := [(0, .ref 124), (1, .int (nI most)), (2, .int (nI k)), (3, .int i), (4, .int (nI 0)), (5, .int (nI 0))]) (And.intro rfl (And.intro rfl (And.intro rfl (And.intro rfl (And.intro rfl (And.intro rfl trivial)))))) ?_
        refine q_stuf_ou l g h hs hp most k i (q_stf (q_cpy (q_I h 154) (q_I h 155) 210) (q_I h 166) (q_I h 167) nm most k i) (by omega) (by omega) nm 0 0 (Nat.zero_add _) (by omega) ?_
        unfold q_stf
        cases hst : q_sl (fun f c => q_sl (q_sft (q_cpy (q_I h 154) (q_I h 155) 210) (q_I h 166) (q_I h 167) nm most k i f) nm 0 c) nm 0 0 with
        | inl v => exact rfl
        | inr c =>
          have hle := q_sl_le (b := 1600) (fun j c c' h => Nat.le_trans (q_sl_le (b := 200) (fun j c c' h => Nat.le_trans (q_si_le _ _ _ _ _ _ _ _ h) (by omega)) nm 0 c c' h) (by omega)) nm 0 0 c hst
          show q_Ex l g 2 mX10_stuffer 161 [(0, .ref 124), (1, .int (nI most)), (2, .int (nI k)), (3, .int i), (4, .int (nI c))] [] (q_wI h 155 (q_cpy (q_I h 154) (q_I h 155) 210)) (fun r h1 => r = some (.int (if i = -1 then nI c else -1)) ∧ h1 = (q_wI h 155 (q_cpy (q_I h 154) (q_I h 155) 210)))
          refine xe_iload_n dX10_stuffer_161 rfl ?_
          refine xe_iconst dX10_stuffer_162 kc_m1 ?_
          refine xe_icmp_ne (tgt := 171) dX10_stuffer_163 rfl (fun c1 => ?_) (fun c1 => ?_)
          · have c_f := c1
            refine xe_iconst dX10_stuffer_171 kc_m1 ?_
            refine xe_ireturn dX10_stuffer_172 rfl (by first | rfl | decide +kernel) ?_
            exact ⟨by first | rw [if_pos c_f] | rw [if_neg c_f], rfl⟩
          · have c_f := c1
            refine xe_iload dX10_stuffer_166 rfl ?_
            refine xe_goto (tgt := 172) dX10_stuffer_168 rfl ?_
            refine xe_ireturn dX10_stuffer_172 rfl (by first | rfl | decide +kernel) ?_
            exact ⟨by first | rw [if_pos c_f] | rw [if_neg c_f], rfl⟩
      · exact absurd hi c3
theorem c_X10_stuffer_a (l : Launch) (g : q_GP) (h : q_H) (hs : q_Stat h) {lv nm nd nc mo : Nat} (hp : rm_P h lv nm nd nc mo) {told : Nat} (htd : q_I h 124 62 = nI told) (htd2 : told ≤ 20) (x z i : Int32) (hx : ¬ ∃ k, 1 ≤ k ∧ k ≤ 200 ∧ x = nI k) : q_Cd l g 2 mX10_stuffer [.ref 124, .int x, .int z, .int i] h (some (.int (-1))) h := by
  obtain ⟨p1, p2, p3, p4, p5, p6, p7, p8, p9, p10⟩ := id hp
  refine q_CdV mvX10_stuffer (Nat.le_of_ble_eq_true rfl) ?_
  refine xe_iload_n dX10_stuffer_0 rfl ?_
  refine xe_iconst dX10_stuffer_1 kc_1 ?_
  refine xe_sipush dX10_stuffer_2 ks_200 ?_
  refine xe_callSI (d' := 0) (y' := mX10_in) dX10_stuffer_5 mlX10_312 msX10_in rfl (by decide) (by decide) (Nat.le_of_ble_eq_true rfl) (c_X10_inv l g _ _ _ _ (q_in_f (by decide) (by decide) hx)) rfl ?_
  refine xn_if_eq (tgt := 28) dX10_stuffer_8 rfl (by omega) (fun c1 => ?_) (fun c1 => ?_)
  · refine xe_iconst dX10_stuffer_28 kc_m1 ?_
    refine xe_ireturn dX10_stuffer_29 rfl (by first | rfl | decide +kernel) ?_
    exact ⟨rfl, rfl⟩
  · omega
theorem c_X10_stuffer_b (l : Launch) (g : q_GP) (h : q_H) (hs : q_Stat h) {lv nm nd nc mo : Nat} (hp : rm_P h lv nm nd nc mo) {told : Nat} (htd : q_I h 124 62 = nI told) (htd2 : told ≤ 20) (most : Nat) (hm1 : 1 ≤ most) (hm2 : most ≤ 200) (z i : Int32) (hz : ¬ ∃ k, 0 ≤ k ∧ k ≤ told ∧ z = nI k) : q_Cd l g 2 mX10_stuffer [.ref 124, .int (nI most), .int z, .int i] h (some (.int (-1))) h := by
  obtain ⟨p1, p2, p3, p4, p5, p6, p7, p8, p9, p10⟩ := id hp
  refine q_CdV mvX10_stuffer (Nat.le_of_ble_eq_true rfl) ?_
  refine xe_iload_n dX10_stuffer_0 rfl ?_
  refine xe_iconst dX10_stuffer_1 kc_1 ?_
  refine xe_sipush dX10_stuffer_2 ks_200 ?_
  refine xe_callSI (d' := 0) (y' := mX10_in) dX10_stuffer_5 mlX10_312 msX10_in rfl (by decide) (by decide) (Nat.le_of_ble_eq_true rfl) (c_X10_inv l g _ _ _ _ (q_in_t (by omega) (by omega) (by decide))) rfl ?_
  refine xn_if_eq (tgt := 28) dX10_stuffer_8 rfl (by omega) (fun c1 => ?_) (fun c1 => ?_)
  · omega
  · refine xe_iload_n dX10_stuffer_11 rfl ?_
    refine xe_iconst dX10_stuffer_12 kc_0 ?_
    refine xe_aload_n dX10_stuffer_13 rfl ?_
    refine xe_getIv dX10_stuffer_14 flX10_249 (st124 hs) (by decide) rfl (v := nI told) (htd) ?_
    refine xe_callSI (d' := 0) (y' := mX10_in) dX10_stuffer_17 mlX10_312 msX10_in rfl (by decide) (by decide) (Nat.le_of_ble_eq_true rfl) (c_X10_inv l g _ _ _ _ (q_in_f (by omega) (by decide) hz)) rfl ?_
    refine xn_if_eq (tgt := 28) dX10_stuffer_20 rfl (by omega) (fun c2 => ?_) (fun c2 => ?_)
    · refine xe_iconst dX10_stuffer_28 kc_m1 ?_
      refine xe_ireturn dX10_stuffer_29 rfl (by first | rfl | decide +kernel) ?_
      exact ⟨rfl, rfl⟩
    · omega
theorem c_X10_stuffer_c (l : Launch) (g : q_GP) (h : q_H) (hs : q_Stat h) {lv nm nd nc mo : Nat} (hp : rm_P h lv nm nd nc mo) {told : Nat} (htd : q_I h 124 62 = nI told) (htd2 : told ≤ 20) (most k : Nat) (i : Int32) (hm1 : 1 ≤ most) (hm2 : most ≤ 200) (hk : k ≤ told) (hi : ¬ -1 ≤ i) : q_Cd l g 2 mX10_stuffer [.ref 124, .int (nI most), .int (nI k), .int i] h (some (.int (-1))) h := by
  obtain ⟨p1, p2, p3, p4, p5, p6, p7, p8, p9, p10⟩ := id hp
  refine q_CdV mvX10_stuffer (Nat.le_of_ble_eq_true rfl) ?_
  refine xe_iload_n dX10_stuffer_0 rfl ?_
  refine xe_iconst dX10_stuffer_1 kc_1 ?_
  refine xe_sipush dX10_stuffer_2 ks_200 ?_
  refine xe_callSI (d' := 0) (y' := mX10_in) dX10_stuffer_5 mlX10_312 msX10_in rfl (by decide) (by decide) (Nat.le_of_ble_eq_true rfl) (c_X10_inv l g _ _ _ _ (q_in_t (by omega) (by omega) (by decide))) rfl ?_
  refine xn_if_eq (tgt := 28) dX10_stuffer_8 rfl (by omega) (fun c1 => ?_) (fun c1 => ?_)
  · omega
  · refine xe_iload_n dX10_stuffer_11 rfl ?_
    refine xe_iconst dX10_stuffer_12 kc_0 ?_
    refine xe_aload_n dX10_stuffer_13 rfl ?_
    refine xe_getIv dX10_stuffer_14 flX10_249 (st124 hs) (by decide) rfl (v := nI told) (htd) ?_
    refine xe_callSI (d' := 0) (y' := mX10_in) dX10_stuffer_17 mlX10_312 msX10_in rfl (by decide) (by decide) (Nat.le_of_ble_eq_true rfl) (c_X10_inv l g _ _ _ _ (q_in_t (by omega) (by omega) (by omega))) rfl ?_
    refine xn_if_eq (tgt := 28) dX10_stuffer_20 rfl (by omega) (fun c2 => ?_) (fun c2 => ?_)
    · omega
    · refine xe_iload_n dX10_stuffer_23 rfl ?_
      refine xe_iconst dX10_stuffer_24 kc_m1 ?_
      refine xe_icmp_ge (tgt := 30) dX10_stuffer_25 rfl (fun c3 => ?_) (fun c3 => ?_)
      · exact absurd c3 hi
      · refine xe_iconst dX10_stuffer_28 kc_m1 ?_
        refine xe_ireturn dX10_stuffer_29 rfl (by first | rfl | decide +kernel) ?_
        exact ⟨rfl, rfl⟩
