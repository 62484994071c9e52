/-! the reference: laws; codes as lists -/
/-- one step of a code -/
def q_ar (k : Nat) (a b : Int32) : Int32 := if k = 2 then a + b else if k = 3 then a - b else if k = 4 then a * b else a / b
/-- a code's worth: what is on the pile at its end; none: something was divided by 0 -/
def q_ev (V : Nat → Int32) : List (Nat × Int32) → List Int32 → Option (List Int32)
  | [], st => some st
  | (0, v) :: r, st => q_ev V r (v :: st)
  | (1, v) :: r, st => q_ev V r (V v.toNatClampNeg :: st)
  | (k + 2, _) :: r, b :: a :: st => if k + 2 = 5 ∧ b = 0 then none else q_ev V r (q_ar (k + 2) a b :: st)
  | (_ + 2, _) :: _, _ => some []
/-- a code that goes through, from a height on: never above m, one number at the end -/
def q_wf (m : Nat) : List (Nat × Int32) → Nat → Prop
  | [], n => n = 1
  | (0, _) :: r, n => n + 1 ≤ m ∧ q_wf m r (n + 1)
  | (1, v) :: r, n => n + 1 ≤ m ∧ (∃ i, i < 6 ∧ v = nI i) ∧ q_wf m r (n + 1)
  | (k + 2, _) :: r, n => k ≤ 3 ∧ 2 ≤ n ∧ q_wf m r (n - 1)
/-- a code that stands in two rows from a place on -/
def q_sg (C V : Nat → Int32) : Nat → List (Nat × Int32) → Prop
  | _, [] => True
  | p, x :: r => C p = nI x.1 ∧ V p = x.2 ∧ q_sg C V (p + 1) r
/-- the pile, its top first -/
def q_st (p : Nat → Int32) : List Int32 → Prop
  | [] => True
  | x :: st => p st.length = x ∧ q_st p st
theorem q_st_up {p : Nat → Int32} {x : Int32} : ∀ {st : List Int32} {n : Nat}, q_st p st → st.length ≤ n → q_st (upd p n x) st
  | [], _, _, _ => trivial
  | y :: st, n, h, hn => by
    have hl : st.length + 1 ≤ n := hn
    refine ⟨?_, q_st_up h.2 (by omega)⟩
    rw [pk_un (by omega)]
    exact h.1
theorem q_st_push {p : Nat → Int32} {x : Int32} {st : List Int32} (h : q_st p st) : q_st (upd p st.length x) (x :: st) := ⟨pk_us, q_st_up h (Nat.le_refl _)⟩
/-- what the scratch of the laws may be -/
def q_scr (h : q_H) (p : Nat → Int32) (b : Int32) : q_H := q_wI (q_wI h 153 p) 124 (upd (q_I h 124) 46 b)
theorem q_scr_scr (h : q_H) (p p' : Nat → Int32) (b b' : Int32) : q_scr (q_scr h p b) p' b' = q_scr h p' b' := by
  unfold q_scr
  have e : q_I (q_wI (q_wI h 153 p) 124 (upd (q_I h 124) 46 b)) 124 = upd (q_I h 124) 46 b := q_Iw
  rw [e, q_wcI _ (by decide : (124 : Nat) ≠ 153), q_wwI, q_wwI]
  congr 1
  funext k
  unfold upd
  split <;> rfl
theorem q_scr_0 (h : q_H) : q_scr h (q_I h 153) (q_I h 124 46) = h := by
  unfold q_scr
  rw [q_wsI]
  have e : upd (q_I h 124) 46 (q_I h 124 46) = q_I h 124 := by
    funext k
    unfold upd
    split
    · next h => rw [h]
    · rfl
  rw [e, q_wsI]
theorem q_scr_p (h : q_H) (p p' : Nat → Int32) (b : Int32) : q_wI (q_scr h p b) 153 p' = q_scr h p' b := by
  unfold q_scr
  rw [q_wcI _ (by decide : (124 : Nat) ≠ 153), q_wwI]
theorem q_scr_b (h : q_H) (p : Nat → Int32) (b b' : Int32) : q_wI (q_scr h p b) 124 (upd (q_I (q_scr h p b) 124) 46 b') = q_scr h p b' := by
  unfold q_scr
  rw [q_Iw, q_wwI]
  congr 1
  funext k
  unfold upd
  split <;> rfl
theorem q_scr_I (h : q_H) (p : Nat → Int32) (b : Int32) : q_I (q_scr h p b) 153 = p := rfl
theorem q_two_of {st : List Int32} (h : 2 ≤ st.length) : ∃ z x st', st = z :: x :: st' := by
  match st, h with
  | z :: x :: st', _ => exact ⟨z, x, st', rfl⟩
set_option maxHeartbeats 4000000 in
/-- termOf's loop: codes xs are left, st is on the pile -/
theorem q_termOf_loop (l : Launch) (g : q_GP) (h : q_H) (hs : q_Stat h) (f to : Nat) (br : Int32) (Q : Option Value → q_H → Prop) (hto : to ≤ 840) : ∀ (xs : List (Nat × Int32)) (st : List Int32) (p : Nat → Int32) (at' : Nat), at' + xs.length = to → q_sg (q_I h 149) (q_I h 150) at' xs → q_wf 400 xs st.length → st.length ≤ 400 → q_st p st →
    (∀ p' v, q_ev (q_I h 152) xs st = some [v] → Q (some (.int v)) (q_scr h p' br)) → (∀ p', q_ev (q_I h 152) xs st = none → Q (some (.int (nI 0))) (q_scr h p' (nI 1))) →
    q_Ex l g 0 mX10_termOf 5 [(0, .ref 124), (1, .int (nI f)), (2, .int (nI to)), (3, .int (nI st.length)), (4, .int (nI at'))] [] (q_scr h p br) Q := by
  intro xs
  induction xs with
  | nil =>
    intro st p at' hat hsg hwf hst hp hQ hQn
    obtain ⟨x, rfl⟩ : ∃ x, st = [x] := List.length_eq_one_iff.mp hwf
    have hat : at' = to := hat
    refine xe_iload dX10_termOf_5 rfl ?_
    refine xe_iload_n dX10_termOf_7 rfl ?_
    refine xn_icmp_ge (tgt := 165) dX10_termOf_8 rfl (by omega) (by omega) (fun c1 => ?_) (fun c1 => ?_)
    · refine xe_aload_n dX10_termOf_165 rfl ?_
      refine xe_getP dX10_termOf_166 flX10_104 (st124 hs) (by decide) rfl (sp124_45 hs) ?_
      refine xe_iconst dX10_termOf_169 kc_0 ?_
      refine xn_ialdv dX10_termOf_170 (st153 hs) (by omega) (by decide) (v := x) (hp.1) ?_
      refine xe_ireturn dX10_termOf_171 rfl (by first | rfl | decide +kernel) ?_
      exact hQ p x rfl
    · omega
  | cons x xs ih =>
    intro st p at' hat hsg hwf hst hp hQ hQn
    have hat : at' + (xs.length + 1) = to := hat
    obtain ⟨op, v⟩ := x
    obtain ⟨hg1, hg2, hg3⟩ := hsg
    have hg1 : q_I h 149 at' = nI op := hg1
    have hg2 : q_I h 150 at' = v := hg2
    match op, hg1, hwf, hQ, hQn with
    | 0, hg1, hwf, hQ, hQn =>
      obtain ⟨hw1, hw2⟩ := hwf
      refine xe_iload dX10_termOf_5 rfl ?_
      refine xe_iload_n dX10_termOf_7 rfl ?_
      refine xn_icmp_ge (tgt := 165) dX10_termOf_8 rfl (by omega) (by omega) (fun c2 => ?_) (fun c2 => ?_)
      · omega
      · refine xe_aload_n dX10_termOf_11 rfl ?_
        refine xe_getP dX10_termOf_12 flX10_92 (st124 hs) (by decide) rfl (sp124_40 hs) ?_
        refine xe_iload dX10_termOf_15 rfl ?_
        refine xn_ialdv dX10_termOf_17 (st149 hs) (by omega) (by decide) (v := nI 0) (hg1) ?_
        refine xe_istore dX10_termOf_18 (by decide) rfl ?_
        refine xe_iload dX10_termOf_20 rfl ?_
        refine xe_iconst dX10_termOf_22 kc_2 ?_
        refine xn_icmp_ge (tgt := 65) dX10_termOf_23 rfl (by omega) (by omega) (fun c3 => ?_) (fun c3 => ?_)
        · omega
        · refine xe_aload_n dX10_termOf_26 rfl ?_
          refine xe_getP dX10_termOf_27 flX10_104 (st124 hs) (by decide) rfl (sp124_45 hs) ?_
          refine xe_iload_n dX10_termOf_30 rfl ?_
          refine xe_iload dX10_termOf_31 rfl ?_
          refine xn_if_ne (tgt := 46) dX10_termOf_33 rfl (by omega) (fun c4 => ?_) (fun c4 => ?_)
          · omega
          · refine xe_aload_n dX10_termOf_36 rfl ?_
            refine xe_getP dX10_termOf_37 flX10_95 (st124 hs) (by decide) rfl (sp124_41 hs) ?_
            refine xe_iload dX10_termOf_40 rfl ?_
            refine xn_ialdv dX10_termOf_42 (st150 hs) (by omega) (by decide) (v := v) (hg2) ?_
            refine xe_goto (tgt := 58) dX10_termOf_43 rfl ?_
            refine xn_iast dX10_termOf_58 (st153 hs) (by omega) (by decide) ?_
            refine xn_iinc dX10_termOf_59 rfl kc_1 ?_
            refine xe_goto (tgt := 159) dX10_termOf_62 rfl ?_
            refine xn_iinc dX10_termOf_159 rfl kc_1 ?_
            refine xe_goto (tgt := 5) dX10_termOf_162 rfl ?_
            refine xe_heap (h2 := q_scr h (upd p st.length v) br) (by first | exact q_scr_p _ _ _ _ | rfl) ?_
            refine xe_locals (L' := [(0, .ref 124), (1, .int (nI f)), (2, .int (nI to)), (3, .int (nI (v :: st).length)), (4, .int (nI (at' + 1)))]) (And.intro rfl (And.intro rfl (And.intro rfl (And.intro rfl (And.intro rfl trivial))))) ?_
            exact ih (v :: st) (upd p st.length v) (at' + 1) (by omega) hg3 hw2 hw1 (q_st_push hp) hQ hQn
    | 1, hg1, hwf, hQ, hQn =>
      obtain ⟨hw1, ⟨i, hi, rfl⟩, hw2⟩ := hwf
      refine xe_iload dX10_termOf_5 rfl ?_
      refine xe_iload_n dX10_termOf_7 rfl ?_
      refine xn_icmp_ge (tgt := 165) dX10_termOf_8 rfl (by omega) (by omega) (fun c5 => ?_) (fun c5 => ?_)
      · omega
      · refine xe_aload_n dX10_termOf_11 rfl ?_
        refine xe_getP dX10_termOf_12 flX10_92 (st124 hs) (by decide) rfl (sp124_40 hs) ?_
        refine xe_iload dX10_termOf_15 rfl ?_
        refine xn_ialdv dX10_termOf_17 (st149 hs) (by omega) (by decide) (v := nI 1) (hg1) ?_
        refine xe_istore dX10_termOf_18 (by decide) rfl ?_
        refine xe_iload dX10_termOf_20 rfl ?_
        refine xe_iconst dX10_termOf_22 kc_2 ?_
        refine xn_icmp_ge (tgt := 65) dX10_termOf_23 rfl (by omega) (by omega) (fun c6 => ?_) (fun c6 => ?_)
        · omega
        · refine xe_aload_n dX10_termOf_26 rfl ?_
          refine xe_getP dX10_termOf_27 flX10_104 (st124 hs) (by decide) rfl (sp124_45 hs) ?_
          refine xe_iload_n dX10_termOf_30 rfl ?_
          refine xe_iload dX10_termOf_31 rfl ?_
          refine xn_if_ne (tgt := 46) dX10_termOf_33 rfl (by omega) (fun c7 => ?_) (fun c7 => ?_)
          · refine xe_aload_n dX10_termOf_46 rfl ?_
            refine xe_getP dX10_termOf_47 flX10_101 (st124 hs) (by decide) rfl (sp124_44 hs) ?_
            refine xe_aload_n dX10_termOf_50 rfl ?_
            refine xe_getP dX10_termOf_51 flX10_95 (st124 hs) (by decide) rfl (sp124_41 hs) ?_
            refine xe_iload dX10_termOf_54 rfl ?_
            refine xn_ialdv dX10_termOf_56 (st150 hs) (by omega) (by decide) (v := nI i) (hg2) ?_
            refine xn_ialdf dX10_termOf_57 (st152 hs) (by omega) (by decide) (f := q_I h 152) rfl ?_
            refine xn_iast dX10_termOf_58 (st153 hs) (by omega) (by decide) ?_
            refine xn_iinc dX10_termOf_59 rfl kc_1 ?_
            refine xe_goto (tgt := 159) dX10_termOf_62 rfl ?_
            refine xn_iinc dX10_termOf_159 rfl kc_1 ?_
            refine xe_goto (tgt := 5) dX10_termOf_162 rfl ?_
            refine xe_heap (h2 := q_scr h (upd p st.length (q_I h 152 i)) br) (by first | exact q_scr_p _ _ _ _ | rfl) ?_
            refine xe_locals (L' := [(0, .ref 124), (1, .int (nI f)), (2, .int (nI to)), (3, .int (nI (q_I h 152 i :: st).length)), (4, .int (nI (at' + 1)))]) (And.intro rfl (And.intro rfl (And.intro rfl (And.intro rfl (And.intro rfl trivial))))) ?_
            refine ih (q_I h 152 i :: st) (upd p st.length (q_I h 152 i)) (at' + 1) (by omega) hg3 hw2 hw1 (q_st_push hp) (fun p' v e => hQ p' v ?_) (fun p' e => hQn p' ?_)
            · show q_ev (q_I h 152) xs (q_I h 152 (nI i).toNatClampNeg :: st) = _
              rw [nI_clamp (by omega)]
              exact e
            · show q_ev (q_I h 152) xs (q_I h 152 (nI i).toNatClampNeg :: st) = _
              rw [nI_clamp (by omega)]
              exact e
          · omega
    | k + 2, hg1, hwf, hQ, hQn =>
      obtain ⟨hk, hw1, hw2⟩ := hwf
      obtain ⟨z, x, st, rfl⟩ := q_two_of hw1
      · have hst : st.length + 1 + 1 ≤ 400 := hst
        have hev : q_ev (q_I h 152) ((k + 2, v) :: xs) (z :: x :: st) = if k + 2 = 5 ∧ z = 0 then none else q_ev (q_I h 152) xs (q_ar (k + 2) x z :: st) := rfl
        rw [hev] at hQ hQn
        rcases (show k = 0 ∨ k = 1 ∨ k = 2 ∨ k = 3 by omega) with rfl | rfl | rfl | rfl
        · refine xe_iload dX10_termOf_5 rfl ?_
          refine xe_iload_n dX10_termOf_7 rfl ?_
          refine xn_icmp_ge (tgt := 165) dX10_termOf_8 rfl (by omega) (by omega) (fun c8 => ?_) (fun c8 => ?_)
          · omega
          · refine xe_aload_n dX10_termOf_11 rfl ?_
            refine xe_getP dX10_termOf_12 flX10_92 (st124 hs) (by decide) rfl (sp124_40 hs) ?_
            refine xe_iload dX10_termOf_15 rfl ?_
            refine xn_ialdv dX10_termOf_17 (st149 hs) (by omega) (by decide) (v := nI 2) (hg1) ?_
            refine xe_istore dX10_termOf_18 (by decide) rfl ?_
            refine xe_iload dX10_termOf_20 rfl ?_
            refine xe_iconst dX10_termOf_22 kc_2 ?_
            refine xn_icmp_ge (tgt := 65) dX10_termOf_23 rfl (by omega) (by omega) (fun c9 => ?_) (fun c9 => ?_)
            · refine xe_iinc dX10_termOf_65 rfl (v := nI (st.length + 1)) (by rw [kc_m1]; exact pk_m1 _) ?_
              refine xe_aload_n dX10_termOf_68 rfl ?_
              refine xe_getP dX10_termOf_69 flX10_104 (st124 hs) (by decide) rfl (sp124_45 hs) ?_
              refine xe_iload_n dX10_termOf_72 rfl ?_
              refine xe_iconst dX10_termOf_73 kc_1 ?_
              refine xn_isub dX10_termOf_74 (by omega) ?_
              refine xn_ialdv dX10_termOf_75 (st153 hs) (by omega) (by decide) (v := x) (hp.2.1) ?_
              refine xe_istore dX10_termOf_76 (by decide) rfl ?_
              refine xe_aload_n dX10_termOf_78 rfl ?_
              refine xe_getP dX10_termOf_79 flX10_104 (st124 hs) (by decide) rfl (sp124_45 hs) ?_
              refine xe_iload_n dX10_termOf_82 rfl ?_
              refine xn_ialdv dX10_termOf_83 (st153 hs) (by omega) (by decide) (v := z) (hp.1) ?_
              refine xe_istore dX10_termOf_84 (by decide) rfl ?_
              refine xe_iload dX10_termOf_86 rfl ?_
              refine xe_iconst dX10_termOf_88 kc_5 ?_
              refine xn_icmp_ne (tgt := 104) dX10_termOf_89 rfl (by omega) (by omega) (fun c10 => ?_) (fun c10 => ?_)
              · refine xe_aload_n dX10_termOf_104 rfl ?_
                refine xe_getP dX10_termOf_105 flX10_104 (st124 hs) (by decide) rfl (sp124_45 hs) ?_
                refine xe_iload_n dX10_termOf_108 rfl ?_
                refine xe_iconst dX10_termOf_109 kc_1 ?_
                refine xn_isub dX10_termOf_110 (by omega) ?_
                refine xe_iload dX10_termOf_111 rfl ?_
                refine xe_iconst dX10_termOf_113 kc_2 ?_
                refine xn_icmp_ne (tgt := 125) dX10_termOf_114 rfl (by omega) (by omega) (fun c11 => ?_) (fun c11 => ?_)
                · omega
                · refine xe_iload dX10_termOf_117 rfl ?_
                  refine xe_iload dX10_termOf_119 rfl ?_
                  refine xe_iadd dX10_termOf_121 ?_
                  refine xe_goto (tgt := 158) dX10_termOf_122 rfl ?_
                  refine xn_iast dX10_termOf_158 (st153 hs) (by omega) (by decide) ?_
                  refine xn_iinc dX10_termOf_159 rfl kc_1 ?_
                  refine xe_goto (tgt := 5) dX10_termOf_162 rfl ?_
                  refine xe_heap (h2 := q_scr h (upd p st.length (x + z)) br) (q_scr_p _ _ _ _) ?_
                  refine xe_locals (L' := [(0, .ref 124), (1, .int (nI f)), (2, .int (nI to)), (3, .int (nI (st.length + 1))), (4, .int (nI (at' + 1)))]) (And.intro rfl (And.intro rfl (And.intro rfl (And.intro rfl (And.intro rfl trivial))))) ?_
                  refine ih ((x + z) :: st) (upd p st.length (x + z)) (at' + 1) (by omega) hg3 hw2 (by show st.length + 1 ≤ 400; omega) (q_st_push hp.2.2) (fun p' v e => hQ p' v ?_) (fun p' e => hQn p' ?_)
                  · rw [if_neg (by intro q; first | (exact absurd q.1 (by decide)) | exact c_z q.2)]
                    exact e
                  · rw [if_neg (by intro q; first | (exact absurd q.1 (by decide)) | exact c_z q.2)]
                    exact e
              · omega
            · omega
        · refine xe_iload dX10_termOf_5 rfl ?_
          refine xe_iload_n dX10_termOf_7 rfl ?_
          refine xn_icmp_ge (tgt := 165) dX10_termOf_8 rfl (by omega) (by omega) (fun c12 => ?_) (fun c12 => ?_)
          · omega
          · refine xe_aload_n dX10_termOf_11 rfl ?_
            refine xe_getP dX10_termOf_12 flX10_92 (st124 hs) (by decide) rfl (sp124_40 hs) ?_
            refine xe_iload dX10_termOf_15 rfl ?_
            refine xn_ialdv dX10_termOf_17 (st149 hs) (by omega) (by decide) (v := nI 3) (hg1) ?_
            refine xe_istore dX10_termOf_18 (by decide) rfl ?_
            refine xe_iload dX10_termOf_20 rfl ?_
            refine xe_iconst dX10_termOf_22 kc_2 ?_
            refine xn_icmp_ge (tgt := 65) dX10_termOf_23 rfl (by omega) (by omega) (fun c13 => ?_) (fun c13 => ?_)
            · refine xe_iinc dX10_termOf_65 rfl (v := nI (st.length + 1)) (by rw [kc_m1]; exact pk_m1 _) ?_
              refine xe_aload_n dX10_termOf_68 rfl ?_
              refine xe_getP dX10_termOf_69 flX10_104 (st124 hs) (by decide) rfl (sp124_45 hs) ?_
              refine xe_iload_n dX10_termOf_72 rfl ?_
              refine xe_iconst dX10_termOf_73 kc_1 ?_
              refine xn_isub dX10_termOf_74 (by omega) ?_
              refine xn_ialdv dX10_termOf_75 (st153 hs) (by omega) (by decide) (v := x) (hp.2.1) ?_
              refine xe_istore dX10_termOf_76 (by decide) rfl ?_
              refine xe_aload_n dX10_termOf_78 rfl ?_
              refine xe_getP dX10_termOf_79 flX10_104 (st124 hs) (by decide) rfl (sp124_45 hs) ?_
              refine xe_iload_n dX10_termOf_82 rfl ?_
              refine xn_ialdv dX10_termOf_83 (st153 hs) (by omega) (by decide) (v := z) (hp.1) ?_
              refine xe_istore dX10_termOf_84 (by decide) rfl ?_
              refine xe_iload dX10_termOf_86 rfl ?_
              refine xe_iconst dX10_termOf_88 kc_5 ?_
              refine xn_icmp_ne (tgt := 104) dX10_termOf_89 rfl (by omega) (by omega) (fun c14 => ?_) (fun c14 => ?_)
              · refine xe_aload_n dX10_termOf_104 rfl ?_
                refine xe_getP dX10_termOf_105 flX10_104 (st124 hs) (by decide) rfl (sp124_45 hs) ?_
                refine xe_iload_n dX10_termOf_108 rfl ?_
                refine xe_iconst dX10_termOf_109 kc_1 ?_
                refine xn_isub dX10_termOf_110 (by omega) ?_
                refine xe_iload dX10_termOf_111 rfl ?_
                refine xe_iconst dX10_termOf_113 kc_2 ?_
                refine xn_icmp_ne (tgt := 125) dX10_termOf_114 rfl (by omega) (by omega) (fun c15 => ?_) (fun c15 => ?_)
                · refine xe_iload dX10_termOf_125 rfl ?_
                  refine xe_iconst dX10_termOf_127 kc_3 ?_
                  refine xn_icmp_ne (tgt := 139) dX10_termOf_128 rfl (by omega) (by omega) (fun c16 => ?_) (fun c16 => ?_)
                  · omega
                  · refine xe_iload dX10_termOf_131 rfl ?_
                    refine xe_iload dX10_termOf_133 rfl ?_
                    refine xe_isub dX10_termOf_135 ?_
                    refine xe_goto (tgt := 158) dX10_termOf_136 rfl ?_
                    refine xn_iast dX10_termOf_158 (st153 hs) (by omega) (by decide) ?_
                    refine xn_iinc dX10_termOf_159 rfl kc_1 ?_
                    refine xe_goto (tgt := 5) dX10_termOf_162 rfl ?_
                    refine xe_heap (h2 := q_scr h (upd p st.length (x - z)) br) (q_scr_p _ _ _ _) ?_
                    refine xe_locals (L' := [(0, .ref 124), (1, .int (nI f)), (2, .int (nI to)), (3, .int (nI (st.length + 1))), (4, .int (nI (at' + 1)))]) (And.intro rfl (And.intro rfl (And.intro rfl (And.intro rfl (And.intro rfl trivial))))) ?_
                    refine ih ((x - z) :: st) (upd p st.length (x - z)) (at' + 1) (by omega) hg3 hw2 (by show st.length + 1 ≤ 400; omega) (q_st_push hp.2.2) (fun p' v e => hQ p' v ?_) (fun p' e => hQn p' ?_)
                    · rw [if_neg (by intro q; first | (exact absurd q.1 (by decide)) | exact c_z q.2)]
                      exact e
                    · rw [if_neg (by intro q; first | (exact absurd q.1 (by decide)) | exact c_z q.2)]
                      exact e
                · omega
              · omega
            · omega
        · refine xe_iload dX10_termOf_5 rfl ?_
          refine xe_iload_n dX10_termOf_7 rfl ?_
          refine xn_icmp_ge (tgt := 165) dX10_termOf_8 rfl (by omega) (by omega) (fun c17 => ?_) (fun c17 => ?_)
          · omega
          · refine xe_aload_n dX10_termOf_11 rfl ?_
            refine xe_getP dX10_termOf_12 flX10_92 (st124 hs) (by decide) rfl (sp124_40 hs) ?_
            refine xe_iload dX10_termOf_15 rfl ?_
            refine xn_ialdv dX10_termOf_17 (st149 hs) (by omega) (by decide) (v := nI 4) (hg1) ?_
            refine xe_istore dX10_termOf_18 (by decide) rfl ?_
            refine xe_iload dX10_termOf_20 rfl ?_
            refine xe_iconst dX10_termOf_22 kc_2 ?_
            refine xn_icmp_ge (tgt := 65) dX10_termOf_23 rfl (by omega) (by omega) (fun c18 => ?_) (fun c18 => ?_)
            · refine xe_iinc dX10_termOf_65 rfl (v := nI (st.length + 1)) (by rw [kc_m1]; exact pk_m1 _) ?_
              refine xe_aload_n dX10_termOf_68 rfl ?_
              refine xe_getP dX10_termOf_69 flX10_104 (st124 hs) (by decide) rfl (sp124_45 hs) ?_
              refine xe_iload_n dX10_termOf_72 rfl ?_
              refine xe_iconst dX10_termOf_73 kc_1 ?_
              refine xn_isub dX10_termOf_74 (by omega) ?_
              refine xn_ialdv dX10_termOf_75 (st153 hs) (by omega) (by decide) (v := x) (hp.2.1) ?_
              refine xe_istore dX10_termOf_76 (by decide) rfl ?_
              refine xe_aload_n dX10_termOf_78 rfl ?_
              refine xe_getP dX10_termOf_79 flX10_104 (st124 hs) (by decide) rfl (sp124_45 hs) ?_
              refine xe_iload_n dX10_termOf_82 rfl ?_
              refine xn_ialdv dX10_termOf_83 (st153 hs) (by omega) (by decide) (v := z) (hp.1) ?_
              refine xe_istore dX10_termOf_84 (by decide) rfl ?_
              refine xe_iload dX10_termOf_86 rfl ?_
              refine xe_iconst dX10_termOf_88 kc_5 ?_
              refine xn_icmp_ne (tgt := 104) dX10_termOf_89 rfl (by omega) (by omega) (fun c19 => ?_) (fun c19 => ?_)
              · refine xe_aload_n dX10_termOf_104 rfl ?_
                refine xe_getP dX10_termOf_105 flX10_104 (st124 hs) (by decide) rfl (sp124_45 hs) ?_
                refine xe_iload_n dX10_termOf_108 rfl ?_
                refine xe_iconst dX10_termOf_109 kc_1 ?_
                refine xn_isub dX10_termOf_110 (by omega) ?_
                refine xe_iload dX10_termOf_111 rfl ?_
                refine xe_iconst dX10_termOf_113 kc_2 ?_
                refine xn_icmp_ne (tgt := 125) dX10_termOf_114 rfl (by omega) (by omega) (fun c20 => ?_) (fun c20 => ?_)
                · refine xe_iload dX10_termOf_125 rfl ?_
                  refine xe_iconst dX10_termOf_127 kc_3 ?_
                  refine xn_icmp_ne (tgt := 139) dX10_termOf_128 rfl (by omega) (by omega) (fun c21 => ?_) (fun c21 => ?_)
                  · refine xe_iload dX10_termOf_139 rfl ?_
                    refine xe_iconst dX10_termOf_141 kc_4 ?_
                    refine xn_icmp_ne (tgt := 153) dX10_termOf_142 rfl (by omega) (by omega) (fun c22 => ?_) (fun c22 => ?_)
                    · omega
                    · refine xe_iload dX10_termOf_145 rfl ?_
                      refine xe_iload dX10_termOf_147 rfl ?_
                      refine xe_imul dX10_termOf_149 ?_
                      refine xe_goto (tgt := 158) dX10_termOf_150 rfl ?_
                      refine xn_iast dX10_termOf_158 (st153 hs) (by omega) (by decide) ?_
                      refine xn_iinc dX10_termOf_159 rfl kc_1 ?_
                      refine xe_goto (tgt := 5) dX10_termOf_162 rfl ?_
                      refine xe_heap (h2 := q_scr h (upd p st.length (x * z)) br) (q_scr_p _ _ _ _) ?_
                      refine xe_locals (L' := [(0, .ref 124), (1, .int (nI f)), (2, .int (nI to)), (3, .int (nI (st.length + 1))), (4, .int (nI (at' + 1)))]) (And.intro rfl (And.intro rfl (And.intro rfl (And.intro rfl (And.intro rfl trivial))))) ?_
                      refine ih ((x * z) :: st) (upd p st.length (x * z)) (at' + 1) (by omega) hg3 hw2 (by show st.length + 1 ≤ 400; omega) (q_st_push hp.2.2) (fun p' v e => hQ p' v ?_) (fun p' e => hQn p' ?_)
                      · rw [if_neg (by intro q; first | (exact absurd q.1 (by decide)) | exact c_z q.2)]
                        exact e
                      · rw [if_neg (by intro q; first | (exact absurd q.1 (by decide)) | exact c_z q.2)]
                        exact e
                  · omega
                · omega
              · omega
            · omega
        · refine xe_iload dX10_termOf_5 rfl ?_
          refine xe_iload_n dX10_termOf_7 rfl ?_
          refine xn_icmp_ge (tgt := 165) dX10_termOf_8 rfl (by omega) (by omega) (fun c23 => ?_) (fun c23 => ?_)
          · omega
          · refine xe_aload_n dX10_termOf_11 rfl ?_
            refine xe_getP dX10_termOf_12 flX10_92 (st124 hs) (by decide) rfl (sp124_40 hs) ?_
            refine xe_iload dX10_termOf_15 rfl ?_
            refine xn_ialdv dX10_termOf_17 (st149 hs) (by omega) (by decide) (v := nI 5) (hg1) ?_
            refine xe_istore dX10_termOf_18 (by decide) rfl ?_
            refine xe_iload dX10_termOf_20 rfl ?_
            refine xe_iconst dX10_termOf_22 kc_2 ?_
            refine xn_icmp_ge (tgt := 65) dX10_termOf_23 rfl (by omega) (by omega) (fun c24 => ?_) (fun c24 => ?_)
            · refine xe_iinc dX10_termOf_65 rfl (v := nI (st.length + 1)) (by rw [kc_m1]; exact pk_m1 _) ?_
              refine xe_aload_n dX10_termOf_68 rfl ?_
              refine xe_getP dX10_termOf_69 flX10_104 (st124 hs) (by decide) rfl (sp124_45 hs) ?_
              refine xe_iload_n dX10_termOf_72 rfl ?_
              refine xe_iconst dX10_termOf_73 kc_1 ?_
              refine xn_isub dX10_termOf_74 (by omega) ?_
              refine xn_ialdv dX10_termOf_75 (st153 hs) (by omega) (by decide) (v := x) (hp.2.1) ?_
              refine xe_istore dX10_termOf_76 (by decide) rfl ?_
              refine xe_aload_n dX10_termOf_78 rfl ?_
              refine xe_getP dX10_termOf_79 flX10_104 (st124 hs) (by decide) rfl (sp124_45 hs) ?_
              refine xe_iload_n dX10_termOf_82 rfl ?_
              refine xn_ialdv dX10_termOf_83 (st153 hs) (by omega) (by decide) (v := z) (hp.1) ?_
              refine xe_istore dX10_termOf_84 (by decide) rfl ?_
              refine xe_iload dX10_termOf_86 rfl ?_
              refine xe_iconst dX10_termOf_88 kc_5 ?_
              refine xn_icmp_ne (tgt := 104) dX10_termOf_89 rfl (by omega) (by omega) (fun c25 => ?_) (fun c25 => ?_)
              · omega
              · refine xe_iload dX10_termOf_92 rfl ?_
                refine xe_if_ne (tgt := 104) dX10_termOf_94 rfl (fun c26 => ?_) (fun c26 => ?_)
                · have c_z := c26
                  refine xe_aload_n dX10_termOf_104 rfl ?_
                  refine xe_getP dX10_termOf_105 flX10_104 (st124 hs) (by decide) rfl (sp124_45 hs) ?_
                  refine xe_iload_n dX10_termOf_108 rfl ?_
                  refine xe_iconst dX10_termOf_109 kc_1 ?_
                  refine xn_isub dX10_termOf_110 (by omega) ?_
                  refine xe_iload dX10_termOf_111 rfl ?_
                  refine xe_iconst dX10_termOf_113 kc_2 ?_
                  refine xn_icmp_ne (tgt := 125) dX10_termOf_114 rfl (by omega) (by omega) (fun c27 => ?_) (fun c27 => ?_)
                  · refine xe_iload dX10_termOf_125 rfl ?_
                    refine xe_iconst dX10_termOf_127 kc_3 ?_
                    refine xn_icmp_ne (tgt := 139) dX10_termOf_128 rfl (by omega) (by omega) (fun c28 => ?_) (fun c28 => ?_)
                    · refine xe_iload dX10_termOf_139 rfl ?_
                      refine xe_iconst dX10_termOf_141 kc_4 ?_
                      refine xn_icmp_ne (tgt := 153) dX10_termOf_142 rfl (by omega) (by omega) (fun c29 => ?_) (fun c29 => ?_)
                      · refine xe_iload dX10_termOf_153 rfl ?_
                        refine xe_iload dX10_termOf_155 rfl ?_
                        refine xe_idiv dX10_termOf_157 c_z ?_
                        refine xn_iast dX10_termOf_158 (st153 hs) (by omega) (by decide) ?_
                        refine xn_iinc dX10_termOf_159 rfl kc_1 ?_
                        refine xe_goto (tgt := 5) dX10_termOf_162 rfl ?_
                        refine xe_heap (h2 := q_scr h (upd p st.length (x / z)) br) (q_scr_p _ _ _ _) ?_
                        refine xe_locals (L' := [(0, .ref 124), (1, .int (nI f)), (2, .int (nI to)), (3, .int (nI (st.length + 1))), (4, .int (nI (at' + 1)))]) (And.intro rfl (And.intro rfl (And.intro rfl (And.intro rfl (And.intro rfl trivial))))) ?_
                        refine ih ((x / z) :: st) (upd p st.length (x / z)) (at' + 1) (by omega) hg3 hw2 (by show st.length + 1 ≤ 400; omega) (q_st_push hp.2.2) (fun p' v e => hQ p' v ?_) (fun p' e => hQn p' ?_)
                        · rw [if_neg (by intro q; first | (exact absurd q.1 (by decide)) | exact c_z q.2)]
                          exact e
                        · rw [if_neg (by intro q; first | (exact absurd q.1 (by decide)) | exact c_z q.2)]
                          exact e
                      · omega
                    · omega
                  · omega
                · have c_z := c26
                  refine xe_aload_n dX10_termOf_97 rfl ?_
                  refine xe_iconst dX10_termOf_98 kc_1 ?_
                  refine xe_putI dX10_termOf_99 flX10_308 (st124 hs) (by decide) rfl (Or.inl rfl) rfl rfl ?_
                  refine xe_iconst dX10_termOf_102 kc_0 ?_
                  refine xe_ireturn dX10_termOf_103 rfl (by first | rfl | decide +kernel) ?_
                  rw [q_scr_b]
                  exact hQn _ (if_pos ⟨rfl, c_z⟩)
            · omega
/-- a code's number -/
def q_val (V : Nat → Int32) (xs : List (Nat × Int32)) : Option Int32 := match q_ev V xs [] with
  | some (v :: _) => some v
  | _ => none
theorem q_ev_wf {V : Nat → Int32} {m : Nat} : ∀ (xs : List (Nat × Int32)) (st : List Int32), q_wf m xs st.length → q_ev V xs st = none ∨ ∃ v, q_ev V xs st = some [v]
  | [], st, h => by
    obtain ⟨x, rfl⟩ : ∃ x, st = [x] := List.length_eq_one_iff.mp h
    exact Or.inr ⟨x, rfl⟩
  | (0, v) :: r, st, h => q_ev_wf r (v :: st) h.2
  | (1, v) :: r, st, h => q_ev_wf r (V v.toNatClampNeg :: st) h.2.2
  | (k + 2, v) :: r, st, h => by
    obtain ⟨z, x, st, rfl⟩ := q_two_of h.2.1
    have e : q_ev V ((k + 2, v) :: r) (z :: x :: st) = if k + 2 = 5 ∧ z = 0 then none else q_ev V r (q_ar (k + 2) x z :: st) := rfl
    rw [e]
    split
    · exact Or.inl rfl
    · exact q_ev_wf r (q_ar (k + 2) x z :: st) h.2.2
/-- what termOf leaves -/
def q_tv (h : q_H) (o : Option Int32) (v : Int32) (h1 : q_H) : Prop := ∃ p b, h1 = q_scr h p b ∧ ((o = some v ∧ b = q_I h 124 46) ∨ (o = none ∧ v = nI 0 ∧ b = nI 1))
theorem c_X10_termOf (l : Launch) (g : q_GP) (h : q_H) (hs : q_Stat h) (xs : List (Nat × Int32)) (f to : Nat) (hf : f + xs.length = to) (hto : to ≤ 840) (hsg : q_sg (q_I h 149) (q_I h 150) f xs) (hw : q_wf 400 xs 0) : q_Ct l g 0 mX10_termOf [.ref 124, .int (nI f), .int (nI to)] h (fun r h1 => ∃ v : Int32, r = some (.int v) ∧ q_tv h (q_val (q_I h 152) xs) v h1) := by
  refine q_CtV mvX10_termOf (Nat.le_of_ble_eq_true rfl) ?_
  refine xe_iconst dX10_termOf_0 kc_0 ?_
  refine xe_istore_n (i := 3) dX10_termOf_1 rfl (by decide) rfl ?_
  refine xe_iload_n dX10_termOf_2 rfl ?_
  refine xe_istore dX10_termOf_3 (by decide) rfl ?_
  refine xe_heap (q_scr_0 h).symm ?_
  refine xe_locals (L' := [(0, .ref 124), (1, .int (nI f)), (2, .int (nI to)), (3, .int (nI ([] : List Int32).length)), (4, .int (nI f))]) (And.intro rfl (And.intro rfl (And.intro rfl (And.intro rfl (And.intro rfl trivial))))) ?_
  refine q_termOf_loop l g h hs f to (q_I h 124 46) _ hto xs [] (q_I h 153) f hf hsg hw (by decide) trivial (fun p' v e => ⟨v, rfl, p', _, rfl, Or.inl ⟨?_, rfl⟩⟩) (fun p' e => ⟨nI 0, rfl, p', _, rfl, Or.inr ⟨?_, rfl, rfl⟩⟩)
  · unfold q_val
    rw [e]
  · unfold q_val
    rw [e]
/-- a law's branches and its last code stand in the reference's rows from branch b on -/
def q_br (h : q_H) : Nat → List (List (Nat × Int32) × List (Nat × Int32) × List (Nat × Int32)) → List (Nat × Int32) → Prop
  | b, [], e => q_I h 144 b = nI 0 ∧ ∃ t, q_I h 147 b = nI t ∧ q_I h 148 b = nI (t + e.length) ∧ t + e.length ≤ 840 ∧ q_sg (q_I h 149) (q_I h 150) t e ∧ q_wf 32 e 0
  | b, (x, y, z) :: r, e => (q_I h 144 b = nI 1 ∧ ∃ t, q_I h 145 b = nI t ∧ q_I h 146 b = nI (t + x.length) ∧ q_I h 147 b = nI (t + x.length + y.length) ∧ q_I h 148 b = nI (t + x.length + y.length + z.length) ∧ t + x.length + y.length + z.length ≤ 840 ∧ q_sg (q_I h 149) (q_I h 150) t x ∧ q_sg (q_I h 149) (q_I h 150) (t + x.length) y ∧ q_sg (q_I h 149) (q_I h 150) (t + x.length + y.length) z ∧ q_wf 32 x 0 ∧ q_wf 32 y 0 ∧ q_wf 32 z 0) ∧ q_br h (b + 1) r e
/-- a law's number; none: it is broken -/
def q_law (V : Nat → Int32) : List (List (Nat × Int32) × List (Nat × Int32) × List (Nat × Int32)) → List (Nat × Int32) → Option Int32
  | [], e => q_val V e
  | (x, y, z) :: r, e => match q_val V x, q_val V y with
    | some u, some w => if u < w then q_val V z else q_law V r e
    | _, _ => none
theorem q_wf_up {m m' : Nat} (hm : m ≤ m') : ∀ (xs : List (Nat × Int32)) (n : Nat), q_wf m xs n → q_wf m' xs n
  | [], _, h => h
  | (0, _) :: r, n, h => ⟨by have := h.1; omega, q_wf_up hm r _ h.2⟩
  | (1, _) :: r, n, h => ⟨by have := h.1; omega, h.2.1, q_wf_up hm r _ h.2.2⟩
  | (_ + 2, _) :: r, n, h => ⟨h.1, h.2.1, q_wf_up hm r _ h.2.2⟩
theorem q_w4 {xs : List (Nat × Int32)} (h : q_wf 32 xs 0) : q_wf 400 xs 0 := q_wf_up (by decide) xs 0 h
theorem q_two_ev {o1 o2 : Option Int32} {u w b1 b2 : Int32} (h1 : (o1 = some u ∧ b1 = nI 0) ∨ (o1 = none ∧ u = nI 0 ∧ b1 = nI 1)) (h2 : (o2 = some w ∧ b2 = b1) ∨ (o2 = none ∧ w = nI 0 ∧ b2 = nI 1)) : (b2 = nI 0 ∧ o1 = some u ∧ o2 = some w) ∨ (b2 = nI 1 ∧ (o1 = none ∨ o2 = none)) := by
  rcases h1 with ⟨a1, a2⟩ | ⟨a1, a2, a3⟩ <;> rcases h2 with ⟨d1, d2⟩ | ⟨d1, d2, d3⟩
  · exact Or.inl ⟨d2.trans a2, a1, d1⟩
  · exact Or.inr ⟨d3, Or.inr d1⟩
  · exact Or.inr ⟨d2.trans a3, Or.inl a1⟩
  · exact Or.inr ⟨d3, Or.inl a1⟩
def q_tq (h : q_H) (v : Int32) : Option Value → q_H → Prop := fun r h1 => ∃ p b, r = some (.int v) ∧ h1 = q_scr h p b
set_option maxHeartbeats 4000000 in
theorem q_tells_loop (l : Launch) (g : q_GP) (h : q_H) (hs : q_Stat h) (k lst : Nat) (hk : k < 40) (hl : q_I h 143 k = nI lst) (hlst : lst ≤ 260) (e : List (Nat × Int32)) : ∀ (r : List (List (Nat × Int32) × List (Nat × Int32) × List (Nat × Int32))) (b : Nat) (p : Nat → Int32), q_br h b r e → b + r.length + 1 = lst →
    q_Ex l g 1 mX10_tells 40 [(0, .ref 124), (3, .int (nI k)), (4, .int (nI b))] [] (q_scr h p (nI 0)) (q_tq h ((q_law (q_I h 152) r e).getD (nI 0))) := by
  intro r
  induction r with
  | nil =>
    intro b p hbr hb
    have hb : b + 1 = lst := hb
    obtain ⟨g1, t, g2, g3, g4, g5, g6⟩ := hbr
    refine xe_iload dX10_tells_40 rfl ?_
    refine xe_aload_n dX10_tells_42 rfl ?_
    refine xe_getP dX10_tells_43 flX10_73 (st124 hs) (by decide) rfl (sp124_32 hs) ?_
    refine xe_iload_n dX10_tells_46 rfl ?_
    refine xn_ialdv dX10_tells_47 (st143 hs) (by omega) (by decide) (v := nI lst) (hl) ?_
    refine xn_icmp_ge (tgt := 160) dX10_tells_48 rfl (by omega) (by omega) (fun c1 => ?_) (fun c1 => ?_)
    · omega
    · refine xe_aload_n dX10_tells_51 rfl ?_
      refine xe_getP dX10_tells_52 flX10_76 (st124 hs) (by decide) rfl (sp124_34 hs) ?_
      refine xe_iload dX10_tells_55 rfl ?_
      refine xn_zaldv dX10_tells_57 (st144 hs) (by omega) (by decide) (v := nI 0) (g1) ?_
      refine xn_if_eq (tgt := 120) dX10_tells_58 rfl (by omega) (fun c2 => ?_) (fun c2 => ?_)
      · refine xe_aload_n dX10_tells_120 rfl ?_
        refine xe_aload_n dX10_tells_121 rfl ?_
        refine xe_getP dX10_tells_122 flX10_86 (st124 hs) (by decide) rfl (sp124_37 hs) ?_
        refine xe_iload dX10_tells_125 rfl ?_
        refine xn_ialdv dX10_tells_127 (st147 hs) (by omega) (by decide) (v := nI t) (g2) ?_
        refine xe_aload_n dX10_tells_128 rfl ?_
        refine xe_getP dX10_tells_129 flX10_89 (st124 hs) (by decide) rfl (sp124_38 hs) ?_
        refine xe_iload dX10_tells_132 rfl ?_
        refine xn_ialdv dX10_tells_134 (st148 hs) (by omega) (by decide) (v := nI (t + e.length)) (g3) ?_
        refine xe_callVIn (d' := 0) (y' := mX10_termOf) dX10_tells_135 mlX10_322 mvX10_termOf rfl (st124 hs) (by decide) rfl (by decide) (by decide) (Nat.le_of_ble_eq_true rfl) (c_X10_termOf l g _ (by exact hs) _ _ _ rfl (by omega) g5 (q_w4 g6)) rfl (fun v3 hv3 qv3 => ?_)
        obtain ⟨p3, b3, rfl, hv3⟩ := qv3
        rw [q_scr_scr]
        refine xe_istore dX10_tells_138 (by decide) rfl ?_
        refine xe_aload_n dX10_tells_140 rfl ?_
        refine xe_getIv dX10_tells_141 flX10_308 (st124 hs) (by decide) rfl (v := b3) (rfl) ?_
        refine xe_if_eq (tgt := 151) dX10_tells_144 rfl (fun c3 => ?_) (fun c3 => ?_)
        · have e3 : q_val (q_I h 152) e = some v3 := by
            rcases hv3 with ⟨a, _⟩ | ⟨_, _, a⟩
            · exact a
            · rw [a] at c3
              exact absurd c3 (by decide)
          refine xe_iload dX10_tells_151 rfl ?_
          refine xe_ireturn dX10_tells_153 rfl (by first | rfl | decide +kernel) ?_
          exact ⟨p3, b3, by simp only [q_law, e3, Option.getD_some, Option.getD_none], rfl⟩
        · have e3 : q_val (q_I h 152) e = none := by
            rcases hv3 with ⟨_, a⟩ | ⟨a, _, _⟩
            · exact absurd a c3
            · exact a
          refine xe_iconst dX10_tells_147 kc_0 ?_
          refine xe_goto (tgt := 153) dX10_tells_148 rfl ?_
          refine xe_ireturn dX10_tells_153 rfl (by first | rfl | decide +kernel) ?_
          exact ⟨p3, b3, by simp only [q_law, e3, Option.getD_some, Option.getD_none], rfl⟩
      · omega
  | cons x r ih =>
    obtain ⟨x, y, z⟩ := x
    intro b p hbr hb
    have hb : b + (r.length + 1) + 1 = lst := hb
    obtain ⟨⟨g1, t, g2, g3, g4, g5, g6, g7, g8, g9, w1, w2, w3⟩, g10⟩ := hbr
    refine xe_iload dX10_tells_40 rfl ?_
    refine xe_aload_n dX10_tells_42 rfl ?_
    refine xe_getP dX10_tells_43 flX10_73 (st124 hs) (by decide) rfl (sp124_32 hs) ?_
    refine xe_iload_n dX10_tells_46 rfl ?_
    refine xn_ialdv dX10_tells_47 (st143 hs) (by omega) (by decide) (v := nI lst) (hl) ?_
    refine xn_icmp_ge (tgt := 160) dX10_tells_48 rfl (by omega) (by omega) (fun c1 => ?_) (fun c1 => ?_)
    · omega
    · refine xe_aload_n dX10_tells_51 rfl ?_
      refine xe_getP dX10_tells_52 flX10_76 (st124 hs) (by decide) rfl (sp124_34 hs) ?_
      refine xe_iload dX10_tells_55 rfl ?_
      refine xn_zaldv dX10_tells_57 (st144 hs) (by omega) (by decide) (v := nI 1) (g1) ?_
      refine xn_if_eq (tgt := 120) dX10_tells_58 rfl (by omega) (fun c2 => ?_) (fun c2 => ?_)
      · omega
      · refine xe_aload_n dX10_tells_61 rfl ?_
        refine xe_aload_n dX10_tells_62 rfl ?_
        refine xe_getP dX10_tells_63 flX10_80 (st124 hs) (by decide) rfl (sp124_35 hs) ?_
        refine xe_iload dX10_tells_66 rfl ?_
        refine xn_ialdv dX10_tells_68 (st145 hs) (by omega) (by decide) (v := nI t) (g2) ?_
        refine xe_aload_n dX10_tells_69 rfl ?_
        refine xe_getP dX10_tells_70 flX10_83 (st124 hs) (by decide) rfl (sp124_36 hs) ?_
        refine xe_iload dX10_tells_73 rfl ?_
        refine xn_ialdv dX10_tells_75 (st146 hs) (by omega) (by decide) (v := nI (t + x.length)) (g3) ?_
        refine xe_callVIn (d' := 0) (y' := mX10_termOf) dX10_tells_76 mlX10_322 mvX10_termOf rfl (st124 hs) (by decide) rfl (by decide) (by decide) (Nat.le_of_ble_eq_true rfl) (c_X10_termOf l g _ (by exact hs) _ _ _ rfl (by omega) g7 (q_w4 w1)) rfl (fun v1 hv1 qv1 => ?_)
        obtain ⟨p1, b1, rfl, hv1⟩ := qv1
        rw [q_scr_scr]
        refine xe_istore dX10_tells_79 (by decide) rfl ?_
        refine xe_aload_n dX10_tells_81 rfl ?_
        refine xe_aload_n dX10_tells_82 rfl ?_
        refine xe_getP dX10_tells_83 flX10_83 (st124 hs) (by decide) rfl (sp124_36 hs) ?_
        refine xe_iload dX10_tells_86 rfl ?_
        refine xn_ialdv dX10_tells_88 (st146 hs) (by omega) (by decide) (v := nI (t + x.length)) (g3) ?_
        refine xe_aload_n dX10_tells_89 rfl ?_
        refine xe_getP dX10_tells_90 flX10_86 (st124 hs) (by decide) rfl (sp124_37 hs) ?_
        refine xe_iload dX10_tells_93 rfl ?_
        refine xn_ialdv dX10_tells_95 (st147 hs) (by omega) (by decide) (v := nI (t + x.length + y.length)) (g4) ?_
        refine xe_callVIn (d' := 0) (y' := mX10_termOf) dX10_tells_96 mlX10_322 mvX10_termOf rfl (st124 hs) (by decide) rfl (by decide) (by decide) (Nat.le_of_ble_eq_true rfl) (c_X10_termOf l g _ (by exact hs) _ _ _ rfl (by omega) g8 (q_w4 w2)) rfl (fun v2 hv2 qv2 => ?_)
        obtain ⟨p2, b2, rfl, hv2⟩ := qv2
        rw [q_scr_scr]
        have h12 := q_two_ev (o1 := q_val (q_I h 152) x) (o2 := q_val (q_I h 152) y) hv1 hv2
        refine xe_istore dX10_tells_99 (by decide) rfl ?_
        refine xe_aload_n dX10_tells_101 rfl ?_
        refine xe_getIv dX10_tells_102 flX10_308 (st124 hs) (by decide) rfl (v := b2) (rfl) ?_
        refine xe_if_eq (tgt := 110) dX10_tells_105 rfl (fun c3 => ?_) (fun c3 => ?_)
        · obtain ⟨e1, e2⟩ : q_val (q_I h 152) x = some v1 ∧ q_val (q_I h 152) y = some v2 := by
            rcases h12 with ⟨_, a⟩ | ⟨a, _⟩
            · exact a
            · rw [a] at c3
              exact absurd c3 (by decide)
          subst c3
          refine xe_iload dX10_tells_110 rfl ?_
          refine xe_iload dX10_tells_112 rfl ?_
          refine xe_icmp_lt (tgt := 120) dX10_tells_114 rfl (fun c4 => ?_) (fun c4 => ?_)
          · have e4 : q_law (q_I h 152) ((x, y, z) :: r) e = q_val (q_I h 152) z := by
              unfold q_law
              rw [e1, e2]
              exact if_pos c4
            refine xe_aload_n dX10_tells_120 rfl ?_
            refine xe_aload_n dX10_tells_121 rfl ?_
            refine xe_getP dX10_tells_122 flX10_86 (st124 hs) (by decide) rfl (sp124_37 hs) ?_
            refine xe_iload dX10_tells_125 rfl ?_
            refine xn_ialdv dX10_tells_127 (st147 hs) (by omega) (by decide) (v := nI (t + x.length + y.length)) (g4) ?_
            refine xe_aload_n dX10_tells_128 rfl ?_
            refine xe_getP dX10_tells_129 flX10_89 (st124 hs) (by decide) rfl (sp124_38 hs) ?_
            refine xe_iload dX10_tells_132 rfl ?_
            refine xn_ialdv dX10_tells_134 (st148 hs) (by omega) (by decide) (v := nI (t + x.length + y.length + z.length)) (g5) ?_
            refine xe_callVIn (d' := 0) (y' := mX10_termOf) dX10_tells_135 mlX10_322 mvX10_termOf rfl (st124 hs) (by decide) rfl (by decide) (by decide) (Nat.le_of_ble_eq_true rfl) (c_X10_termOf l g _ (by exact hs) _ _ _ rfl (by omega) g9 (q_w4 w3)) rfl (fun v3 hv3 qv3 => ?_)
            obtain ⟨p3, b3, rfl, hv3⟩ := qv3
            rw [q_scr_scr]
            refine xe_istore dX10_tells_138 (by decide) rfl ?_
            refine xe_aload_n dX10_tells_140 rfl ?_
            refine xe_getIv dX10_tells_141 flX10_308 (st124 hs) (by decide) rfl (v := b3) (rfl) ?_
            refine xe_if_eq (tgt := 151) dX10_tells_144 rfl (fun c5 => ?_) (fun c5 => ?_)
            · have e3 : q_val (q_I h 152) z = some v3 := by
                rcases hv3 with ⟨a, _⟩ | ⟨_, _, a⟩
                · exact a
                · rw [a] at c5
                  exact absurd c5 (by decide)
              refine xe_iload dX10_tells_151 rfl ?_
              refine xe_ireturn dX10_tells_153 rfl (by first | rfl | decide +kernel) ?_
              exact ⟨p3, b3, by rw [e4, e3]; rfl, rfl⟩
            · have e3 : q_val (q_I h 152) z = none := by
                rcases hv3 with ⟨_, a⟩ | ⟨a, _, _⟩
                · exact absurd a c5
                · exact a
              refine xe_iconst dX10_tells_147 kc_0 ?_
              refine xe_goto (tgt := 153) dX10_tells_148 rfl ?_
              refine xe_ireturn dX10_tells_153 rfl (by first | rfl | decide +kernel) ?_
              exact ⟨p3, b3, by rw [e4, e3]; rfl, rfl⟩
          · have e4 : q_law (q_I h 152) ((x, y, z) :: r) e = q_law (q_I h 152) r e := by
              rw [q_law, e1, e2]
              exact if_neg c4
            refine xe_goto (tgt := 154) dX10_tells_117 rfl ?_
            refine xn_iinc dX10_tells_154 rfl kc_1 ?_
            refine xe_goto (tgt := 40) dX10_tells_157 rfl ?_
            refine xe_locals (L' := [(0, .ref 124), (3, .int (nI k)), (4, .int (nI (b + 1)))]) (And.intro rfl (And.intro rfl (And.intro rfl trivial))) ?_
            rw [e4]
            exact ih (b + 1) p2 g10 (by omega)
        · have e12 : q_law (q_I h 152) ((x, y, z) :: r) e = none := by
            rcases h12 with ⟨a, _⟩ | ⟨_, a⟩
            · exact absurd a c3
            · unfold q_law
              rcases a with a | a
              · rw [a]
              · rw [a]
                split <;> simp_all
          refine xe_iconst dX10_tells_108 kc_0 ?_
          refine xe_ireturn dX10_tells_109 rfl (by first | rfl | decide +kernel) ?_
          exact ⟨_, _, by rw [e12]; rfl, rfl⟩
