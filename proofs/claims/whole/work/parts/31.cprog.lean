/-! the class: its programs of laws -/
/-- a step of the class for a step of a code -/
def q_opc (k : Nat) : Int32 := if k = 0 then nI 0 else if k = 1 then nI 1 else if k = 2 then nI 43 else if k = 3 then nI 45 else if k = 4 then nI 42 else nI 47
def q_sgC (S W : Nat → Int32) : Nat → List (Nat × Int32) → Prop
  | _, [] => True
  | p, x :: r => S p = q_opc x.1 ∧ W p = x.2 ∧ q_sgC S W (p + 1) r
/-- a law stands in the class's rows from a on -/
def q_cd (S W : Nat → Int32) (n : Nat) : Nat → List (List (Nat × Int32) × List (Nat × Int32) × List (Nat × Int32)) → List (Nat × Int32) → Prop
  | a, [], e => q_sgC S W a e ∧ q_wf 30 e 0 ∧ S (a + e.length) = nI 2 ∧ a + e.length < n
  | a, (x, y, z) :: r, e => q_sgC S W a x ∧ q_wf 30 x 0 ∧ q_sgC S W (a + x.length) y ∧ q_wf 30 y 0 ∧ S (a + x.length + y.length) = nI 3 ∧ W (a + x.length + y.length) = nI (a + x.length + y.length + 1 + z.length + 1) ∧ q_sgC S W (a + x.length + y.length + 1) z ∧ q_wf 30 z 0 ∧ S (a + x.length + y.length + 1 + z.length) = nI 2 ∧ a + x.length + y.length + 1 + z.length < n ∧ q_cd S W n (a + x.length + y.length + 1 + z.length + 1) r e
theorem q_ev_b {V : Nat → Int32} {m : Nat} : ∀ {st : List Int32} (xs : List (Nat × Int32)) (bs : List Int32), q_wf m xs st.length → q_ev V xs (st ++ bs) = (q_ev V xs st).map (· ++ bs)
  | st, [], bs, _ => rfl
  | st, (0, v) :: r, bs, h => q_ev_b (st := v :: st) r bs h.2
  | st, (1, v) :: r, bs, h => q_ev_b (st := V v.toNatClampNeg :: st) r bs h.2.2
  | st, (k + 2, v) :: r, bs, h => by
    obtain ⟨z, x, st, rfl⟩ := q_two_of h.2.1
    have e1 : q_ev V ((k + 2, v) :: r) ((z :: x :: st) ++ bs) = if k + 2 = 5 ∧ z = 0 then none else q_ev V r ((q_ar (k + 2) x z :: st) ++ bs) := rfl
    have e2 : q_ev V ((k + 2, v) :: r) (z :: x :: st) = if k + 2 = 5 ∧ z = 0 then none else q_ev V r (q_ar (k + 2) x z :: st) := rfl
    rw [e1, e2]
    split
    · rfl
    · exact q_ev_b (st := q_ar (k + 2) x z :: st) r bs h.2.2
/-- the same from a pile of b more -/
def q_wfb (m b : Nat) : List (Nat × Int32) → Nat → Prop
  | [], n => n = b + 1
  | (0, _) :: r, n => n + 1 ≤ m ∧ q_wfb m b r (n + 1)
  | (1, v) :: r, n => n + 1 ≤ m ∧ (∃ i, i < 6 ∧ v = nI i) ∧ q_wfb m b r (n + 1)
  | (k + 2, _) :: r, n => k ≤ 3 ∧ b + 2 ≤ n ∧ q_wfb m b r (n - 1)
theorem q_wfb_of {m b : Nat} : ∀ (xs : List (Nat × Int32)) (n : Nat), q_wf m xs n → q_wfb (m + b) b xs (n + b)
  | [], n, h => by
    have h : n = 1 := h
    show n + b = b + 1
    omega
  | (0, _) :: r, n, h => ⟨by have := h.1; omega, by have := q_wfb_of (b := b) r _ h.2; rwa [show n + 1 + b = n + b + 1 by omega] at this⟩
  | (1, _) :: r, n, h => ⟨by have := h.1; omega, h.2.1, by have := q_wfb_of (b := b) r _ h.2.2; rwa [show n + 1 + b = n + b + 1 by omega] at this⟩
  | (_ + 2, _) :: r, n, h => ⟨h.1, by have := h.2.1; omega, by have h2 := h.2.1; have := q_wfb_of (b := b) r _ h.2.2; rwa [show n - 1 + b = n + b - 1 by omega] at this⟩
theorem w_push10 {l : Launch} {g : q_GP} {h : q_H} (hs : q_Stat h) {Q : Option Value → q_H → Prop} {n : Nat} (hn : q_I h 10 2 = nI n) (hn2 : n ≤ 416) {top go ad : Nat} {stk : Nat → Int32} (ha : ad < n) (hg : go ≤ ad) (ht : top ≤ 32) (ht2 : top < 32) (hS : q_I h 11 ad = nI 0) {v : Int32} (hW : q_I h 12 ad = v) (K : q_Ex l g 1 mX3_worth 7 [(0, .ref 10), (2, .int (nI (top + 1))), (3, .int (nI go)), (4, .int (nI (ad + 1)))] [] (q_wI h 21 (upd stk top v)) Q) : q_Ex l g 1 mX3_worth 7 [(0, .ref 10), (2, .int (nI top)), (3, .int (nI go)), (4, .int (nI ad))] [] (q_wI h 21 stk) Q := by
  refine xe_iload dX3_worth_7 rfl ?_
  refine xe_aload_n dX3_worth_9 rfl ?_
  refine xe_getIv dX3_worth_10 flX3_47 (st10 hs) (by decide) rfl (v := nI n) (hn) ?_
  refine xn_icmp_ge (tgt := 212) dX3_worth_13 rfl (by omega) (by omega) (fun c1 => ?_) (fun c1 => ?_)
  · omega
  · refine xe_iload dX3_worth_16 rfl ?_
    refine xe_iload_n dX3_worth_18 rfl ?_
    refine xn_icmp_ge (tgt := 25) dX3_worth_19 rfl (by omega) (by omega) (fun c2 => ?_) (fun c2 => ?_)
    · refine xe_aload_n dX3_worth_25 rfl ?_
      refine xe_getP dX3_worth_26 flX3_13 (st10 hs) (by decide) rfl (sp10_0 hs) ?_
      refine xe_iload dX3_worth_29 rfl ?_
      refine xn_ialdv dX3_worth_31 (st11 hs) (by omega) (by decide) (v := nI 0) (hS) ?_
      refine xe_istore dX3_worth_32 (by decide) rfl ?_
      refine xe_iload dX3_worth_34 rfl ?_
      refine xn_if_eq (tgt := 45) dX3_worth_36 rfl (by omega) (fun c3 => ?_) (fun c3 => ?_)
      · refine xe_iload_n dX3_worth_45 rfl ?_
        refine xe_aload_n dX3_worth_46 rfl ?_
        refine xe_getP dX3_worth_47 flX3_44 (st10 hs) (by decide) rfl (sp10_15 hs) ?_
        refine xe_alen dX3_worth_50 (st21 hs) (by decide) ⟨0, _, rfl⟩ (v := nI 32) rfl ?_
        refine xn_icmp_lt (tgt := 56) dX3_worth_51 rfl (by omega) (by omega) (fun c4 => ?_) (fun c4 => ?_)
        · refine xe_aload_n dX3_worth_56 rfl ?_
          refine xe_getP dX3_worth_57 flX3_44 (st10 hs) (by decide) rfl (sp10_15 hs) ?_
          refine xe_iload_n dX3_worth_60 rfl ?_
          refine xe_iload dX3_worth_61 rfl ?_
          refine xn_if_ne (tgt := 76) dX3_worth_63 rfl (by omega) (fun c5 => ?_) (fun c5 => ?_)
          · omega
          · refine xe_aload_n dX3_worth_66 rfl ?_
            refine xe_getP dX3_worth_67 flX3_17 (st10 hs) (by decide) rfl (sp10_1 hs) ?_
            refine xe_iload dX3_worth_70 rfl ?_
            refine xn_ialdv dX3_worth_72 (st12 hs) (by omega) (by decide) (v := v) (hW) ?_
            refine xe_goto (tgt := 88) dX3_worth_73 rfl ?_
            refine xn_iast dX3_worth_88 (st21 hs) (by omega) (by decide) ?_
            refine xn_iinc dX3_worth_89 rfl kc_1 ?_
            refine xe_goto (tgt := 206) dX3_worth_92 rfl ?_
            refine xn_iinc dX3_worth_206 rfl kc_1 ?_
            refine xe_goto (tgt := 7) dX3_worth_209 rfl ?_
            exact xe_fin K (And.intro rfl (And.intro rfl (And.intro rfl (And.intro rfl trivial)))) (q_heq [21] (H := h) (by repeat (first | exact q_out_r | refine q_out_w rfl ?_)) (by repeat (first | exact q_out_r | refine q_out_w rfl ?_)) (And.intro rfl trivial))
        · omega
      · omega
    · omega
theorem w_get10 {l : Launch} {g : q_GP} {h : q_H} (hs : q_Stat h) {Q : Option Value → q_H → Prop} {n : Nat} (hn : q_I h 10 2 = nI n) (hn2 : n ≤ 416) {top go ad : Nat} {stk : Nat → Int32} (ha : ad < n) (hg : go ≤ ad) (ht : top ≤ 32) (ht2 : top < 32) (hS : q_I h 11 ad = nI 1) {j : Nat} (hj : j < 6) (hW : q_I h 12 ad = nI j) (K : q_Ex l g 1 mX3_worth 7 [(0, .ref 10), (2, .int (nI (top + 1))), (3, .int (nI go)), (4, .int (nI (ad + 1)))] [] (q_wI h 21 (upd stk top (q_I h 20 j))) Q) : q_Ex l g 1 mX3_worth 7 [(0, .ref 10), (2, .int (nI top)), (3, .int (nI go)), (4, .int (nI ad))] [] (q_wI h 21 stk) Q := by
  refine xe_iload dX3_worth_7 rfl ?_
  refine xe_aload_n dX3_worth_9 rfl ?_
  refine xe_getIv dX3_worth_10 flX3_47 (st10 hs) (by decide) rfl (v := nI n) (hn) ?_
  refine xn_icmp_ge (tgt := 212) dX3_worth_13 rfl (by omega) (by omega) (fun c1 => ?_) (fun c1 => ?_)
  · omega
  · refine xe_iload dX3_worth_16 rfl ?_
    refine xe_iload_n dX3_worth_18 rfl ?_
    refine xn_icmp_ge (tgt := 25) dX3_worth_19 rfl (by omega) (by omega) (fun c2 => ?_) (fun c2 => ?_)
    · refine xe_aload_n dX3_worth_25 rfl ?_
      refine xe_getP dX3_worth_26 flX3_13 (st10 hs) (by decide) rfl (sp10_0 hs) ?_
      refine xe_iload dX3_worth_29 rfl ?_
      refine xn_ialdv dX3_worth_31 (st11 hs) (by omega) (by decide) (v := nI 1) (hS) ?_
      refine xe_istore dX3_worth_32 (by decide) rfl ?_
      refine xe_iload dX3_worth_34 rfl ?_
      refine xn_if_eq (tgt := 45) dX3_worth_36 rfl (by omega) (fun c3 => ?_) (fun c3 => ?_)
      · omega
      · refine xe_iload dX3_worth_39 rfl ?_
        refine xe_iconst dX3_worth_41 kc_1 ?_
        refine xn_icmp_ne (tgt := 95) dX3_worth_42 rfl (by omega) (by omega) (fun c4 => ?_) (fun c4 => ?_)
        · omega
        · refine xe_iload_n dX3_worth_45 rfl ?_
          refine xe_aload_n dX3_worth_46 rfl ?_
          refine xe_getP dX3_worth_47 flX3_44 (st10 hs) (by decide) rfl (sp10_15 hs) ?_
          refine xe_alen dX3_worth_50 (st21 hs) (by decide) ⟨0, _, rfl⟩ (v := nI 32) rfl ?_
          refine xn_icmp_lt (tgt := 56) dX3_worth_51 rfl (by omega) (by omega) (fun c5 => ?_) (fun c5 => ?_)
          · refine xe_aload_n dX3_worth_56 rfl ?_
            refine xe_getP dX3_worth_57 flX3_44 (st10 hs) (by decide) rfl (sp10_15 hs) ?_
            refine xe_iload_n dX3_worth_60 rfl ?_
            refine xe_iload dX3_worth_61 rfl ?_
            refine xn_if_ne (tgt := 76) dX3_worth_63 rfl (by omega) (fun c6 => ?_) (fun c6 => ?_)
            · refine xe_aload_n dX3_worth_76 rfl ?_
              refine xe_getP dX3_worth_77 flX3_41 (st10 hs) (by decide) rfl (sp10_14 hs) ?_
              refine xe_aload_n dX3_worth_80 rfl ?_
              refine xe_getP dX3_worth_81 flX3_17 (st10 hs) (by decide) rfl (sp10_1 hs) ?_
              refine xe_iload dX3_worth_84 rfl ?_
              refine xn_ialdv dX3_worth_86 (st12 hs) (by omega) (by decide) (v := nI j) (hW) ?_
              refine xn_ialdv dX3_worth_87 (st20 hs) (by omega) (by decide) (v := ((q_I h 20) j)) (rfl) ?_
              refine xn_iast dX3_worth_88 (st21 hs) (by omega) (by decide) ?_
              refine xn_iinc dX3_worth_89 rfl kc_1 ?_
              refine xe_goto (tgt := 206) dX3_worth_92 rfl ?_
              refine xn_iinc dX3_worth_206 rfl kc_1 ?_
              refine xe_goto (tgt := 7) dX3_worth_209 rfl ?_
              exact xe_fin K (And.intro rfl (And.intro rfl (And.intro rfl (And.intro rfl trivial)))) (q_heq [21] (H := h) (by repeat (first | exact q_out_r | refine q_out_w rfl ?_)) (by repeat (first | exact q_out_r | refine q_out_w rfl ?_)) (And.intro rfl trivial))
            · omega
          · omega
    · omega
theorem c_X3_reckon_add (l : Launch) (g : q_GP) (h : q_H) (a b : Int32) : q_Cd l g 0 mX3_reckon [.int (nI 43), .int a, .int b] h (some (.int (a + b))) h := by
  refine q_CdS msX3_reckon (Nat.le_of_ble_eq_true rfl) ?_
  refine xe_iload_n dX3_reckon_0 rfl ?_
  refine xe_tsw_in (tgt := 40) dX3_reckon_1 (by decide) (by decide) rfl rfl ?_
  refine xe_iload_n dX3_reckon_40 rfl ?_
  refine xe_iload_n dX3_reckon_41 rfl ?_
  refine xe_iadd dX3_reckon_42 ?_
  refine xe_ireturn dX3_reckon_43 rfl (by first | rfl | decide +kernel) ?_
  exact ⟨rfl, rfl⟩
theorem q_inc2 {top : Nat} (h : 2 ≤ top) : nI (top - 2) + Int32.ofInt 1 = nI (top - 1) := by
  rw [show Int32.ofInt 1 = nI 1 by decide +kernel, nI_add, show top - 2 + 1 = top - 1 by omega]
theorem w_add10 {l : Launch} {g : q_GP} {h : q_H} (hs : q_Stat h) {Q : Option Value → q_H → Prop} {n : Nat} (hn : q_I h 10 2 = nI n) (hn2 : n ≤ 416) {top go ad : Nat} {stk : Nat → Int32} (ha : ad < n) (hg : go ≤ ad) (ht : top ≤ 32) (h2 : 2 ≤ top) (hS : q_I h 11 ad = nI 43) {a b : Int32} (hA : stk (top - 2) = a) (hB : stk (top - 1) = b) (K : q_Ex l g 1 mX3_worth 7 [(0, .ref 10), (2, .int (nI (top - 1))), (3, .int (nI go)), (4, .int (nI (ad + 1)))] [] (q_wI h 21 (upd stk (top - 2) (a + b))) Q) : q_Ex l g 1 mX3_worth 7 [(0, .ref 10), (2, .int (nI top)), (3, .int (nI go)), (4, .int (nI ad))] [] (q_wI h 21 stk) Q := by
  refine xe_iload dX3_worth_7 rfl ?_
  refine xe_aload_n dX3_worth_9 rfl ?_
  refine xe_getIv dX3_worth_10 flX3_47 (st10 hs) (by decide) rfl (v := nI n) (hn) ?_
  refine xn_icmp_ge (tgt := 212) dX3_worth_13 rfl (by omega) (by omega) (fun c1 => ?_) (fun c1 => ?_)
  · omega
  · refine xe_iload dX3_worth_16 rfl ?_
    refine xe_iload_n dX3_worth_18 rfl ?_
    refine xn_icmp_ge (tgt := 25) dX3_worth_19 rfl (by omega) (by omega) (fun c2 => ?_) (fun c2 => ?_)
    · refine xe_aload_n dX3_worth_25 rfl ?_
      refine xe_getP dX3_worth_26 flX3_13 (st10 hs) (by decide) rfl (sp10_0 hs) ?_
      refine xe_iload dX3_worth_29 rfl ?_
      refine xn_ialdv dX3_worth_31 (st11 hs) (by omega) (by decide) (v := nI 43) (hS) ?_
      refine xe_istore dX3_worth_32 (by decide) rfl ?_
      refine xe_iload dX3_worth_34 rfl ?_
      refine xn_if_eq (tgt := 45) dX3_worth_36 rfl (by omega) (fun c3 => ?_) (fun c3 => ?_)
      · omega
      · refine xe_iload dX3_worth_39 rfl ?_
        refine xe_iconst dX3_worth_41 kc_1 ?_
        refine xn_icmp_ne (tgt := 95) dX3_worth_42 rfl (by omega) (by omega) (fun c4 => ?_) (fun c4 => ?_)
        · refine xe_iload dX3_worth_95 rfl ?_
          refine xe_iconst dX3_worth_97 kc_2 ?_
          refine xn_icmp_ne (tgt := 118) dX3_worth_98 rfl (by omega) (by omega) (fun c5 => ?_) (fun c5 => ?_)
          · refine xe_iload_n dX3_worth_118 rfl ?_
            refine xe_iconst dX3_worth_119 kc_2 ?_
            refine xn_icmp_ge (tgt := 125) dX3_worth_120 rfl (by omega) (by omega) (fun c6 => ?_) (fun c6 => ?_)
            · refine xe_iinc dX3_worth_125 rfl (v := nI (top - 2)) (q_iincm (by omega) (by decide +kernel)) ?_
              refine xe_aload_n dX3_worth_128 rfl ?_
              refine xe_getP dX3_worth_129 flX3_44 (st10 hs) (by decide) rfl (sp10_15 hs) ?_
              refine xe_iload_n dX3_worth_132 rfl ?_
              refine xn_ialdv dX3_worth_133 (st21 hs) (by omega) (by decide) (v := a) (hA) ?_
              refine xe_istore dX3_worth_134 (by decide) rfl ?_
              refine xe_aload_n dX3_worth_136 rfl ?_
              refine xe_getP dX3_worth_137 flX3_44 (st10 hs) (by decide) rfl (sp10_15 hs) ?_
              refine xe_iload_n dX3_worth_140 rfl ?_
              refine xe_iconst dX3_worth_141 kc_1 ?_
              refine xn_iadd dX3_worth_142 ?_
              refine xn_ialdv dX3_worth_143 (st21 hs) (by omega) (by decide) (v := b) ((by rw [show top - 2 + 1 = top - 1 by omega]; exact hB)) ?_
              refine xe_istore dX3_worth_144 (by decide) rfl ?_
              refine xe_iload dX3_worth_146 rfl ?_
              refine xe_iconst dX3_worth_148 kc_3 ?_
              refine xn_icmp_ne (tgt := 174) dX3_worth_149 rfl (by omega) (by omega) (fun c7 => ?_) (fun c7 => ?_)
              · refine xe_iload dX3_worth_174 rfl ?_
                refine xe_bipush dX3_worth_176 kb_47 ?_
                refine xn_icmp_ne (tgt := 188) dX3_worth_178 rfl (by omega) (by omega) (fun c8 => ?_) (fun c8 => ?_)
                · refine xe_aload_n dX3_worth_188 rfl ?_
                  refine xe_getP dX3_worth_189 flX3_44 (st10 hs) (by decide) rfl (sp10_15 hs) ?_
                  refine xe_iload_n dX3_worth_192 rfl ?_
                  refine xe_iload dX3_worth_193 rfl ?_
                  refine xe_iload dX3_worth_195 rfl ?_
                  refine xe_iload dX3_worth_197 rfl ?_
                  refine xe_callSI (d' := 0) (y' := mX3_reckon) dX3_worth_199 mlX3_67 msX3_reckon rfl (by decide) (by decide) (Nat.le_of_ble_eq_true rfl) (c_X3_reckon_add l g _ _ _) rfl ?_
                  refine xn_iast dX3_worth_202 (st21 hs) (by omega) (by decide) ?_
                  refine xe_iinc dX3_worth_203 rfl (v := nI (top - 1)) (q_inc2 h2) ?_
                  refine xn_iinc dX3_worth_206 rfl kc_1 ?_
                  refine xe_goto (tgt := 7) dX3_worth_209 rfl ?_
                  exact xe_fin K (And.intro rfl (And.intro rfl (And.intro rfl (And.intro rfl trivial)))) (q_heq [21] (H := h) (by repeat (first | exact q_out_r | refine q_out_w rfl ?_)) (by repeat (first | exact q_out_r | refine q_out_w rfl ?_)) (And.intro rfl trivial))
                · omega
              · omega
            · omega
          · omega
        · omega
    · omega
theorem c_X3_reckon_sub (l : Launch) (g : q_GP) (h : q_H) (a b : Int32) : q_Cd l g 0 mX3_reckon [.int (nI 45), .int a, .int b] h (some (.int (a - b))) h := by
  refine q_CdS msX3_reckon (Nat.le_of_ble_eq_true rfl) ?_
  refine xe_iload_n dX3_reckon_0 rfl ?_
  refine xe_tsw_in (tgt := 44) dX3_reckon_1 (by decide) (by decide) rfl rfl ?_
  refine xe_iload_n dX3_reckon_44 rfl ?_
  refine xe_iload_n dX3_reckon_45 rfl ?_
  refine xe_isub dX3_reckon_46 ?_
  refine xe_ireturn dX3_reckon_47 rfl (by first | rfl | decide +kernel) ?_
  exact ⟨rfl, rfl⟩
theorem w_sub10 {l : Launch} {g : q_GP} {h : q_H} (hs : q_Stat h) {Q : Option Value → q_H → Prop} {n : Nat} (hn : q_I h 10 2 = nI n) (hn2 : n ≤ 416) {top go ad : Nat} {stk : Nat → Int32} (ha : ad < n) (hg : go ≤ ad) (ht : top ≤ 32) (h2 : 2 ≤ top) (hS : q_I h 11 ad = nI 45) {a b : Int32} (hA : stk (top - 2) = a) (hB : stk (top - 1) = b) (K : q_Ex l g 1 mX3_worth 7 [(0, .ref 10), (2, .int (nI (top - 1))), (3, .int (nI go)), (4, .int (nI (ad + 1)))] [] (q_wI h 21 (upd stk (top - 2) (a - b))) Q) : q_Ex l g 1 mX3_worth 7 [(0, .ref 10), (2, .int (nI top)), (3, .int (nI go)), (4, .int (nI ad))] [] (q_wI h 21 stk) Q := by
  refine xe_iload dX3_worth_7 rfl ?_
  refine xe_aload_n dX3_worth_9 rfl ?_
  refine xe_getIv dX3_worth_10 flX3_47 (st10 hs) (by decide) rfl (v := nI n) (hn) ?_
  refine xn_icmp_ge (tgt := 212) dX3_worth_13 rfl (by omega) (by omega) (fun c1 => ?_) (fun c1 => ?_)
  · omega
  · refine xe_iload dX3_worth_16 rfl ?_
    refine xe_iload_n dX3_worth_18 rfl ?_
    refine xn_icmp_ge (tgt := 25) dX3_worth_19 rfl (by omega) (by omega) (fun c2 => ?_) (fun c2 => ?_)
    · refine xe_aload_n dX3_worth_25 rfl ?_
      refine xe_getP dX3_worth_26 flX3_13 (st10 hs) (by decide) rfl (sp10_0 hs) ?_
      refine xe_iload dX3_worth_29 rfl ?_
      refine xn_ialdv dX3_worth_31 (st11 hs) (by omega) (by decide) (v := nI 45) (hS) ?_
      refine xe_istore dX3_worth_32 (by decide) rfl ?_
      refine xe_iload dX3_worth_34 rfl ?_
      refine xn_if_eq (tgt := 45) dX3_worth_36 rfl (by omega) (fun c3 => ?_) (fun c3 => ?_)
      · omega
      · refine xe_iload dX3_worth_39 rfl ?_
        refine xe_iconst dX3_worth_41 kc_1 ?_
        refine xn_icmp_ne (tgt := 95) dX3_worth_42 rfl (by omega) (by omega) (fun c4 => ?_) (fun c4 => ?_)
        · refine xe_iload dX3_worth_95 rfl ?_
          refine xe_iconst dX3_worth_97 kc_2 ?_
          refine xn_icmp_ne (tgt := 118) dX3_worth_98 rfl (by omega) (by omega) (fun c5 => ?_) (fun c5 => ?_)
          · refine xe_iload_n dX3_worth_118 rfl ?_
            refine xe_iconst dX3_worth_119 kc_2 ?_
            refine xn_icmp_ge (tgt := 125) dX3_worth_120 rfl (by omega) (by omega) (fun c6 => ?_) (fun c6 => ?_)
            · refine xe_iinc dX3_worth_125 rfl (v := nI (top - 2)) (q_iincm (by omega) (by decide +kernel)) ?_
              refine xe_aload_n dX3_worth_128 rfl ?_
              refine xe_getP dX3_worth_129 flX3_44 (st10 hs) (by decide) rfl (sp10_15 hs) ?_
              refine xe_iload_n dX3_worth_132 rfl ?_
              refine xn_ialdv dX3_worth_133 (st21 hs) (by omega) (by decide) (v := a) (hA) ?_
              refine xe_istore dX3_worth_134 (by decide) rfl ?_
              refine xe_aload_n dX3_worth_136 rfl ?_
              refine xe_getP dX3_worth_137 flX3_44 (st10 hs) (by decide) rfl (sp10_15 hs) ?_
              refine xe_iload_n dX3_worth_140 rfl ?_
              refine xe_iconst dX3_worth_141 kc_1 ?_
              refine xn_iadd dX3_worth_142 ?_
              refine xn_ialdv dX3_worth_143 (st21 hs) (by omega) (by decide) (v := b) ((by rw [show top - 2 + 1 = top - 1 by omega]; exact hB)) ?_
              refine xe_istore dX3_worth_144 (by decide) rfl ?_
              refine xe_iload dX3_worth_146 rfl ?_
              refine xe_iconst dX3_worth_148 kc_3 ?_
              refine xn_icmp_ne (tgt := 174) dX3_worth_149 rfl (by omega) (by omega) (fun c7 => ?_) (fun c7 => ?_)
              · refine xe_iload dX3_worth_174 rfl ?_
                refine xe_bipush dX3_worth_176 kb_47 ?_
                refine xn_icmp_ne (tgt := 188) dX3_worth_178 rfl (by omega) (by omega) (fun c8 => ?_) (fun c8 => ?_)
                · refine xe_aload_n dX3_worth_188 rfl ?_
                  refine xe_getP dX3_worth_189 flX3_44 (st10 hs) (by decide) rfl (sp10_15 hs) ?_
                  refine xe_iload_n dX3_worth_192 rfl ?_
                  refine xe_iload dX3_worth_193 rfl ?_
                  refine xe_iload dX3_worth_195 rfl ?_
                  refine xe_iload dX3_worth_197 rfl ?_
                  refine xe_callSI (d' := 0) (y' := mX3_reckon) dX3_worth_199 mlX3_67 msX3_reckon rfl (by decide) (by decide) (Nat.le_of_ble_eq_true rfl) (c_X3_reckon_sub l g _ _ _) rfl ?_
                  refine xn_iast dX3_worth_202 (st21 hs) (by omega) (by decide) ?_
                  refine xe_iinc dX3_worth_203 rfl (v := nI (top - 1)) (q_inc2 h2) ?_
                  refine xn_iinc dX3_worth_206 rfl kc_1 ?_
                  refine xe_goto (tgt := 7) dX3_worth_209 rfl ?_
                  exact xe_fin K (And.intro rfl (And.intro rfl (And.intro rfl (And.intro rfl trivial)))) (q_heq [21] (H := h) (by repeat (first | exact q_out_r | refine q_out_w rfl ?_)) (by repeat (first | exact q_out_r | refine q_out_w rfl ?_)) (And.intro rfl trivial))
                · omega
              · omega
            · omega
          · omega
        · omega
    · omega
theorem c_X3_reckon_mul (l : Launch) (g : q_GP) (h : q_H) (a b : Int32) : q_Cd l g 0 mX3_reckon [.int (nI 42), .int a, .int b] h (some (.int (a * b))) h := by
  refine q_CdS msX3_reckon (Nat.le_of_ble_eq_true rfl) ?_
  refine xe_iload_n dX3_reckon_0 rfl ?_
  refine xe_tsw_in (tgt := 48) dX3_reckon_1 (by decide) (by decide) rfl rfl ?_
  refine xe_iload_n dX3_reckon_48 rfl ?_
  refine xe_iload_n dX3_reckon_49 rfl ?_
  refine xe_imul dX3_reckon_50 ?_
  refine xe_ireturn dX3_reckon_51 rfl (by first | rfl | decide +kernel) ?_
  exact ⟨rfl, rfl⟩
theorem w_mul10 {l : Launch} {g : q_GP} {h : q_H} (hs : q_Stat h) {Q : Option Value → q_H → Prop} {n : Nat} (hn : q_I h 10 2 = nI n) (hn2 : n ≤ 416) {top go ad : Nat} {stk : Nat → Int32} (ha : ad < n) (hg : go ≤ ad) (ht : top ≤ 32) (h2 : 2 ≤ top) (hS : q_I h 11 ad = nI 42) {a b : Int32} (hA : stk (top - 2) = a) (hB : stk (top - 1) = b) (K : q_Ex l g 1 mX3_worth 7 [(0, .ref 10), (2, .int (nI (top - 1))), (3, .int (nI go)), (4, .int (nI (ad + 1)))] [] (q_wI h 21 (upd stk (top - 2) (a * b))) Q) : q_Ex l g 1 mX3_worth 7 [(0, .ref 10), (2, .int (nI top)), (3, .int (nI go)), (4, .int (nI ad))] [] (q_wI h 21 stk) Q := by
  refine xe_iload dX3_worth_7 rfl ?_
  refine xe_aload_n dX3_worth_9 rfl ?_
  refine xe_getIv dX3_worth_10 flX3_47 (st10 hs) (by decide) rfl (v := nI n) (hn) ?_
  refine xn_icmp_ge (tgt := 212) dX3_worth_13 rfl (by omega) (by omega) (fun c1 => ?_) (fun c1 => ?_)
  · omega
  · refine xe_iload dX3_worth_16 rfl ?_
    refine xe_iload_n dX3_worth_18 rfl ?_
    refine xn_icmp_ge (tgt := 25) dX3_worth_19 rfl (by omega) (by omega) (fun c2 => ?_) (fun c2 => ?_)
    · refine xe_aload_n dX3_worth_25 rfl ?_
      refine xe_getP dX3_worth_26 flX3_13 (st10 hs) (by decide) rfl (sp10_0 hs) ?_
      refine xe_iload dX3_worth_29 rfl ?_
      refine xn_ialdv dX3_worth_31 (st11 hs) (by omega) (by decide) (v := nI 42) (hS) ?_
      refine xe_istore dX3_worth_32 (by decide) rfl ?_
      refine xe_iload dX3_worth_34 rfl ?_
      refine xn_if_eq (tgt := 45) dX3_worth_36 rfl (by omega) (fun c3 => ?_) (fun c3 => ?_)
      · omega
      · refine xe_iload dX3_worth_39 rfl ?_
        refine xe_iconst dX3_worth_41 kc_1 ?_
        refine xn_icmp_ne (tgt := 95) dX3_worth_42 rfl (by omega) (by omega) (fun c4 => ?_) (fun c4 => ?_)
        · refine xe_iload dX3_worth_95 rfl ?_
          refine xe_iconst dX3_worth_97 kc_2 ?_
          refine xn_icmp_ne (tgt := 118) dX3_worth_98 rfl (by omega) (by omega) (fun c5 => ?_) (fun c5 => ?_)
          · refine xe_iload_n dX3_worth_118 rfl ?_
            refine xe_iconst dX3_worth_119 kc_2 ?_
            refine xn_icmp_ge (tgt := 125) dX3_worth_120 rfl (by omega) (by omega) (fun c6 => ?_) (fun c6 => ?_)
            · refine xe_iinc dX3_worth_125 rfl (v := nI (top - 2)) (q_iincm (by omega) (by decide +kernel)) ?_
              refine xe_aload_n dX3_worth_128 rfl ?_
              refine xe_getP dX3_worth_129 flX3_44 (st10 hs) (by decide) rfl (sp10_15 hs) ?_
              refine xe_iload_n dX3_worth_132 rfl ?_
              refine xn_ialdv dX3_worth_133 (st21 hs) (by omega) (by decide) (v := a) (hA) ?_
              refine xe_istore dX3_worth_134 (by decide) rfl ?_
              refine xe_aload_n dX3_worth_136 rfl ?_
              refine xe_getP dX3_worth_137 flX3_44 (st10 hs) (by decide) rfl (sp10_15 hs) ?_
              refine xe_iload_n dX3_worth_140 rfl ?_
              refine xe_iconst dX3_worth_141 kc_1 ?_
              refine xn_iadd dX3_worth_142 ?_
              refine xn_ialdv dX3_worth_143 (st21 hs) (by omega) (by decide) (v := b) ((by rw [show top - 2 + 1 = top - 1 by omega]; exact hB)) ?_
              refine xe_istore dX3_worth_144 (by decide) rfl ?_
              refine xe_iload dX3_worth_146 rfl ?_
              refine xe_iconst dX3_worth_148 kc_3 ?_
              refine xn_icmp_ne (tgt := 174) dX3_worth_149 rfl (by omega) (by omega) (fun c7 => ?_) (fun c7 => ?_)
              · refine xe_iload dX3_worth_174 rfl ?_
                refine xe_bipush dX3_worth_176 kb_47 ?_
                refine xn_icmp_ne (tgt := 188) dX3_worth_178 rfl (by omega) (by omega) (fun c8 => ?_) (fun c8 => ?_)
                · refine xe_aload_n dX3_worth_188 rfl ?_
                  refine xe_getP dX3_worth_189 flX3_44 (st10 hs) (by decide) rfl (sp10_15 hs) ?_
                  refine xe_iload_n dX3_worth_192 rfl ?_
                  refine xe_iload dX3_worth_193 rfl ?_
                  refine xe_iload dX3_worth_195 rfl ?_
                  refine xe_iload dX3_worth_197 rfl ?_
                  refine xe_callSI (d' := 0) (y' := mX3_reckon) dX3_worth_199 mlX3_67 msX3_reckon rfl (by decide) (by decide) (Nat.le_of_ble_eq_true rfl) (c_X3_reckon_mul l g _ _ _) rfl ?_
                  refine xn_iast dX3_worth_202 (st21 hs) (by omega) (by decide) ?_
                  refine xe_iinc dX3_worth_203 rfl (v := nI (top - 1)) (q_inc2 h2) ?_
                  refine xn_iinc dX3_worth_206 rfl kc_1 ?_
                  refine xe_goto (tgt := 7) dX3_worth_209 rfl ?_
                  exact xe_fin K (And.intro rfl (And.intro rfl (And.intro rfl (And.intro rfl trivial)))) (q_heq [21] (H := h) (by repeat (first | exact q_out_r | refine q_out_w rfl ?_)) (by repeat (first | exact q_out_r | refine q_out_w rfl ?_)) (And.intro rfl trivial))
                · omega
              · omega
            · omega
          · omega
        · omega
    · omega
theorem c_X3_reckon_div (l : Launch) (g : q_GP) (h : q_H) (a b : Int32) (hb : ¬ b = 0) : q_Cd l g 0 mX3_reckon [.int (nI 47), .int a, .int b] h (some (.int (a / b))) h := by
  refine q_CdS msX3_reckon (Nat.le_of_ble_eq_true rfl) ?_
  refine xe_iload_n dX3_reckon_0 rfl ?_
  refine xe_tsw_in (tgt := 52) dX3_reckon_1 (by decide) (by decide) rfl rfl ?_
  refine xe_iload_n dX3_reckon_52 rfl ?_
  refine xe_if_ne (tgt := 60) dX3_reckon_53 rfl (fun c1 => ?_) (fun c1 => ?_)
  · refine xe_iload_n dX3_reckon_60 rfl ?_
    refine xe_iload_n dX3_reckon_61 rfl ?_
    refine xe_idiv dX3_reckon_62 hb ?_
    refine xe_ireturn dX3_reckon_63 rfl (by first | rfl | decide +kernel) ?_
    exact ⟨rfl, rfl⟩
  · exact absurd c1 hb
theorem w_div10 {l : Launch} {g : q_GP} {h : q_H} (hs : q_Stat h) {Q : Option Value → q_H → Prop} {n : Nat} (hn : q_I h 10 2 = nI n) (hn2 : n ≤ 416) {top go ad : Nat} {stk : Nat → Int32} (ha : ad < n) (hg : go ≤ ad) (ht : top ≤ 32) (h2 : 2 ≤ top) (hS : q_I h 11 ad = nI 47) {a b : Int32} (hA : stk (top - 2) = a) (hB : stk (top - 1) = b) (hb : ¬ b = 0) (K : q_Ex l g 1 mX3_worth 7 [(0, .ref 10), (2, .int (nI (top - 1))), (3, .int (nI go)), (4, .int (nI (ad + 1)))] [] (q_wI h 21 (upd stk (top - 2) (a / b))) Q) : q_Ex l g 1 mX3_worth 7 [(0, .ref 10), (2, .int (nI top)), (3, .int (nI go)), (4, .int (nI ad))] [] (q_wI h 21 stk) Q := by
  refine xe_iload dX3_worth_7 rfl ?_
  refine xe_aload_n dX3_worth_9 rfl ?_
  refine xe_getIv dX3_worth_10 flX3_47 (st10 hs) (by decide) rfl (v := nI n) (hn) ?_
  refine xn_icmp_ge (tgt := 212) dX3_worth_13 rfl (by omega) (by omega) (fun c1 => ?_) (fun c1 => ?_)
  · omega
  · refine xe_iload dX3_worth_16 rfl ?_
    refine xe_iload_n dX3_worth_18 rfl ?_
    refine xn_icmp_ge (tgt := 25) dX3_worth_19 rfl (by omega) (by omega) (fun c2 => ?_) (fun c2 => ?_)
    · refine xe_aload_n dX3_worth_25 rfl ?_
      refine xe_getP dX3_worth_26 flX3_13 (st10 hs) (by decide) rfl (sp10_0 hs) ?_
      refine xe_iload dX3_worth_29 rfl ?_
      refine xn_ialdv dX3_worth_31 (st11 hs) (by omega) (by decide) (v := nI 47) (hS) ?_
      refine xe_istore dX3_worth_32 (by decide) rfl ?_
      refine xe_iload dX3_worth_34 rfl ?_
      refine xn_if_eq (tgt := 45) dX3_worth_36 rfl (by omega) (fun c3 => ?_) (fun c3 => ?_)
      · omega
      · refine xe_iload dX3_worth_39 rfl ?_
        refine xe_iconst dX3_worth_41 kc_1 ?_
        refine xn_icmp_ne (tgt := 95) dX3_worth_42 rfl (by omega) (by omega) (fun c4 => ?_) (fun c4 => ?_)
        · refine xe_iload dX3_worth_95 rfl ?_
          refine xe_iconst dX3_worth_97 kc_2 ?_
          refine xn_icmp_ne (tgt := 118) dX3_worth_98 rfl (by omega) (by omega) (fun c5 => ?_) (fun c5 => ?_)
          · refine xe_iload_n dX3_worth_118 rfl ?_
            refine xe_iconst dX3_worth_119 kc_2 ?_
            refine xn_icmp_ge (tgt := 125) dX3_worth_120 rfl (by omega) (by omega) (fun c6 => ?_) (fun c6 => ?_)
            · refine xe_iinc dX3_worth_125 rfl (v := nI (top - 2)) (q_iincm (by omega) (by decide +kernel)) ?_
              refine xe_aload_n dX3_worth_128 rfl ?_
              refine xe_getP dX3_worth_129 flX3_44 (st10 hs) (by decide) rfl (sp10_15 hs) ?_
              refine xe_iload_n dX3_worth_132 rfl ?_
              refine xn_ialdv dX3_worth_133 (st21 hs) (by omega) (by decide) (v := a) (hA) ?_
              refine xe_istore dX3_worth_134 (by decide) rfl ?_
              refine xe_aload_n dX3_worth_136 rfl ?_
              refine xe_getP dX3_worth_137 flX3_44 (st10 hs) (by decide) rfl (sp10_15 hs) ?_
              refine xe_iload_n dX3_worth_140 rfl ?_
              refine xe_iconst dX3_worth_141 kc_1 ?_
              refine xn_iadd dX3_worth_142 ?_
              refine xn_ialdv dX3_worth_143 (st21 hs) (by omega) (by decide) (v := b) ((by rw [show top - 2 + 1 = top - 1 by omega]; exact hB)) ?_
              refine xe_istore dX3_worth_144 (by decide) rfl ?_
              refine xe_iload dX3_worth_146 rfl ?_
              refine xe_iconst dX3_worth_148 kc_3 ?_
              refine xn_icmp_ne (tgt := 174) dX3_worth_149 rfl (by omega) (by omega) (fun c7 => ?_) (fun c7 => ?_)
              · refine xe_iload dX3_worth_174 rfl ?_
                refine xe_bipush dX3_worth_176 kb_47 ?_
                refine xn_icmp_ne (tgt := 188) dX3_worth_178 rfl (by omega) (by omega) (fun c8 => ?_) (fun c8 => ?_)
                · omega
                · refine xe_iload dX3_worth_181 rfl ?_
                  refine xe_if_ne (tgt := 188) dX3_worth_183 rfl (fun c9 => ?_) (fun c9 => ?_)
                  · refine xe_aload_n dX3_worth_188 rfl ?_
                    refine xe_getP dX3_worth_189 flX3_44 (st10 hs) (by decide) rfl (sp10_15 hs) ?_
                    refine xe_iload_n dX3_worth_192 rfl ?_
                    refine xe_iload dX3_worth_193 rfl ?_
                    refine xe_iload dX3_worth_195 rfl ?_
                    refine xe_iload dX3_worth_197 rfl ?_
                    refine xe_callSI (d' := 0) (y' := mX3_reckon) dX3_worth_199 mlX3_67 msX3_reckon rfl (by decide) (by decide) (Nat.le_of_ble_eq_true rfl) (c_X3_reckon_div l g _ _ _ hb) rfl ?_
                    refine xn_iast dX3_worth_202 (st21 hs) (by omega) (by decide) ?_
                    refine xe_iinc dX3_worth_203 rfl (v := nI (top - 1)) (q_inc2 h2) ?_
                    refine xn_iinc dX3_worth_206 rfl kc_1 ?_
                    refine xe_goto (tgt := 7) dX3_worth_209 rfl ?_
                    exact xe_fin K (And.intro rfl (And.intro rfl (And.intro rfl (And.intro rfl trivial)))) (q_heq [21] (H := h) (by repeat (first | exact q_out_r | refine q_out_w rfl ?_)) (by repeat (first | exact q_out_r | refine q_out_w rfl ?_)) (And.intro rfl trivial))
                  · exact absurd c9 hb
              · omega
            · omega
          · omega
        · omega
    · omega
theorem w_div010 {l : Launch} {g : q_GP} {h : q_H} (hs : q_Stat h) {Q : Option Value → q_H → Prop} {n : Nat} (hn : q_I h 10 2 = nI n) (hn2 : n ≤ 416) {top go ad : Nat} {stk : Nat → Int32} (ha : ad < n) (hg : go ≤ ad) (ht : top ≤ 32) (h2 : 2 ≤ top) (hS : q_I h 11 ad = nI 47) {a b : Int32} (hA : stk (top - 2) = a) (hB : stk (top - 1) = b) (hb : b = 0) (K : Q (some (.int (nI 0))) (q_wI h 21 stk)) : q_Ex l g 1 mX3_worth 7 [(0, .ref 10), (2, .int (nI top)), (3, .int (nI go)), (4, .int (nI ad))] [] (q_wI h 21 stk) Q := by
  refine xe_iload dX3_worth_7 rfl ?_
  refine xe_aload_n dX3_worth_9 rfl ?_
  refine xe_getIv dX3_worth_10 flX3_47 (st10 hs) (by decide) rfl (v := nI n) (hn) ?_
  refine xn_icmp_ge (tgt := 212) dX3_worth_13 rfl (by omega) (by omega) (fun c1 => ?_) (fun c1 => ?_)
  · omega
  · refine xe_iload dX3_worth_16 rfl ?_
    refine xe_iload_n dX3_worth_18 rfl ?_
    refine xn_icmp_ge (tgt := 25) dX3_worth_19 rfl (by omega) (by omega) (fun c2 => ?_) (fun c2 => ?_)
    · refine xe_aload_n dX3_worth_25 rfl ?_
      refine xe_getP dX3_worth_26 flX3_13 (st10 hs) (by decide) rfl (sp10_0 hs) ?_
      refine xe_iload dX3_worth_29 rfl ?_
      refine xn_ialdv dX3_worth_31 (st11 hs) (by omega) (by decide) (v := nI 47) (hS) ?_
      refine xe_istore dX3_worth_32 (by decide) rfl ?_
      refine xe_iload dX3_worth_34 rfl ?_
      refine xn_if_eq (tgt := 45) dX3_worth_36 rfl (by omega) (fun c3 => ?_) (fun c3 => ?_)
      · omega
      · refine xe_iload dX3_worth_39 rfl ?_
        refine xe_iconst dX3_worth_41 kc_1 ?_
        refine xn_icmp_ne (tgt := 95) dX3_worth_42 rfl (by omega) (by omega) (fun c4 => ?_) (fun c4 => ?_)
        · refine xe_iload dX3_worth_95 rfl ?_
          refine xe_iconst dX3_worth_97 kc_2 ?_
          refine xn_icmp_ne (tgt := 118) dX3_worth_98 rfl (by omega) (by omega) (fun c5 => ?_) (fun c5 => ?_)
          · refine xe_iload_n dX3_worth_118 rfl ?_
            refine xe_iconst dX3_worth_119 kc_2 ?_
            refine xn_icmp_ge (tgt := 125) dX3_worth_120 rfl (by omega) (by omega) (fun c6 => ?_) (fun c6 => ?_)
            · refine xe_iinc dX3_worth_125 rfl (v := nI (top - 2)) (q_iincm (by omega) (by decide +kernel)) ?_
              refine xe_aload_n dX3_worth_128 rfl ?_
              refine xe_getP dX3_worth_129 flX3_44 (st10 hs) (by decide) rfl (sp10_15 hs) ?_
              refine xe_iload_n dX3_worth_132 rfl ?_
              refine xn_ialdv dX3_worth_133 (st21 hs) (by omega) (by decide) (v := a) (hA) ?_
              refine xe_istore dX3_worth_134 (by decide) rfl ?_
              refine xe_aload_n dX3_worth_136 rfl ?_
              refine xe_getP dX3_worth_137 flX3_44 (st10 hs) (by decide) rfl (sp10_15 hs) ?_
              refine xe_iload_n dX3_worth_140 rfl ?_
              refine xe_iconst dX3_worth_141 kc_1 ?_
              refine xn_iadd dX3_worth_142 ?_
              refine xn_ialdv dX3_worth_143 (st21 hs) (by omega) (by decide) (v := b) ((by rw [show top - 2 + 1 = top - 1 by omega]; exact hB)) ?_
              refine xe_istore dX3_worth_144 (by decide) rfl ?_
              refine xe_iload dX3_worth_146 rfl ?_
              refine xe_iconst dX3_worth_148 kc_3 ?_
              refine xn_icmp_ne (tgt := 174) dX3_worth_149 rfl (by omega) (by omega) (fun c7 => ?_) (fun c7 => ?_)
              · refine xe_iload dX3_worth_174 rfl ?_
                refine xe_bipush dX3_worth_176 kb_47 ?_
                refine xn_icmp_ne (tgt := 188) dX3_worth_178 rfl (by omega) (by omega) (fun c8 => ?_) (fun c8 => ?_)
                · omega
                · refine xe_iload dX3_worth_181 rfl ?_
                  refine xe_if_ne (tgt := 188) dX3_worth_183 rfl (fun c9 => ?_) (fun c9 => ?_)
                  · exact absurd hb c9
                  · refine xe_iconst dX3_worth_186 kc_0 ?_
                    refine xe_ireturn dX3_worth_187 rfl (by first | rfl | decide +kernel) ?_
                    exact K
              · omega
            · omega
          · omega
        · omega
    · omega
theorem w_end10 {l : Launch} {g : q_GP} {h : q_H} (hs : q_Stat h) {Q : Option Value → q_H → Prop} {n : Nat} (hn : q_I h 10 2 = nI n) (hn2 : n ≤ 416) {top go ad : Nat} {stk : Nat → Int32} (ha : ad < n) (hg : go ≤ ad) (ht : top ≤ 32) (h2 : 1 ≤ top) (hS : q_I h 11 ad = nI 2) {v : Int32} (hv : stk (top - 1) = v) (K : Q (some (.int v)) (q_wI h 21 stk)) : q_Ex l g 1 mX3_worth 7 [(0, .ref 10), (2, .int (nI top)), (3, .int (nI go)), (4, .int (nI ad))] [] (q_wI h 21 stk) Q := by
  refine xe_iload dX3_worth_7 rfl ?_
  refine xe_aload_n dX3_worth_9 rfl ?_
  refine xe_getIv dX3_worth_10 flX3_47 (st10 hs) (by decide) rfl (v := nI n) (hn) ?_
  refine xn_icmp_ge (tgt := 212) dX3_worth_13 rfl (by omega) (by omega) (fun c1 => ?_) (fun c1 => ?_)
  · omega
  · refine xe_iload dX3_worth_16 rfl ?_
    refine xe_iload_n dX3_worth_18 rfl ?_
    refine xn_icmp_ge (tgt := 25) dX3_worth_19 rfl (by omega) (by omega) (fun c2 => ?_) (fun c2 => ?_)
    · refine xe_aload_n dX3_worth_25 rfl ?_
      refine xe_getP dX3_worth_26 flX3_13 (st10 hs) (by decide) rfl (sp10_0 hs) ?_
      refine xe_iload dX3_worth_29 rfl ?_
      refine xn_ialdv dX3_worth_31 (st11 hs) (by omega) (by decide) (v := nI 2) (hS) ?_
      refine xe_istore dX3_worth_32 (by decide) rfl ?_
      refine xe_iload dX3_worth_34 rfl ?_
      refine xn_if_eq (tgt := 45) dX3_worth_36 rfl (by omega) (fun c3 => ?_) (fun c3 => ?_)
      · omega
      · refine xe_iload dX3_worth_39 rfl ?_
        refine xe_iconst dX3_worth_41 kc_1 ?_
        refine xn_icmp_ne (tgt := 95) dX3_worth_42 rfl (by omega) (by omega) (fun c4 => ?_) (fun c4 => ?_)
        · refine xe_iload dX3_worth_95 rfl ?_
          refine xe_iconst dX3_worth_97 kc_2 ?_
          refine xn_icmp_ne (tgt := 118) dX3_worth_98 rfl (by omega) (by omega) (fun c5 => ?_) (fun c5 => ?_)
          · omega
          · refine xe_iload_n dX3_worth_101 rfl ?_
            refine xn_if_le (tgt := 116) dX3_worth_102 rfl (by omega) (fun c6 => ?_) (fun c6 => ?_)
            · omega
            · refine xe_aload_n dX3_worth_105 rfl ?_
              refine xe_getP dX3_worth_106 flX3_44 (st10 hs) (by decide) rfl (sp10_15 hs) ?_
              refine xe_iload_n dX3_worth_109 rfl ?_
              refine xe_iconst dX3_worth_110 kc_1 ?_
              refine xn_isub dX3_worth_111 (by omega) ?_
              refine xn_ialdv dX3_worth_112 (st21 hs) (by omega) (by decide) (v := v) (hv) ?_
              refine xe_goto (tgt := 117) dX3_worth_113 rfl ?_
              refine xe_ireturn dX3_worth_117 rfl (by first | rfl | decide +kernel) ?_
              exact K
        · omega
    · omega
theorem w_lt10 {l : Launch} {g : q_GP} {h : q_H} (hs : q_Stat h) {Q : Option Value → q_H → Prop} {n : Nat} (hn : q_I h 10 2 = nI n) (hn2 : n ≤ 416) {top go ad : Nat} {stk : Nat → Int32} (ha : ad < n) (hg : go ≤ ad) (ht : top ≤ 32) (h2 : 2 ≤ top) (hS : q_I h 11 ad = nI 3) {a b : Int32} (hA : stk (top - 2) = a) (hB : stk (top - 1) = b) (hab : a < b) (K : q_Ex l g 1 mX3_worth 7 [(0, .ref 10), (2, .int (nI (top - 2))), (3, .int (nI go)), (4, .int (nI (ad + 1)))] [] (q_wI h 21 stk) Q) : q_Ex l g 1 mX3_worth 7 [(0, .ref 10), (2, .int (nI top)), (3, .int (nI go)), (4, .int (nI ad))] [] (q_wI h 21 stk) Q := by
  refine xe_iload dX3_worth_7 rfl ?_
  refine xe_aload_n dX3_worth_9 rfl ?_
  refine xe_getIv dX3_worth_10 flX3_47 (st10 hs) (by decide) rfl (v := nI n) (hn) ?_
  refine xn_icmp_ge (tgt := 212) dX3_worth_13 rfl (by omega) (by omega) (fun c1 => ?_) (fun c1 => ?_)
  · omega
  · refine xe_iload dX3_worth_16 rfl ?_
    refine xe_iload_n dX3_worth_18 rfl ?_
    refine xn_icmp_ge (tgt := 25) dX3_worth_19 rfl (by omega) (by omega) (fun c2 => ?_) (fun c2 => ?_)
    · refine xe_aload_n dX3_worth_25 rfl ?_
      refine xe_getP dX3_worth_26 flX3_13 (st10 hs) (by decide) rfl (sp10_0 hs) ?_
      refine xe_iload dX3_worth_29 rfl ?_
      refine xn_ialdv dX3_worth_31 (st11 hs) (by omega) (by decide) (v := nI 3) (hS) ?_
      refine xe_istore dX3_worth_32 (by decide) rfl ?_
      refine xe_iload dX3_worth_34 rfl ?_
      refine xn_if_eq (tgt := 45) dX3_worth_36 rfl (by omega) (fun c3 => ?_) (fun c3 => ?_)
      · omega
      · refine xe_iload dX3_worth_39 rfl ?_
        refine xe_iconst dX3_worth_41 kc_1 ?_
        refine xn_icmp_ne (tgt := 95) dX3_worth_42 rfl (by omega) (by omega) (fun c4 => ?_) (fun c4 => ?_)
        · refine xe_iload dX3_worth_95 rfl ?_
          refine xe_iconst dX3_worth_97 kc_2 ?_
          refine xn_icmp_ne (tgt := 118) dX3_worth_98 rfl (by omega) (by omega) (fun c5 => ?_) (fun c5 => ?_)
          · refine xe_iload_n dX3_worth_118 rfl ?_
            refine xe_iconst dX3_worth_119 kc_2 ?_
            refine xn_icmp_ge (tgt := 125) dX3_worth_120 rfl (by omega) (by omega) (fun c6 => ?_) (fun c6 => ?_)
            · refine xe_iinc dX3_worth_125 rfl (v := nI (top - 2)) (q_iincm (by omega) (by decide +kernel)) ?_
              refine xe_aload_n dX3_worth_128 rfl ?_
              refine xe_getP dX3_worth_129 flX3_44 (st10 hs) (by decide) rfl (sp10_15 hs) ?_
              refine xe_iload_n dX3_worth_132 rfl ?_
              refine xn_ialdv dX3_worth_133 (st21 hs) (by omega) (by decide) (v := a) (hA) ?_
              refine xe_istore dX3_worth_134 (by decide) rfl ?_
              refine xe_aload_n dX3_worth_136 rfl ?_
              refine xe_getP dX3_worth_137 flX3_44 (st10 hs) (by decide) rfl (sp10_15 hs) ?_
              refine xe_iload_n dX3_worth_140 rfl ?_
              refine xe_iconst dX3_worth_141 kc_1 ?_
              refine xn_iadd dX3_worth_142 ?_
              refine xn_ialdv dX3_worth_143 (st21 hs) (by omega) (by decide) (v := b) ((by rw [show top - 2 + 1 = top - 1 by omega]; exact hB)) ?_
              refine xe_istore dX3_worth_144 (by decide) rfl ?_
              refine xe_iload dX3_worth_146 rfl ?_
              refine xe_iconst dX3_worth_148 kc_3 ?_
              refine xn_icmp_ne (tgt := 174) dX3_worth_149 rfl (by omega) (by omega) (fun c7 => ?_) (fun c7 => ?_)
              · omega
              · refine xe_iload dX3_worth_152 rfl ?_
                refine xe_iload dX3_worth_154 rfl ?_
                refine xe_icmp_ge (tgt := 163) dX3_worth_156 rfl (fun c8 => ?_) (fun c8 => ?_)
                · exact absurd hab (Int32.not_lt.mpr c8)
                · refine xe_iload_n dX3_worth_159 rfl ?_
                  refine xe_goto (tgt := 170) dX3_worth_160 rfl ?_
                  refine xe_istore_n (i := 3) dX3_worth_170 rfl (by decide) rfl ?_
                  refine xe_goto (tgt := 206) dX3_worth_171 rfl ?_
                  refine xn_iinc dX3_worth_206 rfl kc_1 ?_
                  refine xe_goto (tgt := 7) dX3_worth_209 rfl ?_
                  exact xe_fin K (And.intro rfl (And.intro rfl (And.intro rfl (And.intro rfl trivial)))) (q_heq [21] (H := h) (by repeat (first | exact q_out_r | refine q_out_w rfl ?_)) (by repeat (first | exact q_out_r | refine q_out_w rfl ?_)) (And.intro rfl trivial))
            · omega
          · omega
        · omega
    · omega
theorem w_ge10 {l : Launch} {g : q_GP} {h : q_H} (hs : q_Stat h) {Q : Option Value → q_H → Prop} {n : Nat} (hn : q_I h 10 2 = nI n) (hn2 : n ≤ 416) {top go ad : Nat} {stk : Nat → Int32} (ha : ad < n) (hg : go ≤ ad) (ht : top ≤ 32) (h2 : 2 ≤ top) (hS : q_I h 11 ad = nI 3) {a b : Int32} (hA : stk (top - 2) = a) (hB : stk (top - 1) = b) (hab : ¬ a < b) {to : Nat} (hW : q_I h 12 ad = nI to) (K : q_Ex l g 1 mX3_worth 7 [(0, .ref 10), (2, .int (nI (top - 2))), (3, .int (nI to)), (4, .int (nI (ad + 1)))] [] (q_wI h 21 stk) Q) : q_Ex l g 1 mX3_worth 7 [(0, .ref 10), (2, .int (nI top)), (3, .int (nI go)), (4, .int (nI ad))] [] (q_wI h 21 stk) Q := by
  refine xe_iload dX3_worth_7 rfl ?_
  refine xe_aload_n dX3_worth_9 rfl ?_
  refine xe_getIv dX3_worth_10 flX3_47 (st10 hs) (by decide) rfl (v := nI n) (hn) ?_
  refine xn_icmp_ge (tgt := 212) dX3_worth_13 rfl (by omega) (by omega) (fun c1 => ?_) (fun c1 => ?_)
  · omega
  · refine xe_iload dX3_worth_16 rfl ?_
    refine xe_iload_n dX3_worth_18 rfl ?_
    refine xn_icmp_ge (tgt := 25) dX3_worth_19 rfl (by omega) (by omega) (fun c2 => ?_) (fun c2 => ?_)
    · refine xe_aload_n dX3_worth_25 rfl ?_
      refine xe_getP dX3_worth_26 flX3_13 (st10 hs) (by decide) rfl (sp10_0 hs) ?_
      refine xe_iload dX3_worth_29 rfl ?_
      refine xn_ialdv dX3_worth_31 (st11 hs) (by omega) (by decide) (v := nI 3) (hS) ?_
      refine xe_istore dX3_worth_32 (by decide) rfl ?_
      refine xe_iload dX3_worth_34 rfl ?_
      refine xn_if_eq (tgt := 45) dX3_worth_36 rfl (by omega) (fun c3 => ?_) (fun c3 => ?_)
      · omega
      · refine xe_iload dX3_worth_39 rfl ?_
        refine xe_iconst dX3_worth_41 kc_1 ?_
        refine xn_icmp_ne (tgt := 95) dX3_worth_42 rfl (by omega) (by omega) (fun c4 => ?_) (fun c4 => ?_)
        · refine xe_iload dX3_worth_95 rfl ?_
          refine xe_iconst dX3_worth_97 kc_2 ?_
          refine xn_icmp_ne (tgt := 118) dX3_worth_98 rfl (by omega) (by omega) (fun c5 => ?_) (fun c5 => ?_)
          · refine xe_iload_n dX3_worth_118 rfl ?_
            refine xe_iconst dX3_worth_119 kc_2 ?_
            refine xn_icmp_ge (tgt := 125) dX3_worth_120 rfl (by omega) (by omega) (fun c6 => ?_) (fun c6 => ?_)
            · refine xe_iinc dX3_worth_125 rfl (v := nI (top - 2)) (q_iincm (by omega) (by decide +kernel)) ?_
              refine xe_aload_n dX3_worth_128 rfl ?_
              refine xe_getP dX3_worth_129 flX3_44 (st10 hs) (by decide) rfl (sp10_15 hs) ?_
              refine xe_iload_n dX3_worth_132 rfl ?_
              refine xn_ialdv dX3_worth_133 (st21 hs) (by omega) (by decide) (v := a) (hA) ?_
              refine xe_istore dX3_worth_134 (by decide) rfl ?_
              refine xe_aload_n dX3_worth_136 rfl ?_
              refine xe_getP dX3_worth_137 flX3_44 (st10 hs) (by decide) rfl (sp10_15 hs) ?_
              refine xe_iload_n dX3_worth_140 rfl ?_
              refine xe_iconst dX3_worth_141 kc_1 ?_
              refine xn_iadd dX3_worth_142 ?_
              refine xn_ialdv dX3_worth_143 (st21 hs) (by omega) (by decide) (v := b) ((by rw [show top - 2 + 1 = top - 1 by omega]; exact hB)) ?_
              refine xe_istore dX3_worth_144 (by decide) rfl ?_
              refine xe_iload dX3_worth_146 rfl ?_
              refine xe_iconst dX3_worth_148 kc_3 ?_
              refine xn_icmp_ne (tgt := 174) dX3_worth_149 rfl (by omega) (by omega) (fun c7 => ?_) (fun c7 => ?_)
              · omega
              · refine xe_iload dX3_worth_152 rfl ?_
                refine xe_iload dX3_worth_154 rfl ?_
                refine xe_icmp_ge (tgt := 163) dX3_worth_156 rfl (fun c8 => ?_) (fun c8 => ?_)
                · refine xe_aload_n dX3_worth_163 rfl ?_
                  refine xe_getP dX3_worth_164 flX3_17 (st10 hs) (by decide) rfl (sp10_1 hs) ?_
                  refine xe_iload dX3_worth_167 rfl ?_
                  refine xn_ialdv dX3_worth_169 (st12 hs) (by omega) (by decide) (v := nI to) (hW) ?_
                  refine xe_istore_n (i := 3) dX3_worth_170 rfl (by decide) rfl ?_
                  refine xe_goto (tgt := 206) dX3_worth_171 rfl ?_
                  refine xn_iinc dX3_worth_206 rfl kc_1 ?_
                  refine xe_goto (tgt := 7) dX3_worth_209 rfl ?_
                  exact xe_fin K (And.intro rfl (And.intro rfl (And.intro rfl (And.intro rfl trivial)))) (q_heq [21] (H := h) (by repeat (first | exact q_out_r | refine q_out_w rfl ?_)) (by repeat (first | exact q_out_r | refine q_out_w rfl ?_)) (And.intro rfl trivial))
                · exact absurd (Int32.not_lt.mp hab) c8
            · omega
          · omega
        · omega
    · omega
theorem w_skip10 {l : Launch} {g : q_GP} {h : q_H} (hs : q_Stat h) {Q : Option Value → q_H → Prop} {n : Nat} (hn : q_I h 10 2 = nI n) (hn2 : n ≤ 416) {top go ad : Nat} {stk : Nat → Int32} (ha : ad < n) (hg : ad < go) (hg2 : go < 2 ^ 30) (K : q_Ex l g 1 mX3_worth 7 [(0, .ref 10), (2, .int (nI top)), (3, .int (nI go)), (4, .int (nI (ad + 1)))] [] (q_wI h 21 stk) Q) : q_Ex l g 1 mX3_worth 7 [(0, .ref 10), (2, .int (nI top)), (3, .int (nI go)), (4, .int (nI ad))] [] (q_wI h 21 stk) Q := by
  refine xe_iload dX3_worth_7 rfl ?_
  refine xe_aload_n dX3_worth_9 rfl ?_
  refine xe_getIv dX3_worth_10 flX3_47 (st10 hs) (by decide) rfl (v := nI n) (hn) ?_
  refine xn_icmp_ge (tgt := 212) dX3_worth_13 rfl (by omega) (by omega) (fun c1 => ?_) (fun c1 => ?_)
  · omega
  · refine xe_iload dX3_worth_16 rfl ?_
    refine xe_iload_n dX3_worth_18 rfl ?_
    refine xn_icmp_ge (tgt := 25) dX3_worth_19 rfl (by omega) (by omega) (fun c2 => ?_) (fun c2 => ?_)
    · omega
    · refine xe_goto (tgt := 206) dX3_worth_22 rfl ?_
      refine xn_iinc dX3_worth_206 rfl kc_1 ?_
      refine xe_goto (tgt := 7) dX3_worth_209 rfl ?_
      exact xe_fin K (And.intro rfl (And.intro rfl (And.intro rfl (And.intro rfl trivial)))) (q_heq [21] (H := h) (by repeat (first | exact q_out_r | refine q_out_w rfl ?_)) (by repeat (first | exact q_out_r | refine q_out_w rfl ?_)) (And.intro rfl trivial))
theorem w_skips10 {l : Launch} {g : q_GP} {h : q_H} (hs : q_Stat h) {Q : Option Value → q_H → Prop} {n : Nat} (hn : q_I h 10 2 = nI n) (hn2 : n ≤ 416) {top go : Nat} {stk : Nat → Int32} (hg2 : go ≤ n) (K : q_Ex l g 1 mX3_worth 7 [(0, .ref 10), (2, .int (nI top)), (3, .int (nI go)), (4, .int (nI go))] [] (q_wI h 21 stk) Q) : ∀ k ad, ad + k = go → q_Ex l g 1 mX3_worth 7 [(0, .ref 10), (2, .int (nI top)), (3, .int (nI go)), (4, .int (nI ad))] [] (q_wI h 21 stk) Q
  | 0, ad, e => by
    have e : ad = go := e
    rw [e]
    exact K
  | k + 1, ad, e => w_skip10 hs hn hn2 (by omega) (by omega) (by omega) (w_skips10 hs hn hn2 hg2 K k (ad + 1) (by omega))
/-- a code of numbers -/
theorem w_seg10 {l : Launch} {g : q_GP} {h : q_H} (hs : q_Stat h) {Q : Option Value → q_H → Prop} {n : Nat} (hn : q_I h 10 2 = nI n) (hn2 : n ≤ 416) {go b : Nat} : ∀ (xs : List (Nat × Int32)) (st : List Int32) (stk : Nat → Int32) (ad : Nat), q_sgC (q_I h 11) (q_I h 12) ad xs → q_wfb 31 b xs st.length → st.length ≤ 31 → q_st stk st → go ≤ ad → ad + xs.length < n →
    (∀ (stk' : Nat → Int32) (st' : List Int32), q_ev (q_I h 20) xs st = some st' → st'.length = b + 1 → q_st stk' st' → q_Ex l g 1 mX3_worth 7 [(0, .ref 10), (2, .int (nI st'.length)), (3, .int (nI go)), (4, .int (nI (ad + xs.length)))] [] (q_wI h 21 stk') Q) → (∀ stk' : Nat → Int32, q_ev (q_I h 20) xs st = none → Q (some (.int (nI 0))) (q_wI h 21 stk')) → q_Ex l g 1 mX3_worth 7 [(0, .ref 10), (2, .int (nI st.length)), (3, .int (nI go)), (4, .int (nI ad))] [] (q_wI h 21 stk) Q
  | [], st, stk, ad, hc, hw, hl, hst, hg, hn3, K1, K0 => K1 stk st rfl hw hst
  | (0, v) :: r, st, stk, ad, hc, hw, hl, hst, hg, hn3, K1, K0 => by
    have hn4 : ad + (r.length + 1) < n := hn3
    refine w_push10 hs hn hn2 (by omega) hg (by omega) (by omega) hc.1 hc.2.1 ?_
    refine w_seg10 hs hn hn2 r (v :: st) _ (ad + 1) hc.2.2 hw.2 (by have := hw.1; show st.length + 1 ≤ 31; omega) (q_st_push hst) (by omega) (by omega) (fun s1 t1 q1 q2 q3 => ?_) (fun s1 q1 => K0 s1 q1)
    rw [show ad + 1 + r.length = ad + (r.length + 1) by omega]
    exact K1 s1 t1 q1 q2 q3
  | (1, v) :: r, st, stk, ad, hc, hw, hl, hst, hg, hn3, K1, K0 => by
    have hn4 : ad + (r.length + 1) < n := hn3
    obtain ⟨i, hi, rfl⟩ := hw.2.1
    refine w_get10 hs hn hn2 (by omega) hg (by omega) (by omega) hc.1 hi hc.2.1 ?_
    have ei : (nI i).toNatClampNeg = i := nI_clamp (by omega)
    refine w_seg10 hs hn hn2 r (q_I h 20 i :: st) _ (ad + 1) hc.2.2 hw.2.2 (by have := hw.1; show st.length + 1 ≤ 31; omega) (q_st_push hst) (by omega) (by omega) (fun s1 t1 q1 q2 q3 => ?_) (fun s1 q1 => K0 s1 (by unfold q_ev; rw [ei]; exact q1))
    rw [show ad + 1 + r.length = ad + (r.length + 1) by omega]
    exact K1 s1 t1 (by unfold q_ev; rw [ei]; exact q1) q2 q3
  | (k + 2, v) :: r, st, stk, ad, hc, hw, hl, hst, hg, hn3, K1, K0 => by
    have hn4 : ad + (r.length + 1) < n := hn3
    obtain ⟨z, x, st, rfl⟩ := q_two_of (show 2 ≤ st.length by have := hw.2.1; omega)
    have hA : stk ((z :: x :: st).length - 2) = x := hst.2.1
    have hB : stk ((z :: x :: st).length - 1) = z := hst.1
    have hw2 : q_wfb 31 b r (st.length + 1) := hw.2.2
    have hl2 : st.length + 2 ≤ 31 := hl
    have hlen : (z :: x :: st).length = st.length + 2 := rfl
    have e : q_ev (q_I h 20) ((k + 2, v) :: r) (z :: x :: st) = if k + 2 = 5 ∧ z = 0 then none else q_ev (q_I h 20) r (q_ar (k + 2) x z :: st) := rfl
    have hk := hw.1
    have fin : ∀ u, q_ar (k + 2) x z = u → ¬ (k + 2 = 5 ∧ z = 0) → q_Ex l g 1 mX3_worth 7 [(0, .ref 10), (2, .int (nI ((z :: x :: st).length - 1))), (3, .int (nI go)), (4, .int (nI (ad + 1)))] [] (q_wI h 21 (upd stk ((z :: x :: st).length - 2) u)) Q := fun u hu hno => by
      rw [if_neg hno, hu] at e
      refine w_seg10 hs hn hn2 r (u :: st) _ (ad + 1) hc.2.2 hw2 (by show st.length + 1 ≤ 31; omega) (q_st_push hst.2.2) (by omega) (by omega) (fun s1 t1 q1 q2 q3 => ?_) (fun s1 q1 => K0 s1 (by rw [e]; exact q1))
      rw [show ad + 1 + r.length = ad + (r.length + 1) by omega]
      exact K1 s1 t1 (by rw [e]; exact q1) q2 q3
    rcases (show k = 0 ∨ k = 1 ∨ k = 2 ∨ k = 3 by omega) with rfl | rfl | rfl | rfl
    · exact w_add10 hs hn hn2 (by omega) hg (by omega) (by omega) hc.1 hA hB (fin _ rfl (by omega))
    · exact w_sub10 hs hn hn2 (by omega) hg (by omega) (by omega) hc.1 hA hB (fin _ rfl (by omega))
    · exact w_mul10 hs hn hn2 (by omega) hg (by omega) (by omega) hc.1 hA hB (fin _ rfl (by omega))
    · by_cases hz : z = 0
      · exact w_div010 hs hn hn2 (by omega) hg (by omega) (by omega) hc.1 hA hB hz (K0 stk (by rw [e, if_pos ⟨rfl, hz⟩]))
      · exact w_div10 hs hn hn2 (by omega) hg (by omega) (by omega) hc.1 hA hB hz (fin _ rfl (fun q => hz q.2))
theorem q_wf3010 {xs : List (Nat × Int32)} (h : q_wf 30 xs 0) : q_wfb 31 0 xs 0 := q_wfb_of (b := 0) xs 0 (q_wf_up (by decide) xs 0 h)
theorem w_law10 {l : Launch} {g : q_GP} {h : q_H} (hs : q_Stat h) {Q : Option Value → q_H → Prop} {n : Nat} (hn : q_I h 10 2 = nI n) (hn2 : n ≤ 416) (e : List (Nat × Int32)) : ∀ (r : List (List (Nat × Int32) × List (Nat × Int32) × List (Nat × Int32))) (ad go : Nat) (stk : Nat → Int32), q_cd (q_I h 11) (q_I h 12) n ad r e → go ≤ ad → (∀ stk', Q (some (.int ((q_law (q_I h 20) r e).getD (nI 0)))) (q_wI h 21 stk')) → q_Ex l g 1 mX3_worth 7 [(0, .ref 10), (2, .int (nI 0)), (3, .int (nI go)), (4, .int (nI ad))] [] (q_wI h 21 stk) Q
  | [], ad, go, stk, hc, hg, K => by
    obtain ⟨c1, c2, c3, c4⟩ := hc
    refine w_seg10 hs hn hn2 (b := 0) e [] stk ad c1 (q_wf3010 c2) (by decide) trivial hg c4 (fun s1 t1 q1 q2 q3 => ?_) (fun s1 q1 => ?_)
    · obtain ⟨v, rfl⟩ := List.length_eq_one_iff.mp q2
      refine w_end10 hs hn hn2 (by omega) (by omega) (by show 1 ≤ 32; decide) (Nat.le_refl _) c3 q3.1 ?_
      have := K s1
      unfold q_law q_val at this
      rw [q1] at this
      exact this
    · have := K s1
      unfold q_law q_val at this
      rw [q1] at this
      exact this
  | (x, y, z) :: r, ad, go, stk, hc, hg, K => by
    obtain ⟨c1, c2, c3, c4, c5, c6, c7, c8, c9, c10, c11⟩ := hc
    have hq : ∀ o, (q_law (q_I h 20) ((x, y, z) :: r) e) = o → ∀ stk', Q (some (.int (o.getD (nI 0)))) (q_wI h 21 stk') := fun o ho s => ho ▸ K s
    refine w_seg10 hs hn hn2 (b := 0) x [] stk ad c1 (q_wf3010 c2) (by decide) trivial hg (by omega) (fun s1 t1 q1 q2 q3 => ?_) (fun s1 q1 => ?_)
    · obtain ⟨u, rfl⟩ := List.length_eq_one_iff.mp q2
      have e1 : q_val (q_I h 20) x = some u := by unfold q_val; rw [q1]
      have q_y : q_ev (q_I h 20) y [u] = (q_ev (q_I h 20) y []).map (· ++ [u]) := q_ev_b (st := []) y [u] c4
      refine w_seg10 hs hn hn2 (b := 1) y [u] s1 (ad + x.length) c3 (q_wfb_of (b := 1) y 0 c4) (by show 1 ≤ 31; decide) q3 (by omega) (by omega) (fun s2 t2 q4 q5 q6 => ?_) (fun s2 q4 => ?_)
      · rw [q_y] at q4
        rcases q_ev_wf (V := q_I h 20) y [] c4 with e2 | ⟨w, e2⟩
        · rw [e2] at q4
          cases q4
        · rw [e2] at q4
          obtain rfl : t2 = [w, u] := (Option.some.inj q4).symm
          have e3 : q_val (q_I h 20) y = some w := by unfold q_val; rw [e2]
          have hB : s2 1 = w := q6.1
          have hA : s2 0 = u := q6.2.1
          by_cases huw : u < w
          · refine w_lt10 hs hn hn2 (top := 2) (by omega) (by omega) (by decide) (Nat.le_refl _) c5 hA hB huw ?_
            refine w_seg10 hs hn hn2 (b := 0) z [] s2 (ad + x.length + y.length + 1) c7 (q_wf3010 c8) (by decide) trivial (by omega) (by omega) (fun s3 t3 q7 q8 q9 => ?_) (fun s3 q7 => ?_)
            · obtain ⟨v, rfl⟩ := List.length_eq_one_iff.mp q8
              refine w_end10 hs hn hn2 (by omega) (by omega) (by show 1 ≤ 32; decide) (Nat.le_refl _) c9 q9.1 ?_
              exact hq (some v) (by unfold q_law; rw [e1, e3]; show (if u < w then _ else _) = _; rw [if_pos huw]; unfold q_val; rw [q7]) s3
            · exact hq none (by unfold q_law; rw [e1, e3]; show (if u < w then _ else _) = _; rw [if_pos huw]; unfold q_val; rw [q7]) s3
          · refine w_ge10 hs hn hn2 (top := 2) (by omega) (by omega) (by decide) (Nat.le_refl _) c5 hA hB huw c6 ?_
            refine w_skips10 hs hn hn2 (by omega) ?_ (z.length + 1) _ (by omega)
            refine w_law10 hs hn hn2 e r _ _ s2 c11 (Nat.le_refl _) (fun s4 => ?_)
            refine hq ((q_law (q_I h 20) r e)) ?_ s4
            show (match q_val _ x, q_val _ y with | some u, some w => if u < w then q_val _ z else q_law _ r e | _, _ => none) = _
            rw [e1, e3]
            exact if_neg huw
      · refine hq none ?_ s2
        rw [q_y] at q4
        rcases q_ev_wf (V := q_I h 20) y [] c4 with e2 | ⟨w, e2⟩
        · unfold q_law
          rw [e1, show q_val (q_I h 20) y = none by unfold q_val; rw [e2]]
        · rw [e2] at q4
          cases q4
    · exact hq none (by unfold q_law q_val; rw [q1]) s1
theorem w_push22 {l : Launch} {g : q_GP} {h : q_H} (hs : q_Stat h) {Q : Option Value → q_H → Prop} {n : Nat} (hn : q_I h 22 2 = nI n) (hn2 : n ≤ 416) {top go ad : Nat} {stk : Nat → Int32} (ha : ad < n) (hg : go ≤ ad) (ht : top ≤ 32) (ht2 : top < 32) (hS : q_I h 23 ad = nI 0) {v : Int32} (hW : q_I h 24 ad = v) (K : q_Ex l g 1 mX3_worth 7 [(0, .ref 22), (2, .int (nI (top + 1))), (3, .int (nI go)), (4, .int (nI (ad + 1)))] [] (q_wI h 33 (upd stk top v)) Q) : q_Ex l g 1 mX3_worth 7 [(0, .ref 22), (2, .int (nI top)), (3, .int (nI go)), (4, .int (nI ad))] [] (q_wI h 33 stk) Q := by
  refine xe_iload dX3_worth_7 rfl ?_
  refine xe_aload_n dX3_worth_9 rfl ?_
  refine xe_getIv dX3_worth_10 flX3_47 (st22 hs) (by decide) rfl (v := nI n) (hn) ?_
  refine xn_icmp_ge (tgt := 212) dX3_worth_13 rfl (by omega) (by omega) (fun c1 => ?_) (fun c1 => ?_)
  · omega
  · refine xe_iload dX3_worth_16 rfl ?_
    refine xe_iload_n dX3_worth_18 rfl ?_
    refine xn_icmp_ge (tgt := 25) dX3_worth_19 rfl (by omega) (by omega) (fun c2 => ?_) (fun c2 => ?_)
    · refine xe_aload_n dX3_worth_25 rfl ?_
      refine xe_getP dX3_worth_26 flX3_13 (st22 hs) (by decide) rfl (sp22_0 hs) ?_
      refine xe_iload dX3_worth_29 rfl ?_
      refine xn_ialdv dX3_worth_31 (st23 hs) (by omega) (by decide) (v := nI 0) (hS) ?_
      refine xe_istore dX3_worth_32 (by decide) rfl ?_
      refine xe_iload dX3_worth_34 rfl ?_
      refine xn_if_eq (tgt := 45) dX3_worth_36 rfl (by omega) (fun c3 => ?_) (fun c3 => ?_)
      · refine xe_iload_n dX3_worth_45 rfl ?_
        refine xe_aload_n dX3_worth_46 rfl ?_
        refine xe_getP dX3_worth_47 flX3_44 (st22 hs) (by decide) rfl (sp22_15 hs) ?_
        refine xe_alen dX3_worth_50 (st33 hs) (by decide) ⟨0, _, rfl⟩ (v := nI 32) rfl ?_
        refine xn_icmp_lt (tgt := 56) dX3_worth_51 rfl (by omega) (by omega) (fun c4 => ?_) (fun c4 => ?_)
        · refine xe_aload_n dX3_worth_56 rfl ?_
          refine xe_getP dX3_worth_57 flX3_44 (st22 hs) (by decide) rfl (sp22_15 hs) ?_
          refine xe_iload_n dX3_worth_60 rfl ?_
          refine xe_iload dX3_worth_61 rfl ?_
          refine xn_if_ne (tgt := 76) dX3_worth_63 rfl (by omega) (fun c5 => ?_) (fun c5 => ?_)
          · omega
          · refine xe_aload_n dX3_worth_66 rfl ?_
            refine xe_getP dX3_worth_67 flX3_17 (st22 hs) (by decide) rfl (sp22_1 hs) ?_
            refine xe_iload dX3_worth_70 rfl ?_
            refine xn_ialdv dX3_worth_72 (st24 hs) (by omega) (by decide) (v := v) (hW) ?_
            refine xe_goto (tgt := 88) dX3_worth_73 rfl ?_
            refine xn_iast dX3_worth_88 (st33 hs) (by omega) (by decide) ?_
            refine xn_iinc dX3_worth_89 rfl kc_1 ?_
            refine xe_goto (tgt := 206) dX3_worth_92 rfl ?_
            refine xn_iinc dX3_worth_206 rfl kc_1 ?_
            refine xe_goto (tgt := 7) dX3_worth_209 rfl ?_
            exact xe_fin K (And.intro rfl (And.intro rfl (And.intro rfl (And.intro rfl trivial)))) (q_heq [33] (H := h) (by repeat (first | exact q_out_r | refine q_out_w rfl ?_)) (by repeat (first | exact q_out_r | refine q_out_w rfl ?_)) (And.intro rfl trivial))
        · omega
      · omega
    · omega
theorem w_get22 {l : Launch} {g : q_GP} {h : q_H} (hs : q_Stat h) {Q : Option Value → q_H → Prop} {n : Nat} (hn : q_I h 22 2 = nI n) (hn2 : n ≤ 416) {top go ad : Nat} {stk : Nat → Int32} (ha : ad < n) (hg : go ≤ ad) (ht : top ≤ 32) (ht2 : top < 32) (hS : q_I h 23 ad = nI 1) {j : Nat} (hj : j < 6) (hW : q_I h 24 ad = nI j) (K : q_Ex l g 1 mX3_worth 7 [(0, .ref 22), (2, .int (nI (top + 1))), (3, .int (nI go)), (4, .int (nI (ad + 1)))] [] (q_wI h 33 (upd stk top (q_I h 32 j))) Q) : q_Ex l g 1 mX3_worth 7 [(0, .ref 22), (2, .int (nI top)), (3, .int (nI go)), (4, .int (nI ad))] [] (q_wI h 33 stk) Q := by
  refine xe_iload dX3_worth_7 rfl ?_
  refine xe_aload_n dX3_worth_9 rfl ?_
  refine xe_getIv dX3_worth_10 flX3_47 (st22 hs) (by decide) rfl (v := nI n) (hn) ?_
  refine xn_icmp_ge (tgt := 212) dX3_worth_13 rfl (by omega) (by omega) (fun c1 => ?_) (fun c1 => ?_)
  · omega
  · refine xe_iload dX3_worth_16 rfl ?_
    refine xe_iload_n dX3_worth_18 rfl ?_
    refine xn_icmp_ge (tgt := 25) dX3_worth_19 rfl (by omega) (by omega) (fun c2 => ?_) (fun c2 => ?_)
    · refine xe_aload_n dX3_worth_25 rfl ?_
      refine xe_getP dX3_worth_26 flX3_13 (st22 hs) (by decide) rfl (sp22_0 hs) ?_
      refine xe_iload dX3_worth_29 rfl ?_
      refine xn_ialdv dX3_worth_31 (st23 hs) (by omega) (by decide) (v := nI 1) (hS) ?_
      refine xe_istore dX3_worth_32 (by decide) rfl ?_
      refine xe_iload dX3_worth_34 rfl ?_
      refine xn_if_eq (tgt := 45) dX3_worth_36 rfl (by omega) (fun c3 => ?_) (fun c3 => ?_)
      · omega
      · refine xe_iload dX3_worth_39 rfl ?_
        refine xe_iconst dX3_worth_41 kc_1 ?_
        refine xn_icmp_ne (tgt := 95) dX3_worth_42 rfl (by omega) (by omega) (fun c4 => ?_) (fun c4 => ?_)
        · omega
        · refine xe_iload_n dX3_worth_45 rfl ?_
          refine xe_aload_n dX3_worth_46 rfl ?_
          refine xe_getP dX3_worth_47 flX3_44 (st22 hs) (by decide) rfl (sp22_15 hs) ?_
          refine xe_alen dX3_worth_50 (st33 hs) (by decide) ⟨0, _, rfl⟩ (v := nI 32) rfl ?_
          refine xn_icmp_lt (tgt := 56) dX3_worth_51 rfl (by omega) (by omega) (fun c5 => ?_) (fun c5 => ?_)
          · refine xe_aload_n dX3_worth_56 rfl ?_
            refine xe_getP dX3_worth_57 flX3_44 (st22 hs) (by decide) rfl (sp22_15 hs) ?_
            refine xe_iload_n dX3_worth_60 rfl ?_
            refine xe_iload dX3_worth_61 rfl ?_
            refine xn_if_ne (tgt := 76) dX3_worth_63 rfl (by omega) (fun c6 => ?_) (fun c6 => ?_)
            · refine xe_aload_n dX3_worth_76 rfl ?_
              refine xe_getP dX3_worth_77 flX3_41 (st22 hs) (by decide) rfl (sp22_14 hs) ?_
              refine xe_aload_n dX3_worth_80 rfl ?_
              refine xe_getP dX3_worth_81 flX3_17 (st22 hs) (by decide) rfl (sp22_1 hs) ?_
              refine xe_iload dX3_worth_84 rfl ?_
              refine xn_ialdv dX3_worth_86 (st24 hs) (by omega) (by decide) (v := nI j) (hW) ?_
              refine xn_ialdv dX3_worth_87 (st32 hs) (by omega) (by decide) (v := ((q_I h 32) j)) (rfl) ?_
              refine xn_iast dX3_worth_88 (st33 hs) (by omega) (by decide) ?_
              refine xn_iinc dX3_worth_89 rfl kc_1 ?_
              refine xe_goto (tgt := 206) dX3_worth_92 rfl ?_
              refine xn_iinc dX3_worth_206 rfl kc_1 ?_
              refine xe_goto (tgt := 7) dX3_worth_209 rfl ?_
              exact xe_fin K (And.intro rfl (And.intro rfl (And.intro rfl (And.intro rfl trivial)))) (q_heq [33] (H := h) (by repeat (first | exact q_out_r | refine q_out_w rfl ?_)) (by repeat (first | exact q_out_r | refine q_out_w rfl ?_)) (And.intro rfl trivial))
            · omega
          · omega
    · omega
theorem w_add22 {l : Launch} {g : q_GP} {h : q_H} (hs : q_Stat h) {Q : Option Value → q_H → Prop} {n : Nat} (hn : q_I h 22 2 = nI n) (hn2 : n ≤ 416) {top go ad : Nat} {stk : Nat → Int32} (ha : ad < n) (hg : go ≤ ad) (ht : top ≤ 32) (h2 : 2 ≤ top) (hS : q_I h 23 ad = nI 43) {a b : Int32} (hA : stk (top - 2) = a) (hB : stk (top - 1) = b) (K : q_Ex l g 1 mX3_worth 7 [(0, .ref 22), (2, .int (nI (top - 1))), (3, .int (nI go)), (4, .int (nI (ad + 1)))] [] (q_wI h 33 (upd stk (top - 2) (a + b))) Q) : q_Ex l g 1 mX3_worth 7 [(0, .ref 22), (2, .int (nI top)), (3, .int (nI go)), (4, .int (nI ad))] [] (q_wI h 33 stk) Q := by
  refine xe_iload dX3_worth_7 rfl ?_
  refine xe_aload_n dX3_worth_9 rfl ?_
  refine xe_getIv dX3_worth_10 flX3_47 (st22 hs) (by decide) rfl (v := nI n) (hn) ?_
  refine xn_icmp_ge (tgt := 212) dX3_worth_13 rfl (by omega) (by omega) (fun c1 => ?_) (fun c1 => ?_)
  · omega
  · refine xe_iload dX3_worth_16 rfl ?_
    refine xe_iload_n dX3_worth_18 rfl ?_
    refine xn_icmp_ge (tgt := 25) dX3_worth_19 rfl (by omega) (by omega) (fun c2 => ?_) (fun c2 => ?_)
    · refine xe_aload_n dX3_worth_25 rfl ?_
      refine xe_getP dX3_worth_26 flX3_13 (st22 hs) (by decide) rfl (sp22_0 hs) ?_
      refine xe_iload dX3_worth_29 rfl ?_
      refine xn_ialdv dX3_worth_31 (st23 hs) (by omega) (by decide) (v := nI 43) (hS) ?_
      refine xe_istore dX3_worth_32 (by decide) rfl ?_
      refine xe_iload dX3_worth_34 rfl ?_
      refine xn_if_eq (tgt := 45) dX3_worth_36 rfl (by omega) (fun c3 => ?_) (fun c3 => ?_)
      · omega
      · refine xe_iload dX3_worth_39 rfl ?_
        refine xe_iconst dX3_worth_41 kc_1 ?_
        refine xn_icmp_ne (tgt := 95) dX3_worth_42 rfl (by omega) (by omega) (fun c4 => ?_) (fun c4 => ?_)
        · refine xe_iload dX3_worth_95 rfl ?_
          refine xe_iconst dX3_worth_97 kc_2 ?_
          refine xn_icmp_ne (tgt := 118) dX3_worth_98 rfl (by omega) (by omega) (fun c5 => ?_) (fun c5 => ?_)
          · refine xe_iload_n dX3_worth_118 rfl ?_
            refine xe_iconst dX3_worth_119 kc_2 ?_
            refine xn_icmp_ge (tgt := 125) dX3_worth_120 rfl (by omega) (by omega) (fun c6 => ?_) (fun c6 => ?_)
            · refine xe_iinc dX3_worth_125 rfl (v := nI (top - 2)) (q_iincm (by omega) (by decide +kernel)) ?_
              refine xe_aload_n dX3_worth_128 rfl ?_
              refine xe_getP dX3_worth_129 flX3_44 (st22 hs) (by decide) rfl (sp22_15 hs) ?_
              refine xe_iload_n dX3_worth_132 rfl ?_
              refine xn_ialdv dX3_worth_133 (st33 hs) (by omega) (by decide) (v := a) (hA) ?_
              refine xe_istore dX3_worth_134 (by decide) rfl ?_
              refine xe_aload_n dX3_worth_136 rfl ?_
              refine xe_getP dX3_worth_137 flX3_44 (st22 hs) (by decide) rfl (sp22_15 hs) ?_
              refine xe_iload_n dX3_worth_140 rfl ?_
              refine xe_iconst dX3_worth_141 kc_1 ?_
              refine xn_iadd dX3_worth_142 ?_
              refine xn_ialdv dX3_worth_143 (st33 hs) (by omega) (by decide) (v := b) ((by rw [show top - 2 + 1 = top - 1 by omega]; exact hB)) ?_
              refine xe_istore dX3_worth_144 (by decide) rfl ?_
              refine xe_iload dX3_worth_146 rfl ?_
              refine xe_iconst dX3_worth_148 kc_3 ?_
              refine xn_icmp_ne (tgt := 174) dX3_worth_149 rfl (by omega) (by omega) (fun c7 => ?_) (fun c7 => ?_)
              · refine xe_iload dX3_worth_174 rfl ?_
                refine xe_bipush dX3_worth_176 kb_47 ?_
                refine xn_icmp_ne (tgt := 188) dX3_worth_178 rfl (by omega) (by omega) (fun c8 => ?_) (fun c8 => ?_)
                · refine xe_aload_n dX3_worth_188 rfl ?_
                  refine xe_getP dX3_worth_189 flX3_44 (st22 hs) (by decide) rfl (sp22_15 hs) ?_
                  refine xe_iload_n dX3_worth_192 rfl ?_
                  refine xe_iload dX3_worth_193 rfl ?_
                  refine xe_iload dX3_worth_195 rfl ?_
                  refine xe_iload dX3_worth_197 rfl ?_
                  refine xe_callSI (d' := 0) (y' := mX3_reckon) dX3_worth_199 mlX3_67 msX3_reckon rfl (by decide) (by decide) (Nat.le_of_ble_eq_true rfl) (c_X3_reckon_add l g _ _ _) rfl ?_
                  refine xn_iast dX3_worth_202 (st33 hs) (by omega) (by decide) ?_
                  refine xe_iinc dX3_worth_203 rfl (v := nI (top - 1)) (q_inc2 h2) ?_
                  refine xn_iinc dX3_worth_206 rfl kc_1 ?_
                  refine xe_goto (tgt := 7) dX3_worth_209 rfl ?_
                  exact xe_fin K (And.intro rfl (And.intro rfl (And.intro rfl (And.intro rfl trivial)))) (q_heq [33] (H := h) (by repeat (first | exact q_out_r | refine q_out_w rfl ?_)) (by repeat (first | exact q_out_r | refine q_out_w rfl ?_)) (And.intro rfl trivial))
                · omega
              · omega
            · omega
          · omega
        · omega
    · omega
theorem w_sub22 {l : Launch} {g : q_GP} {h : q_H} (hs : q_Stat h) {Q : Option Value → q_H → Prop} {n : Nat} (hn : q_I h 22 2 = nI n) (hn2 : n ≤ 416) {top go ad : Nat} {stk : Nat → Int32} (ha : ad < n) (hg : go ≤ ad) (ht : top ≤ 32) (h2 : 2 ≤ top) (hS : q_I h 23 ad = nI 45) {a b : Int32} (hA : stk (top - 2) = a) (hB : stk (top - 1) = b) (K : q_Ex l g 1 mX3_worth 7 [(0, .ref 22), (2, .int (nI (top - 1))), (3, .int (nI go)), (4, .int (nI (ad + 1)))] [] (q_wI h 33 (upd stk (top - 2) (a - b))) Q) : q_Ex l g 1 mX3_worth 7 [(0, .ref 22), (2, .int (nI top)), (3, .int (nI go)), (4, .int (nI ad))] [] (q_wI h 33 stk) Q := by
  refine xe_iload dX3_worth_7 rfl ?_
  refine xe_aload_n dX3_worth_9 rfl ?_
  refine xe_getIv dX3_worth_10 flX3_47 (st22 hs) (by decide) rfl (v := nI n) (hn) ?_
  refine xn_icmp_ge (tgt := 212) dX3_worth_13 rfl (by omega) (by omega) (fun c1 => ?_) (fun c1 => ?_)
  · omega
  · refine xe_iload dX3_worth_16 rfl ?_
    refine xe_iload_n dX3_worth_18 rfl ?_
    refine xn_icmp_ge (tgt := 25) dX3_worth_19 rfl (by omega) (by omega) (fun c2 => ?_) (fun c2 => ?_)
    · refine xe_aload_n dX3_worth_25 rfl ?_
      refine xe_getP dX3_worth_26 flX3_13 (st22 hs) (by decide) rfl (sp22_0 hs) ?_
      refine xe_iload dX3_worth_29 rfl ?_
      refine xn_ialdv dX3_worth_31 (st23 hs) (by omega) (by decide) (v := nI 45) (hS) ?_
      refine xe_istore dX3_worth_32 (by decide) rfl ?_
      refine xe_iload dX3_worth_34 rfl ?_
      refine xn_if_eq (tgt := 45) dX3_worth_36 rfl (by omega) (fun c3 => ?_) (fun c3 => ?_)
      · omega
      · refine xe_iload dX3_worth_39 rfl ?_
        refine xe_iconst dX3_worth_41 kc_1 ?_
        refine xn_icmp_ne (tgt := 95) dX3_worth_42 rfl (by omega) (by omega) (fun c4 => ?_) (fun c4 => ?_)
        · refine xe_iload dX3_worth_95 rfl ?_
          refine xe_iconst dX3_worth_97 kc_2 ?_
          refine xn_icmp_ne (tgt := 118) dX3_worth_98 rfl (by omega) (by omega) (fun c5 => ?_) (fun c5 => ?_)
          · refine xe_iload_n dX3_worth_118 rfl ?_
            refine xe_iconst dX3_worth_119 kc_2 ?_
            refine xn_icmp_ge (tgt := 125) dX3_worth_120 rfl (by omega) (by omega) (fun c6 => ?_) (fun c6 => ?_)
            · refine xe_iinc dX3_worth_125 rfl (v := nI (top - 2)) (q_iincm (by omega) (by decide +kernel)) ?_
              refine xe_aload_n dX3_worth_128 rfl ?_
              refine xe_getP dX3_worth_129 flX3_44 (st22 hs) (by decide) rfl (sp22_15 hs) ?_
              refine xe_iload_n dX3_worth_132 rfl ?_
              refine xn_ialdv dX3_worth_133 (st33 hs) (by omega) (by decide) (v := a) (hA) ?_
              refine xe_istore dX3_worth_134 (by decide) rfl ?_
              refine xe_aload_n dX3_worth_136 rfl ?_
              refine xe_getP dX3_worth_137 flX3_44 (st22 hs) (by decide) rfl (sp22_15 hs) ?_
              refine xe_iload_n dX3_worth_140 rfl ?_
              refine xe_iconst dX3_worth_141 kc_1 ?_
              refine xn_iadd dX3_worth_142 ?_
              refine xn_ialdv dX3_worth_143 (st33 hs) (by omega) (by decide) (v := b) ((by rw [show top - 2 + 1 = top - 1 by omega]; exact hB)) ?_
              refine xe_istore dX3_worth_144 (by decide) rfl ?_
              refine xe_iload dX3_worth_146 rfl ?_
              refine xe_iconst dX3_worth_148 kc_3 ?_
              refine xn_icmp_ne (tgt := 174) dX3_worth_149 rfl (by omega) (by omega) (fun c7 => ?_) (fun c7 => ?_)
              · refine xe_iload dX3_worth_174 rfl ?_
                refine xe_bipush dX3_worth_176 kb_47 ?_
                refine xn_icmp_ne (tgt := 188) dX3_worth_178 rfl (by omega) (by omega) (fun c8 => ?_) (fun c8 => ?_)
                · refine xe_aload_n dX3_worth_188 rfl ?_
                  refine xe_getP dX3_worth_189 flX3_44 (st22 hs) (by decide) rfl (sp22_15 hs) ?_
                  refine xe_iload_n dX3_worth_192 rfl ?_
                  refine xe_iload dX3_worth_193 rfl ?_
                  refine xe_iload dX3_worth_195 rfl ?_
                  refine xe_iload dX3_worth_197 rfl ?_
                  refine xe_callSI (d' := 0) (y' := mX3_reckon) dX3_worth_199 mlX3_67 msX3_reckon rfl (by decide) (by decide) (Nat.le_of_ble_eq_true rfl) (c_X3_reckon_sub l g _ _ _) rfl ?_
                  refine xn_iast dX3_worth_202 (st33 hs) (by omega) (by decide) ?_
                  refine xe_iinc dX3_worth_203 rfl (v := nI (top - 1)) (q_inc2 h2) ?_
                  refine xn_iinc dX3_worth_206 rfl kc_1 ?_
                  refine xe_goto (tgt := 7) dX3_worth_209 rfl ?_
                  exact xe_fin K (And.intro rfl (And.intro rfl (And.intro rfl (And.intro rfl trivial)))) (q_heq [33] (H := h) (by repeat (first | exact q_out_r | refine q_out_w rfl ?_)) (by repeat (first | exact q_out_r | refine q_out_w rfl ?_)) (And.intro rfl trivial))
                · omega
              · omega
            · omega
          · omega
        · omega
    · omega
theorem w_mul22 {l : Launch} {g : q_GP} {h : q_H} (hs : q_Stat h) {Q : Option Value → q_H → Prop} {n : Nat} (hn : q_I h 22 2 = nI n) (hn2 : n ≤ 416) {top go ad : Nat} {stk : Nat → Int32} (ha : ad < n) (hg : go ≤ ad) (ht : top ≤ 32) (h2 : 2 ≤ top) (hS : q_I h 23 ad = nI 42) {a b : Int32} (hA : stk (top - 2) = a) (hB : stk (top - 1) = b) (K : q_Ex l g 1 mX3_worth 7 [(0, .ref 22), (2, .int (nI (top - 1))), (3, .int (nI go)), (4, .int (nI (ad + 1)))] [] (q_wI h 33 (upd stk (top - 2) (a * b))) Q) : q_Ex l g 1 mX3_worth 7 [(0, .ref 22), (2, .int (nI top)), (3, .int (nI go)), (4, .int (nI ad))] [] (q_wI h 33 stk) Q := by
  refine xe_iload dX3_worth_7 rfl ?_
  refine xe_aload_n dX3_worth_9 rfl ?_
  refine xe_getIv dX3_worth_10 flX3_47 (st22 hs) (by decide) rfl (v := nI n) (hn) ?_
  refine xn_icmp_ge (tgt := 212) dX3_worth_13 rfl (by omega) (by omega) (fun c1 => ?_) (fun c1 => ?_)
  · omega
  · refine xe_iload dX3_worth_16 rfl ?_
    refine xe_iload_n dX3_worth_18 rfl ?_
    refine xn_icmp_ge (tgt := 25) dX3_worth_19 rfl (by omega) (by omega) (fun c2 => ?_) (fun c2 => ?_)
    · refine xe_aload_n dX3_worth_25 rfl ?_
      refine xe_getP dX3_worth_26 flX3_13 (st22 hs) (by decide) rfl (sp22_0 hs) ?_
      refine xe_iload dX3_worth_29 rfl ?_
      refine xn_ialdv dX3_worth_31 (st23 hs) (by omega) (by decide) (v := nI 42) (hS) ?_
      refine xe_istore dX3_worth_32 (by decide) rfl ?_
      refine xe_iload dX3_worth_34 rfl ?_
      refine xn_if_eq (tgt := 45) dX3_worth_36 rfl (by omega) (fun c3 => ?_) (fun c3 => ?_)
      · omega
      · refine xe_iload dX3_worth_39 rfl ?_
        refine xe_iconst dX3_worth_41 kc_1 ?_
        refine xn_icmp_ne (tgt := 95) dX3_worth_42 rfl (by omega) (by omega) (fun c4 => ?_) (fun c4 => ?_)
        · refine xe_iload dX3_worth_95 rfl ?_
          refine xe_iconst dX3_worth_97 kc_2 ?_
          refine xn_icmp_ne (tgt := 118) dX3_worth_98 rfl (by omega) (by omega) (fun c5 => ?_) (fun c5 => ?_)
          · refine xe_iload_n dX3_worth_118 rfl ?_
            refine xe_iconst dX3_worth_119 kc_2 ?_
            refine xn_icmp_ge (tgt := 125) dX3_worth_120 rfl (by omega) (by omega) (fun c6 => ?_) (fun c6 => ?_)
            · refine xe_iinc dX3_worth_125 rfl (v := nI (top - 2)) (q_iincm (by omega) (by decide +kernel)) ?_
              refine xe_aload_n dX3_worth_128 rfl ?_
              refine xe_getP dX3_worth_129 flX3_44 (st22 hs) (by decide) rfl (sp22_15 hs) ?_
              refine xe_iload_n dX3_worth_132 rfl ?_
              refine xn_ialdv dX3_worth_133 (st33 hs) (by omega) (by decide) (v := a) (hA) ?_
              refine xe_istore dX3_worth_134 (by decide) rfl ?_
              refine xe_aload_n dX3_worth_136 rfl ?_
              refine xe_getP dX3_worth_137 flX3_44 (st22 hs) (by decide) rfl (sp22_15 hs) ?_
              refine xe_iload_n dX3_worth_140 rfl ?_
              refine xe_iconst dX3_worth_141 kc_1 ?_
              refine xn_iadd dX3_worth_142 ?_
              refine xn_ialdv dX3_worth_143 (st33 hs) (by omega) (by decide) (v := b) ((by rw [show top - 2 + 1 = top - 1 by omega]; exact hB)) ?_
              refine xe_istore dX3_worth_144 (by decide) rfl ?_
              refine xe_iload dX3_worth_146 rfl ?_
              refine xe_iconst dX3_worth_148 kc_3 ?_
              refine xn_icmp_ne (tgt := 174) dX3_worth_149 rfl (by omega) (by omega) (fun c7 => ?_) (fun c7 => ?_)
              · refine xe_iload dX3_worth_174 rfl ?_
                refine xe_bipush dX3_worth_176 kb_47 ?_
                refine xn_icmp_ne (tgt := 188) dX3_worth_178 rfl (by omega) (by omega) (fun c8 => ?_) (fun c8 => ?_)
                · refine xe_aload_n dX3_worth_188 rfl ?_
                  refine xe_getP dX3_worth_189 flX3_44 (st22 hs) (by decide) rfl (sp22_15 hs) ?_
                  refine xe_iload_n dX3_worth_192 rfl ?_
                  refine xe_iload dX3_worth_193 rfl ?_
                  refine xe_iload dX3_worth_195 rfl ?_
                  refine xe_iload dX3_worth_197 rfl ?_
                  refine xe_callSI (d' := 0) (y' := mX3_reckon) dX3_worth_199 mlX3_67 msX3_reckon rfl (by decide) (by decide) (Nat.le_of_ble_eq_true rfl) (c_X3_reckon_mul l g _ _ _) rfl ?_
                  refine xn_iast dX3_worth_202 (st33 hs) (by omega) (by decide) ?_
                  refine xe_iinc dX3_worth_203 rfl (v := nI (top - 1)) (q_inc2 h2) ?_
                  refine xn_iinc dX3_worth_206 rfl kc_1 ?_
                  refine xe_goto (tgt := 7) dX3_worth_209 rfl ?_
                  exact xe_fin K (And.intro rfl (And.intro rfl (And.intro rfl (And.intro rfl trivial)))) (q_heq [33] (H := h) (by repeat (first | exact q_out_r | refine q_out_w rfl ?_)) (by repeat (first | exact q_out_r | refine q_out_w rfl ?_)) (And.intro rfl trivial))
                · omega
              · omega
            · omega
          · omega
        · omega
    · omega
theorem w_div22 {l : Launch} {g : q_GP} {h : q_H} (hs : q_Stat h) {Q : Option Value → q_H → Prop} {n : Nat} (hn : q_I h 22 2 = nI n) (hn2 : n ≤ 416) {top go ad : Nat} {stk : Nat → Int32} (ha : ad < n) (hg : go ≤ ad) (ht : top ≤ 32) (h2 : 2 ≤ top) (hS : q_I h 23 ad = nI 47) {a b : Int32} (hA : stk (top - 2) = a) (hB : stk (top - 1) = b) (hb : ¬ b = 0) (K : q_Ex l g 1 mX3_worth 7 [(0, .ref 22), (2, .int (nI (top - 1))), (3, .int (nI go)), (4, .int (nI (ad + 1)))] [] (q_wI h 33 (upd stk (top - 2) (a / b))) Q) : q_Ex l g 1 mX3_worth 7 [(0, .ref 22), (2, .int (nI top)), (3, .int (nI go)), (4, .int (nI ad))] [] (q_wI h 33 stk) Q := by
  refine xe_iload dX3_worth_7 rfl ?_
  refine xe_aload_n dX3_worth_9 rfl ?_
  refine xe_getIv dX3_worth_10 flX3_47 (st22 hs) (by decide) rfl (v := nI n) (hn) ?_
  refine xn_icmp_ge (tgt := 212) dX3_worth_13 rfl (by omega) (by omega) (fun c1 => ?_) (fun c1 => ?_)
  · omega
  · refine xe_iload dX3_worth_16 rfl ?_
    refine xe_iload_n dX3_worth_18 rfl ?_
    refine xn_icmp_ge (tgt := 25) dX3_worth_19 rfl (by omega) (by omega) (fun c2 => ?_) (fun c2 => ?_)
    · refine xe_aload_n dX3_worth_25 rfl ?_
      refine xe_getP dX3_worth_26 flX3_13 (st22 hs) (by decide) rfl (sp22_0 hs) ?_
      refine xe_iload dX3_worth_29 rfl ?_
      refine xn_ialdv dX3_worth_31 (st23 hs) (by omega) (by decide) (v := nI 47) (hS) ?_
      refine xe_istore dX3_worth_32 (by decide) rfl ?_
      refine xe_iload dX3_worth_34 rfl ?_
      refine xn_if_eq (tgt := 45) dX3_worth_36 rfl (by omega) (fun c3 => ?_) (fun c3 => ?_)
      · omega
      · refine xe_iload dX3_worth_39 rfl ?_
        refine xe_iconst dX3_worth_41 kc_1 ?_
        refine xn_icmp_ne (tgt := 95) dX3_worth_42 rfl (by omega) (by omega) (fun c4 => ?_) (fun c4 => ?_)
        · refine xe_iload dX3_worth_95 rfl ?_
          refine xe_iconst dX3_worth_97 kc_2 ?_
          refine xn_icmp_ne (tgt := 118) dX3_worth_98 rfl (by omega) (by omega) (fun c5 => ?_) (fun c5 => ?_)
          · refine xe_iload_n dX3_worth_118 rfl ?_
            refine xe_iconst dX3_worth_119 kc_2 ?_
            refine xn_icmp_ge (tgt := 125) dX3_worth_120 rfl (by omega) (by omega) (fun c6 => ?_) (fun c6 => ?_)
            · refine xe_iinc dX3_worth_125 rfl (v := nI (top - 2)) (q_iincm (by omega) (by decide +kernel)) ?_
              refine xe_aload_n dX3_worth_128 rfl ?_
              refine xe_getP dX3_worth_129 flX3_44 (st22 hs) (by decide) rfl (sp22_15 hs) ?_
              refine xe_iload_n dX3_worth_132 rfl ?_
              refine xn_ialdv dX3_worth_133 (st33 hs) (by omega) (by decide) (v := a) (hA) ?_
              refine xe_istore dX3_worth_134 (by decide) rfl ?_
              refine xe_aload_n dX3_worth_136 rfl ?_
              refine xe_getP dX3_worth_137 flX3_44 (st22 hs) (by decide) rfl (sp22_15 hs) ?_
              refine xe_iload_n dX3_worth_140 rfl ?_
              refine xe_iconst dX3_worth_141 kc_1 ?_
              refine xn_iadd dX3_worth_142 ?_
              refine xn_ialdv dX3_worth_143 (st33 hs) (by omega) (by decide) (v := b) ((by rw [show top - 2 + 1 = top - 1 by omega]; exact hB)) ?_
              refine xe_istore dX3_worth_144 (by decide) rfl ?_
              refine xe_iload dX3_worth_146 rfl ?_
              refine xe_iconst dX3_worth_148 kc_3 ?_
              refine xn_icmp_ne (tgt := 174) dX3_worth_149 rfl (by omega) (by omega) (fun c7 => ?_) (fun c7 => ?_)
              · refine xe_iload dX3_worth_174 rfl ?_
                refine xe_bipush dX3_worth_176 kb_47 ?_
                refine xn_icmp_ne (tgt := 188) dX3_worth_178 rfl (by omega) (by omega) (fun c8 => ?_) (fun c8 => ?_)
                · omega
                · refine xe_iload dX3_worth_181 rfl ?_
                  refine xe_if_ne (tgt := 188) dX3_worth_183 rfl (fun c9 => ?_) (fun c9 => ?_)
                  · refine xe_aload_n dX3_worth_188 rfl ?_
                    refine xe_getP dX3_worth_189 flX3_44 (st22 hs) (by decide) rfl (sp22_15 hs) ?_
                    refine xe_iload_n dX3_worth_192 rfl ?_
                    refine xe_iload dX3_worth_193 rfl ?_
                    refine xe_iload dX3_worth_195 rfl ?_
                    refine xe_iload dX3_worth_197 rfl ?_
                    refine xe_callSI (d' := 0) (y' := mX3_reckon) dX3_worth_199 mlX3_67 msX3_reckon rfl (by decide) (by decide) (Nat.le_of_ble_eq_true rfl) (c_X3_reckon_div l g _ _ _ hb) rfl ?_
                    refine xn_iast dX3_worth_202 (st33 hs) (by omega) (by decide) ?_
                    refine xe_iinc dX3_worth_203 rfl (v := nI (top - 1)) (q_inc2 h2) ?_
                    refine xn_iinc dX3_worth_206 rfl kc_1 ?_
                    refine xe_goto (tgt := 7) dX3_worth_209 rfl ?_
                    exact xe_fin K (And.intro rfl (And.intro rfl (And.intro rfl (And.intro rfl trivial)))) (q_heq [33] (H := h) (by repeat (first | exact q_out_r | refine q_out_w rfl ?_)) (by repeat (first | exact q_out_r | refine q_out_w rfl ?_)) (And.intro rfl trivial))
                  · exact absurd c9 hb
              · omega
            · omega
          · omega
        · omega
    · omega
theorem w_div022 {l : Launch} {g : q_GP} {h : q_H} (hs : q_Stat h) {Q : Option Value → q_H → Prop} {n : Nat} (hn : q_I h 22 2 = nI n) (hn2 : n ≤ 416) {top go ad : Nat} {stk : Nat → Int32} (ha : ad < n) (hg : go ≤ ad) (ht : top ≤ 32) (h2 : 2 ≤ top) (hS : q_I h 23 ad = nI 47) {a b : Int32} (hA : stk (top - 2) = a) (hB : stk (top - 1) = b) (hb : b = 0) (K : Q (some (.int (nI 0))) (q_wI h 33 stk)) : q_Ex l g 1 mX3_worth 7 [(0, .ref 22), (2, .int (nI top)), (3, .int (nI go)), (4, .int (nI ad))] [] (q_wI h 33 stk) Q := by
  refine xe_iload dX3_worth_7 rfl ?_
  refine xe_aload_n dX3_worth_9 rfl ?_
  refine xe_getIv dX3_worth_10 flX3_47 (st22 hs) (by decide) rfl (v := nI n) (hn) ?_
  refine xn_icmp_ge (tgt := 212) dX3_worth_13 rfl (by omega) (by omega) (fun c1 => ?_) (fun c1 => ?_)
  · omega
  · refine xe_iload dX3_worth_16 rfl ?_
    refine xe_iload_n dX3_worth_18 rfl ?_
    refine xn_icmp_ge (tgt := 25) dX3_worth_19 rfl (by omega) (by omega) (fun c2 => ?_) (fun c2 => ?_)
    · refine xe_aload_n dX3_worth_25 rfl ?_
      refine xe_getP dX3_worth_26 flX3_13 (st22 hs) (by decide) rfl (sp22_0 hs) ?_
      refine xe_iload dX3_worth_29 rfl ?_
      refine xn_ialdv dX3_worth_31 (st23 hs) (by omega) (by decide) (v := nI 47) (hS) ?_
      refine xe_istore dX3_worth_32 (by decide) rfl ?_
      refine xe_iload dX3_worth_34 rfl ?_
      refine xn_if_eq (tgt := 45) dX3_worth_36 rfl (by omega) (fun c3 => ?_) (fun c3 => ?_)
      · omega
      · refine xe_iload dX3_worth_39 rfl ?_
        refine xe_iconst dX3_worth_41 kc_1 ?_
        refine xn_icmp_ne (tgt := 95) dX3_worth_42 rfl (by omega) (by omega) (fun c4 => ?_) (fun c4 => ?_)
        · refine xe_iload dX3_worth_95 rfl ?_
          refine xe_iconst dX3_worth_97 kc_2 ?_
          refine xn_icmp_ne (tgt := 118) dX3_worth_98 rfl (by omega) (by omega) (fun c5 => ?_) (fun c5 => ?_)
          · refine xe_iload_n dX3_worth_118 rfl ?_
            refine xe_iconst dX3_worth_119 kc_2 ?_
            refine xn_icmp_ge (tgt := 125) dX3_worth_120 rfl (by omega) (by omega) (fun c6 => ?_) (fun c6 => ?_)
            · refine xe_iinc dX3_worth_125 rfl (v := nI (top - 2)) (q_iincm (by omega) (by decide +kernel)) ?_
              refine xe_aload_n dX3_worth_128 rfl ?_
              refine xe_getP dX3_worth_129 flX3_44 (st22 hs) (by decide) rfl (sp22_15 hs) ?_
              refine xe_iload_n dX3_worth_132 rfl ?_
              refine xn_ialdv dX3_worth_133 (st33 hs) (by omega) (by decide) (v := a) (hA) ?_
              refine xe_istore dX3_worth_134 (by decide) rfl ?_
              refine xe_aload_n dX3_worth_136 rfl ?_
              refine xe_getP dX3_worth_137 flX3_44 (st22 hs) (by decide) rfl (sp22_15 hs) ?_
              refine xe_iload_n dX3_worth_140 rfl ?_
              refine xe_iconst dX3_worth_141 kc_1 ?_
              refine xn_iadd dX3_worth_142 ?_
              refine xn_ialdv dX3_worth_143 (st33 hs) (by omega) (by decide) (v := b) ((by rw [show top - 2 + 1 = top - 1 by omega]; exact hB)) ?_
              refine xe_istore dX3_worth_144 (by decide) rfl ?_
              refine xe_iload dX3_worth_146 rfl ?_
              refine xe_iconst dX3_worth_148 kc_3 ?_
              refine xn_icmp_ne (tgt := 174) dX3_worth_149 rfl (by omega) (by omega) (fun c7 => ?_) (fun c7 => ?_)
              · refine xe_iload dX3_worth_174 rfl ?_
                refine xe_bipush dX3_worth_176 kb_47 ?_
                refine xn_icmp_ne (tgt := 188) dX3_worth_178 rfl (by omega) (by omega) (fun c8 => ?_) (fun c8 => ?_)
                · omega
                · refine xe_iload dX3_worth_181 rfl ?_
                  refine xe_if_ne (tgt := 188) dX3_worth_183 rfl (fun c9 => ?_) (fun c9 => ?_)
                  · exact absurd hb c9
                  · refine xe_iconst dX3_worth_186 kc_0 ?_
                    refine xe_ireturn dX3_worth_187 rfl (by first | rfl | decide +kernel) ?_
                    exact K
              · omega
            · omega
          · omega
        · omega
    · omega
theorem w_end22 {l : Launch} {g : q_GP} {h : q_H} (hs : q_Stat h) {Q : Option Value → q_H → Prop} {n : Nat} (hn : q_I h 22 2 = nI n) (hn2 : n ≤ 416) {top go ad : Nat} {stk : Nat → Int32} (ha : ad < n) (hg : go ≤ ad) (ht : top ≤ 32) (h2 : 1 ≤ top) (hS : q_I h 23 ad = nI 2) {v : Int32} (hv : stk (top - 1) = v) (K : Q (some (.int v)) (q_wI h 33 stk)) : q_Ex l g 1 mX3_worth 7 [(0, .ref 22), (2, .int (nI top)), (3, .int (nI go)), (4, .int (nI ad))] [] (q_wI h 33 stk) Q := by
  refine xe_iload dX3_worth_7 rfl ?_
  refine xe_aload_n dX3_worth_9 rfl ?_
  refine xe_getIv dX3_worth_10 flX3_47 (st22 hs) (by decide) rfl (v := nI n) (hn) ?_
  refine xn_icmp_ge (tgt := 212) dX3_worth_13 rfl (by omega) (by omega) (fun c1 => ?_) (fun c1 => ?_)
  · omega
  · refine xe_iload dX3_worth_16 rfl ?_
    refine xe_iload_n dX3_worth_18 rfl ?_
    refine xn_icmp_ge (tgt := 25) dX3_worth_19 rfl (by omega) (by omega) (fun c2 => ?_) (fun c2 => ?_)
    · refine xe_aload_n dX3_worth_25 rfl ?_
      refine xe_getP dX3_worth_26 flX3_13 (st22 hs) (by decide) rfl (sp22_0 hs) ?_
      refine xe_iload dX3_worth_29 rfl ?_
      refine xn_ialdv dX3_worth_31 (st23 hs) (by omega) (by decide) (v := nI 2) (hS) ?_
      refine xe_istore dX3_worth_32 (by decide) rfl ?_
      refine xe_iload dX3_worth_34 rfl ?_
      refine xn_if_eq (tgt := 45) dX3_worth_36 rfl (by omega) (fun c3 => ?_) (fun c3 => ?_)
      · omega
      · refine xe_iload dX3_worth_39 rfl ?_
        refine xe_iconst dX3_worth_41 kc_1 ?_
        refine xn_icmp_ne (tgt := 95) dX3_worth_42 rfl (by omega) (by omega) (fun c4 => ?_) (fun c4 => ?_)
        · refine xe_iload dX3_worth_95 rfl ?_
          refine xe_iconst dX3_worth_97 kc_2 ?_
          refine xn_icmp_ne (tgt := 118) dX3_worth_98 rfl (by omega) (by omega) (fun c5 => ?_) (fun c5 => ?_)
          · omega
          · refine xe_iload_n dX3_worth_101 rfl ?_
            refine xn_if_le (tgt := 116) dX3_worth_102 rfl (by omega) (fun c6 => ?_) (fun c6 => ?_)
            · omega
            · refine xe_aload_n dX3_worth_105 rfl ?_
              refine xe_getP dX3_worth_106 flX3_44 (st22 hs) (by decide) rfl (sp22_15 hs) ?_
              refine xe_iload_n dX3_worth_109 rfl ?_
              refine xe_iconst dX3_worth_110 kc_1 ?_
              refine xn_isub dX3_worth_111 (by omega) ?_
              refine xn_ialdv dX3_worth_112 (st33 hs) (by omega) (by decide) (v := v) (hv) ?_
              refine xe_goto (tgt := 117) dX3_worth_113 rfl ?_
              refine xe_ireturn dX3_worth_117 rfl (by first | rfl | decide +kernel) ?_
              exact K
        · omega
    · omega
theorem w_lt22 {l : Launch} {g : q_GP} {h : q_H} (hs : q_Stat h) {Q : Option Value → q_H → Prop} {n : Nat} (hn : q_I h 22 2 = nI n) (hn2 : n ≤ 416) {top go ad : Nat} {stk : Nat → Int32} (ha : ad < n) (hg : go ≤ ad) (ht : top ≤ 32) (h2 : 2 ≤ top) (hS : q_I h 23 ad = nI 3) {a b : Int32} (hA : stk (top - 2) = a) (hB : stk (top - 1) = b) (hab : a < b) (K : q_Ex l g 1 mX3_worth 7 [(0, .ref 22), (2, .int (nI (top - 2))), (3, .int (nI go)), (4, .int (nI (ad + 1)))] [] (q_wI h 33 stk) Q) : q_Ex l g 1 mX3_worth 7 [(0, .ref 22), (2, .int (nI top)), (3, .int (nI go)), (4, .int (nI ad))] [] (q_wI h 33 stk) Q := by
  refine xe_iload dX3_worth_7 rfl ?_
  refine xe_aload_n dX3_worth_9 rfl ?_
  refine xe_getIv dX3_worth_10 flX3_47 (st22 hs) (by decide) rfl (v := nI n) (hn) ?_
  refine xn_icmp_ge (tgt := 212) dX3_worth_13 rfl (by omega) (by omega) (fun c1 => ?_) (fun c1 => ?_)
  · omega
  · refine xe_iload dX3_worth_16 rfl ?_
    refine xe_iload_n dX3_worth_18 rfl ?_
    refine xn_icmp_ge (tgt := 25) dX3_worth_19 rfl (by omega) (by omega) (fun c2 => ?_) (fun c2 => ?_)
    · refine xe_aload_n dX3_worth_25 rfl ?_
      refine xe_getP dX3_worth_26 flX3_13 (st22 hs) (by decide) rfl (sp22_0 hs) ?_
      refine xe_iload dX3_worth_29 rfl ?_
      refine xn_ialdv dX3_worth_31 (st23 hs) (by omega) (by decide) (v := nI 3) (hS) ?_
      refine xe_istore dX3_worth_32 (by decide) rfl ?_
      refine xe_iload dX3_worth_34 rfl ?_
      refine xn_if_eq (tgt := 45) dX3_worth_36 rfl (by omega) (fun c3 => ?_) (fun c3 => ?_)
      · omega
      · refine xe_iload dX3_worth_39 rfl ?_
        refine xe_iconst dX3_worth_41 kc_1 ?_
        refine xn_icmp_ne (tgt := 95) dX3_worth_42 rfl (by omega) (by omega) (fun c4 => ?_) (fun c4 => ?_)
        · refine xe_iload dX3_worth_95 rfl ?_
          refine xe_iconst dX3_worth_97 kc_2 ?_
          refine xn_icmp_ne (tgt := 118) dX3_worth_98 rfl (by omega) (by omega) (fun c5 => ?_) (fun c5 => ?_)
          · refine xe_iload_n dX3_worth_118 rfl ?_
            refine xe_iconst dX3_worth_119 kc_2 ?_
            refine xn_icmp_ge (tgt := 125) dX3_worth_120 rfl (by omega) (by omega) (fun c6 => ?_) (fun c6 => ?_)
            · refine xe_iinc dX3_worth_125 rfl (v := nI (top - 2)) (q_iincm (by omega) (by decide +kernel)) ?_
              refine xe_aload_n dX3_worth_128 rfl ?_
              refine xe_getP dX3_worth_129 flX3_44 (st22 hs) (by decide) rfl (sp22_15 hs) ?_
              refine xe_iload_n dX3_worth_132 rfl ?_
              refine xn_ialdv dX3_worth_133 (st33 hs) (by omega) (by decide) (v := a) (hA) ?_
              refine xe_istore dX3_worth_134 (by decide) rfl ?_
              refine xe_aload_n dX3_worth_136 rfl ?_
              refine xe_getP dX3_worth_137 flX3_44 (st22 hs) (by decide) rfl (sp22_15 hs) ?_
              refine xe_iload_n dX3_worth_140 rfl ?_
              refine xe_iconst dX3_worth_141 kc_1 ?_
              refine xn_iadd dX3_worth_142 ?_
              refine xn_ialdv dX3_worth_143 (st33 hs) (by omega) (by decide) (v := b) ((by rw [show top - 2 + 1 = top - 1 by omega]; exact hB)) ?_
              refine xe_istore dX3_worth_144 (by decide) rfl ?_
              refine xe_iload dX3_worth_146 rfl ?_
              refine xe_iconst dX3_worth_148 kc_3 ?_
              refine xn_icmp_ne (tgt := 174) dX3_worth_149 rfl (by omega) (by omega) (fun c7 => ?_) (fun c7 => ?_)
              · omega
              · refine xe_iload dX3_worth_152 rfl ?_
                refine xe_iload dX3_worth_154 rfl ?_
                refine xe_icmp_ge (tgt := 163) dX3_worth_156 rfl (fun c8 => ?_) (fun c8 => ?_)
                · exact absurd hab (Int32.not_lt.mpr c8)
                · refine xe_iload_n dX3_worth_159 rfl ?_
                  refine xe_goto (tgt := 170) dX3_worth_160 rfl ?_
                  refine xe_istore_n (i := 3) dX3_worth_170 rfl (by decide) rfl ?_
                  refine xe_goto (tgt := 206) dX3_worth_171 rfl ?_
                  refine xn_iinc dX3_worth_206 rfl kc_1 ?_
                  refine xe_goto (tgt := 7) dX3_worth_209 rfl ?_
                  exact xe_fin K (And.intro rfl (And.intro rfl (And.intro rfl (And.intro rfl trivial)))) (q_heq [33] (H := h) (by repeat (first | exact q_out_r | refine q_out_w rfl ?_)) (by repeat (first | exact q_out_r | refine q_out_w rfl ?_)) (And.intro rfl trivial))
            · omega
          · omega
        · omega
    · omega
theorem w_ge22 {l : Launch} {g : q_GP} {h : q_H} (hs : q_Stat h) {Q : Option Value → q_H → Prop} {n : Nat} (hn : q_I h 22 2 = nI n) (hn2 : n ≤ 416) {top go ad : Nat} {stk : Nat → Int32} (ha : ad < n) (hg : go ≤ ad) (ht : top ≤ 32) (h2 : 2 ≤ top) (hS : q_I h 23 ad = nI 3) {a b : Int32} (hA : stk (top - 2) = a) (hB : stk (top - 1) = b) (hab : ¬ a < b) {to : Nat} (hW : q_I h 24 ad = nI to) (K : q_Ex l g 1 mX3_worth 7 [(0, .ref 22), (2, .int (nI (top - 2))), (3, .int (nI to)), (4, .int (nI (ad + 1)))] [] (q_wI h 33 stk) Q) : q_Ex l g 1 mX3_worth 7 [(0, .ref 22), (2, .int (nI top)), (3, .int (nI go)), (4, .int (nI ad))] [] (q_wI h 33 stk) Q := by
  refine xe_iload dX3_worth_7 rfl ?_
  refine xe_aload_n dX3_worth_9 rfl ?_
  refine xe_getIv dX3_worth_10 flX3_47 (st22 hs) (by decide) rfl (v := nI n) (hn) ?_
  refine xn_icmp_ge (tgt := 212) dX3_worth_13 rfl (by omega) (by omega) (fun c1 => ?_) (fun c1 => ?_)
  · omega
  · refine xe_iload dX3_worth_16 rfl ?_
    refine xe_iload_n dX3_worth_18 rfl ?_
    refine xn_icmp_ge (tgt := 25) dX3_worth_19 rfl (by omega) (by omega) (fun c2 => ?_) (fun c2 => ?_)
    · refine xe_aload_n dX3_worth_25 rfl ?_
      refine xe_getP dX3_worth_26 flX3_13 (st22 hs) (by decide) rfl (sp22_0 hs) ?_
      refine xe_iload dX3_worth_29 rfl ?_
      refine xn_ialdv dX3_worth_31 (st23 hs) (by omega) (by decide) (v := nI 3) (hS) ?_
      refine xe_istore dX3_worth_32 (by decide) rfl ?_
      refine xe_iload dX3_worth_34 rfl ?_
      refine xn_if_eq (tgt := 45) dX3_worth_36 rfl (by omega) (fun c3 => ?_) (fun c3 => ?_)
      · omega
      · refine xe_iload dX3_worth_39 rfl ?_
        refine xe_iconst dX3_worth_41 kc_1 ?_
        refine xn_icmp_ne (tgt := 95) dX3_worth_42 rfl (by omega) (by omega) (fun c4 => ?_) (fun c4 => ?_)
        · refine xe_iload dX3_worth_95 rfl ?_
          refine xe_iconst dX3_worth_97 kc_2 ?_
          refine xn_icmp_ne (tgt := 118) dX3_worth_98 rfl (by omega) (by omega) (fun c5 => ?_) (fun c5 => ?_)
          · refine xe_iload_n dX3_worth_118 rfl ?_
            refine xe_iconst dX3_worth_119 kc_2 ?_
            refine xn_icmp_ge (tgt := 125) dX3_worth_120 rfl (by omega) (by omega) (fun c6 => ?_) (fun c6 => ?_)
            · refine xe_iinc dX3_worth_125 rfl (v := nI (top - 2)) (q_iincm (by omega) (by decide +kernel)) ?_
              refine xe_aload_n dX3_worth_128 rfl ?_
              refine xe_getP dX3_worth_129 flX3_44 (st22 hs) (by decide) rfl (sp22_15 hs) ?_
              refine xe_iload_n dX3_worth_132 rfl ?_
              refine xn_ialdv dX3_worth_133 (st33 hs) (by omega) (by decide) (v := a) (hA) ?_
              refine xe_istore dX3_worth_134 (by decide) rfl ?_
              refine xe_aload_n dX3_worth_136 rfl ?_
              refine xe_getP dX3_worth_137 flX3_44 (st22 hs) (by decide) rfl (sp22_15 hs) ?_
              refine xe_iload_n dX3_worth_140 rfl ?_
              refine xe_iconst dX3_worth_141 kc_1 ?_
              refine xn_iadd dX3_worth_142 ?_
              refine xn_ialdv dX3_worth_143 (st33 hs) (by omega) (by decide) (v := b) ((by rw [show top - 2 + 1 = top - 1 by omega]; exact hB)) ?_
              refine xe_istore dX3_worth_144 (by decide) rfl ?_
              refine xe_iload dX3_worth_146 rfl ?_
              refine xe_iconst dX3_worth_148 kc_3 ?_
              refine xn_icmp_ne (tgt := 174) dX3_worth_149 rfl (by omega) (by omega) (fun c7 => ?_) (fun c7 => ?_)
              · omega
              · refine xe_iload dX3_worth_152 rfl ?_
                refine xe_iload dX3_worth_154 rfl ?_
                refine xe_icmp_ge (tgt := 163) dX3_worth_156 rfl (fun c8 => ?_) (fun c8 => ?_)
                · refine xe_aload_n dX3_worth_163 rfl ?_
                  refine xe_getP dX3_worth_164 flX3_17 (st22 hs) (by decide) rfl (sp22_1 hs) ?_
                  refine xe_iload dX3_worth_167 rfl ?_
                  refine xn_ialdv dX3_worth_169 (st24 hs) (by omega) (by decide) (v := nI to) (hW) ?_
                  refine xe_istore_n (i := 3) dX3_worth_170 rfl (by decide) rfl ?_
                  refine xe_goto (tgt := 206) dX3_worth_171 rfl ?_
                  refine xn_iinc dX3_worth_206 rfl kc_1 ?_
                  refine xe_goto (tgt := 7) dX3_worth_209 rfl ?_
                  exact xe_fin K (And.intro rfl (And.intro rfl (And.intro rfl (And.intro rfl trivial)))) (q_heq [33] (H := h) (by repeat (first | exact q_out_r | refine q_out_w rfl ?_)) (by repeat (first | exact q_out_r | refine q_out_w rfl ?_)) (And.intro rfl trivial))
                · exact absurd (Int32.not_lt.mp hab) c8
            · omega
          · omega
        · omega
    · omega
theorem w_skip22 {l : Launch} {g : q_GP} {h : q_H} (hs : q_Stat h) {Q : Option Value → q_H → Prop} {n : Nat} (hn : q_I h 22 2 = nI n) (hn2 : n ≤ 416) {top go ad : Nat} {stk : Nat → Int32} (ha : ad < n) (hg : ad < go) (hg2 : go < 2 ^ 30) (K : q_Ex l g 1 mX3_worth 7 [(0, .ref 22), (2, .int (nI top)), (3, .int (nI go)), (4, .int (nI (ad + 1)))] [] (q_wI h 33 stk) Q) : q_Ex l g 1 mX3_worth 7 [(0, .ref 22), (2, .int (nI top)), (3, .int (nI go)), (4, .int (nI ad))] [] (q_wI h 33 stk) Q := by
  refine xe_iload dX3_worth_7 rfl ?_
  refine xe_aload_n dX3_worth_9 rfl ?_
  refine xe_getIv dX3_worth_10 flX3_47 (st22 hs) (by decide) rfl (v := nI n) (hn) ?_
  refine xn_icmp_ge (tgt := 212) dX3_worth_13 rfl (by omega) (by omega) (fun c1 => ?_) (fun c1 => ?_)
  · omega
  · refine xe_iload dX3_worth_16 rfl ?_
    refine xe_iload_n dX3_worth_18 rfl ?_
    refine xn_icmp_ge (tgt := 25) dX3_worth_19 rfl (by omega) (by omega) (fun c2 => ?_) (fun c2 => ?_)
    · omega
    · refine xe_goto (tgt := 206) dX3_worth_22 rfl ?_
      refine xn_iinc dX3_worth_206 rfl kc_1 ?_
      refine xe_goto (tgt := 7) dX3_worth_209 rfl ?_
      exact xe_fin K (And.intro rfl (And.intro rfl (And.intro rfl (And.intro rfl trivial)))) (q_heq [33] (H := h) (by repeat (first | exact q_out_r | refine q_out_w rfl ?_)) (by repeat (first | exact q_out_r | refine q_out_w rfl ?_)) (And.intro rfl trivial))
theorem w_skips22 {l : Launch} {g : q_GP} {h : q_H} (hs : q_Stat h) {Q : Option Value → q_H → Prop} {n : Nat} (hn : q_I h 22 2 = nI n) (hn2 : n ≤ 416) {top go : Nat} {stk : Nat → Int32} (hg2 : go ≤ n) (K : q_Ex l g 1 mX3_worth 7 [(0, .ref 22), (2, .int (nI top)), (3, .int (nI go)), (4, .int (nI go))] [] (q_wI h 33 stk) Q) : ∀ k ad, ad + k = go → q_Ex l g 1 mX3_worth 7 [(0, .ref 22), (2, .int (nI top)), (3, .int (nI go)), (4, .int (nI ad))] [] (q_wI h 33 stk) Q
  | 0, ad, e => by
    have e : ad = go := e
    rw [e]
    exact K
  | k + 1, ad, e => w_skip22 hs hn hn2 (by omega) (by omega) (by omega) (w_skips22 hs hn hn2 hg2 K k (ad + 1) (by omega))
/-- a code of numbers -/
theorem w_seg22 {l : Launch} {g : q_GP} {h : q_H} (hs : q_Stat h) {Q : Option Value → q_H → Prop} {n : Nat} (hn : q_I h 22 2 = nI n) (hn2 : n ≤ 416) {go b : Nat} : ∀ (xs : List (Nat × Int32)) (st : List Int32) (stk : Nat → Int32) (ad : Nat), q_sgC (q_I h 23) (q_I h 24) ad xs → q_wfb 31 b xs st.length → st.length ≤ 31 → q_st stk st → go ≤ ad → ad + xs.length < n →
    (∀ (stk' : Nat → Int32) (st' : List Int32), q_ev (q_I h 32) xs st = some st' → st'.length = b + 1 → q_st stk' st' → q_Ex l g 1 mX3_worth 7 [(0, .ref 22), (2, .int (nI st'.length)), (3, .int (nI go)), (4, .int (nI (ad + xs.length)))] [] (q_wI h 33 stk') Q) → (∀ stk' : Nat → Int32, q_ev (q_I h 32) xs st = none → Q (some (.int (nI 0))) (q_wI h 33 stk')) → q_Ex l g 1 mX3_worth 7 [(0, .ref 22), (2, .int (nI st.length)), (3, .int (nI go)), (4, .int (nI ad))] [] (q_wI h 33 stk) Q
  | [], st, stk, ad, hc, hw, hl, hst, hg, hn3, K1, K0 => K1 stk st rfl hw hst
  | (0, v) :: r, st, stk, ad, hc, hw, hl, hst, hg, hn3, K1, K0 => by
    have hn4 : ad + (r.length + 1) < n := hn3
    refine w_push22 hs hn hn2 (by omega) hg (by omega) (by omega) hc.1 hc.2.1 ?_
    refine w_seg22 hs hn hn2 r (v :: st) _ (ad + 1) hc.2.2 hw.2 (by have := hw.1; show st.length + 1 ≤ 31; omega) (q_st_push hst) (by omega) (by omega) (fun s1 t1 q1 q2 q3 => ?_) (fun s1 q1 => K0 s1 q1)
    rw [show ad + 1 + r.length = ad + (r.length + 1) by omega]
    exact K1 s1 t1 q1 q2 q3
  | (1, v) :: r, st, stk, ad, hc, hw, hl, hst, hg, hn3, K1, K0 => by
    have hn4 : ad + (r.length + 1) < n := hn3
    obtain ⟨i, hi, rfl⟩ := hw.2.1
    refine w_get22 hs hn hn2 (by omega) hg (by omega) (by omega) hc.1 hi hc.2.1 ?_
    have ei : (nI i).toNatClampNeg = i := nI_clamp (by omega)
    refine w_seg22 hs hn hn2 r (q_I h 32 i :: st) _ (ad + 1) hc.2.2 hw.2.2 (by have := hw.1; show st.length + 1 ≤ 31; omega) (q_st_push hst) (by omega) (by omega) (fun s1 t1 q1 q2 q3 => ?_) (fun s1 q1 => K0 s1 (by unfold q_ev; rw [ei]; exact q1))
    rw [show ad + 1 + r.length = ad + (r.length + 1) by omega]
    exact K1 s1 t1 (by unfold q_ev; rw [ei]; exact q1) q2 q3
  | (k + 2, v) :: r, st, stk, ad, hc, hw, hl, hst, hg, hn3, K1, K0 => by
    have hn4 : ad + (r.length + 1) < n := hn3
    obtain ⟨z, x, st, rfl⟩ := q_two_of (show 2 ≤ st.length by have := hw.2.1; omega)
    have hA : stk ((z :: x :: st).length - 2) = x := hst.2.1
    have hB : stk ((z :: x :: st).length - 1) = z := hst.1
    have hw2 : q_wfb 31 b r (st.length + 1) := hw.2.2
    have hl2 : st.length + 2 ≤ 31 := hl
    have hlen : (z :: x :: st).length = st.length + 2 := rfl
    have e : q_ev (q_I h 32) ((k + 2, v) :: r) (z :: x :: st) = if k + 2 = 5 ∧ z = 0 then none else q_ev (q_I h 32) r (q_ar (k + 2) x z :: st) := rfl
    have hk := hw.1
    have fin : ∀ u, q_ar (k + 2) x z = u → ¬ (k + 2 = 5 ∧ z = 0) → q_Ex l g 1 mX3_worth 7 [(0, .ref 22), (2, .int (nI ((z :: x :: st).length - 1))), (3, .int (nI go)), (4, .int (nI (ad + 1)))] [] (q_wI h 33 (upd stk ((z :: x :: st).length - 2) u)) Q := fun u hu hno => by
      rw [if_neg hno, hu] at e
      refine w_seg22 hs hn hn2 r (u :: st) _ (ad + 1) hc.2.2 hw2 (by show st.length + 1 ≤ 31; omega) (q_st_push hst.2.2) (by omega) (by omega) (fun s1 t1 q1 q2 q3 => ?_) (fun s1 q1 => K0 s1 (by rw [e]; exact q1))
      rw [show ad + 1 + r.length = ad + (r.length + 1) by omega]
      exact K1 s1 t1 (by rw [e]; exact q1) q2 q3
    rcases (show k = 0 ∨ k = 1 ∨ k = 2 ∨ k = 3 by omega) with rfl | rfl | rfl | rfl
    · exact w_add22 hs hn hn2 (by omega) hg (by omega) (by omega) hc.1 hA hB (fin _ rfl (by omega))
    · exact w_sub22 hs hn hn2 (by omega) hg (by omega) (by omega) hc.1 hA hB (fin _ rfl (by omega))
    · exact w_mul22 hs hn hn2 (by omega) hg (by omega) (by omega) hc.1 hA hB (fin _ rfl (by omega))
    · by_cases hz : z = 0
      · exact w_div022 hs hn hn2 (by omega) hg (by omega) (by omega) hc.1 hA hB hz (K0 stk (by rw [e, if_pos ⟨rfl, hz⟩]))
      · exact w_div22 hs hn hn2 (by omega) hg (by omega) (by omega) hc.1 hA hB hz (fin _ rfl (fun q => hz q.2))
theorem q_wf3022 {xs : List (Nat × Int32)} (h : q_wf 30 xs 0) : q_wfb 31 0 xs 0 := q_wfb_of (b := 0) xs 0 (q_wf_up (by decide) xs 0 h)
theorem w_law22 {l : Launch} {g : q_GP} {h : q_H} (hs : q_Stat h) {Q : Option Value → q_H → Prop} {n : Nat} (hn : q_I h 22 2 = nI n) (hn2 : n ≤ 416) (e : List (Nat × Int32)) : ∀ (r : List (List (Nat × Int32) × List (Nat × Int32) × List (Nat × Int32))) (ad go : Nat) (stk : Nat → Int32), q_cd (q_I h 23) (q_I h 24) n ad r e → go ≤ ad → (∀ stk', Q (some (.int ((q_law (q_I h 32) r e).getD (nI 0)))) (q_wI h 33 stk')) → q_Ex l g 1 mX3_worth 7 [(0, .ref 22), (2, .int (nI 0)), (3, .int (nI go)), (4, .int (nI ad))] [] (q_wI h 33 stk) Q
  | [], ad, go, stk, hc, hg, K => by
    obtain ⟨c1, c2, c3, c4⟩ := hc
    refine w_seg22 hs hn hn2 (b := 0) e [] stk ad c1 (q_wf3022 c2) (by decide) trivial hg c4 (fun s1 t1 q1 q2 q3 => ?_) (fun s1 q1 => ?_)
    · obtain ⟨v, rfl⟩ := List.length_eq_one_iff.mp q2
      refine w_end22 hs hn hn2 (by omega) (by omega) (by show 1 ≤ 32; decide) (Nat.le_refl _) c3 q3.1 ?_
      have := K s1
      unfold q_law q_val at this
      rw [q1] at this
      exact this
    · have := K s1
      unfold q_law q_val at this
      rw [q1] at this
      exact this
  | (x, y, z) :: r, ad, go, stk, hc, hg, K => by
    obtain ⟨c1, c2, c3, c4, c5, c6, c7, c8, c9, c10, c11⟩ := hc
    have hq : ∀ o, (q_law (q_I h 32) ((x, y, z) :: r) e) = o → ∀ stk', Q (some (.int (o.getD (nI 0)))) (q_wI h 33 stk') := fun o ho s => ho ▸ K s
    refine w_seg22 hs hn hn2 (b := 0) x [] stk ad c1 (q_wf3022 c2) (by decide) trivial hg (by omega) (fun s1 t1 q1 q2 q3 => ?_) (fun s1 q1 => ?_)
    · obtain ⟨u, rfl⟩ := List.length_eq_one_iff.mp q2
      have e1 : q_val (q_I h 32) x = some u := by unfold q_val; rw [q1]
      have q_y : q_ev (q_I h 32) y [u] = (q_ev (q_I h 32) y []).map (· ++ [u]) := q_ev_b (st := []) y [u] c4
      refine w_seg22 hs hn hn2 (b := 1) y [u] s1 (ad + x.length) c3 (q_wfb_of (b := 1) y 0 c4) (by show 1 ≤ 31; decide) q3 (by omega) (by omega) (fun s2 t2 q4 q5 q6 => ?_) (fun s2 q4 => ?_)
      · rw [q_y] at q4
        rcases q_ev_wf (V := q_I h 32) y [] c4 with e2 | ⟨w, e2⟩
        · rw [e2] at q4
          cases q4
        · rw [e2] at q4
          obtain rfl : t2 = [w, u] := (Option.some.inj q4).symm
          have e3 : q_val (q_I h 32) y = some w := by unfold q_val; rw [e2]
          have hB : s2 1 = w := q6.1
          have hA : s2 0 = u := q6.2.1
          by_cases huw : u < w
          · refine w_lt22 hs hn hn2 (top := 2) (by omega) (by omega) (by decide) (Nat.le_refl _) c5 hA hB huw ?_
            refine w_seg22 hs hn hn2 (b := 0) z [] s2 (ad + x.length + y.length + 1) c7 (q_wf3022 c8) (by decide) trivial (by omega) (by omega) (fun s3 t3 q7 q8 q9 => ?_) (fun s3 q7 => ?_)
            · obtain ⟨v, rfl⟩ := List.length_eq_one_iff.mp q8
              refine w_end22 hs hn hn2 (by omega) (by omega) (by show 1 ≤ 32; decide) (Nat.le_refl _) c9 q9.1 ?_
              exact hq (some v) (by unfold q_law; rw [e1, e3]; show (if u < w then _ else _) = _; rw [if_pos huw]; unfold q_val; rw [q7]) s3
            · exact hq none (by unfold q_law; rw [e1, e3]; show (if u < w then _ else _) = _; rw [if_pos huw]; unfold q_val; rw [q7]) s3
          · refine w_ge22 hs hn hn2 (top := 2) (by omega) (by omega) (by decide) (Nat.le_refl _) c5 hA hB huw c6 ?_
            refine w_skips22 hs hn hn2 (by omega) ?_ (z.length + 1) _ (by omega)
            refine w_law22 hs hn hn2 e r _ _ s2 c11 (Nat.le_refl _) (fun s4 => ?_)
            refine hq ((q_law (q_I h 32) r e)) ?_ s4
            show (match q_val _ x, q_val _ y with | some u, some w => if u < w then q_val _ z else q_law _ r e | _, _ => none) = _
            rw [e1, e3]
            exact if_neg huw
      · refine hq none ?_ s2
        rw [q_y] at q4
        rcases q_ev_wf (V := q_I h 32) y [] c4 with e2 | ⟨w, e2⟩
        · unfold q_law
          rw [e1, show q_val (q_I h 32) y = none by unfold q_val; rw [e2]]
        · rw [e2] at q4
          cases q4
    · exact hq none (by unfold q_law q_val; rw [q1]) s1
theorem c_X3_worth10 (l : Launch) (g : q_GP) (h : q_H) (hs : q_Stat h) {n : Nat} (hn : q_I h 10 2 = nI n) (hn2 : n ≤ 416) (r : List (List (Nat × Int32) × List (Nat × Int32) × List (Nat × Int32))) (e : List (Nat × Int32)) (ad : Nat) (hc : q_cd (q_I h 11) (q_I h 12) n ad r e) : q_Ct l g 1 mX3_worth [.ref 10, .int (nI ad)] h (fun v h1 => v = some (.int ((q_law (q_I h 20) r e).getD (nI 0))) ∧ ∃ S, h1 = q_wI h 21 S) := by
  refine q_CtV mvX3_worth (Nat.le_of_ble_eq_true rfl) ?_
  refine xe_iconst dX3_worth_0 kc_0 ?_
  refine xe_istore_n (i := 2) dX3_worth_1 rfl (by decide) rfl ?_
  refine xe_iload_n dX3_worth_2 rfl ?_
  refine xe_istore_n (i := 3) dX3_worth_3 rfl (by decide) rfl ?_
  refine xe_iload_n dX3_worth_4 rfl ?_
  refine xe_istore dX3_worth_5 (by decide) rfl ?_
  refine xe_fin (L' := [(0, .ref 10), (2, .int (nI 0)), (3, .int (nI ad)), (4, .int (nI ad))]) (h' := q_wI h 21 (q_I h 21)) ?_ (And.intro rfl (And.intro rfl (And.intro rfl (And.intro rfl trivial)))) (q_wsI h 21).symm
  exact w_law10 hs hn hn2 e r ad ad _ hc (Nat.le_refl _) (fun S => ⟨rfl, S, rfl⟩)
theorem c_X3_see10 (l : Launch) (g : q_GP) (h : q_H) (hs : q_Stat h) {nc w : Nat} (hc : q_I h 10 5 = nI nc) (hc2 : nc ≤ 12) (hw2 : w < 2 ^ 22) (a b c k : Int32) : q_Cd l g 0 mX3_see [.ref 10, .int a, .int b, .int (nI w), .int c, .int k] h none (q_wI h 20 (q_v6 (q_I h 20) a b (nI w) (q_wind (q_I h 15) (12 * 0) nc w) c k)) := by
  refine q_CdV mvX3_see (Nat.le_of_ble_eq_true rfl) ?_
  refine xe_aload_n dX3_see_0 rfl ?_
  refine xe_getP dX3_see_1 flX3_41 (st10 hs) (by decide) rfl (sp10_14 hs) ?_
  refine xe_iconst dX3_see_4 kc_0 ?_
  refine xe_iload_n dX3_see_5 rfl ?_
  refine xn_iast dX3_see_6 (st20 hs) (by omega) (by decide) ?_
  refine xe_aload_n dX3_see_7 rfl ?_
  refine xe_getP dX3_see_8 flX3_41 (st10 hs) (by decide) rfl (sp10_14 hs) ?_
  refine xe_iconst dX3_see_11 kc_1 ?_
  refine xe_iload_n dX3_see_12 rfl ?_
  refine xn_iast dX3_see_13 (st20 hs) (by omega) (by decide) ?_
  refine xe_aload_n dX3_see_14 rfl ?_
  refine xe_getP dX3_see_15 flX3_41 (st10 hs) (by decide) rfl (sp10_14 hs) ?_
  refine xe_iconst dX3_see_18 kc_2 ?_
  refine xe_iload_n dX3_see_19 rfl ?_
  refine xn_iast dX3_see_20 (st20 hs) (by omega) (by decide) ?_
  refine xe_aload_n dX3_see_21 rfl ?_
  refine xe_getP dX3_see_22 flX3_41 (st10 hs) (by decide) rfl (sp10_14 hs) ?_
  refine xe_iconst dX3_see_25 kc_3 ?_
  refine xe_aload_n dX3_see_26 rfl ?_
  refine xe_getIv dX3_see_27 flX3_57 (st10 hs) (by decide) rfl (v := nI nc) (hc) ?_
  refine xn_if_le (tgt := 47) dX3_see_30 rfl (by omega) (fun c1 => ?_) (fun c1 => ?_)
  · refine xe_iconst dX3_see_47 kc_0 ?_
    refine xn_iast dX3_see_48 (st20 hs) (by omega) (by decide) ?_
    refine xe_aload_n dX3_see_49 rfl ?_
    refine xe_getP dX3_see_50 flX3_41 (st10 hs) (by decide) rfl (sp10_14 hs) ?_
    refine xe_iconst dX3_see_53 kc_4 ?_
    refine xe_iload dX3_see_54 rfl ?_
    refine xn_iast dX3_see_56 (st20 hs) (by omega) (by decide) ?_
    refine xe_aload_n dX3_see_57 rfl ?_
    refine xe_getP dX3_see_58 flX3_41 (st10 hs) (by decide) rfl (sp10_14 hs) ?_
    refine xe_iconst dX3_see_61 kc_5 ?_
    refine xe_iload dX3_see_62 rfl ?_
    refine xn_iast dX3_see_64 (st20 hs) (by omega) (by decide) ?_
    refine xe_return dX3_see_65 rfl ?_
    exact ⟨rfl, q_heq [20] (H := h) (by repeat (first | exact q_out_r | refine q_out_w rfl ?_)) (by repeat (first | exact q_out_r | refine q_out_w rfl ?_)) (And.intro (by show upd (upd (upd (upd (upd (upd (q_I h 20) 0 a) 1 b) 2 (nI w)) 3 _) 4 c) 5 k = q_v6 _ _ _ _ _ _ _; unfold q_v6 q_wind; rw [if_pos c1]) trivial)⟩
  · have c9 : w % nc < nc := Nat.mod_lt _ (by omega)
    refine xe_aload_n dX3_see_33 rfl ?_
    refine xe_getP dX3_see_34 flX3_26 (st10 hs) (by decide) rfl (sp10_9 hs) ?_
    refine xe_iload_n dX3_see_37 rfl ?_
    refine xe_aload_n dX3_see_38 rfl ?_
    refine xe_getIv dX3_see_39 flX3_57 (st10 hs) (by decide) rfl (v := nI nc) (hc) ?_
    refine xn_irem dX3_see_42 (by omega) (by omega) (by omega) ?_
    refine xn_ialdv dX3_see_43 (st15 hs) (by omega) (by decide) (v := ((q_I h 15) (w % nc))) (rfl) ?_
    refine xe_goto (tgt := 48) dX3_see_44 rfl ?_
    refine xn_iast dX3_see_48 (st20 hs) (by omega) (by decide) ?_
    refine xe_aload_n dX3_see_49 rfl ?_
    refine xe_getP dX3_see_50 flX3_41 (st10 hs) (by decide) rfl (sp10_14 hs) ?_
    refine xe_iconst dX3_see_53 kc_4 ?_
    refine xe_iload dX3_see_54 rfl ?_
    refine xn_iast dX3_see_56 (st20 hs) (by omega) (by decide) ?_
    refine xe_aload_n dX3_see_57 rfl ?_
    refine xe_getP dX3_see_58 flX3_41 (st10 hs) (by decide) rfl (sp10_14 hs) ?_
    refine xe_iconst dX3_see_61 kc_5 ?_
    refine xe_iload dX3_see_62 rfl ?_
    refine xn_iast dX3_see_64 (st20 hs) (by omega) (by decide) ?_
    refine xe_return dX3_see_65 rfl ?_
    exact ⟨rfl, q_heq [20] (H := h) (by repeat (first | exact q_out_r | refine q_out_w rfl ?_)) (by repeat (first | exact q_out_r | refine q_out_w rfl ?_)) (And.intro (by show upd (upd (upd (upd (upd (upd (q_I h 20) 0 a) 1 b) 2 (nI w)) 3 _) 4 c) 5 k = q_v6 _ _ _ _ _ _ _; unfold q_v6 q_wind; rw [if_neg (by omega), Nat.mul_zero, Nat.zero_add]) trivial)⟩
theorem c_X3_worth22 (l : Launch) (g : q_GP) (h : q_H) (hs : q_Stat h) {n : Nat} (hn : q_I h 22 2 = nI n) (hn2 : n ≤ 416) (r : List (List (Nat × Int32) × List (Nat × Int32) × List (Nat × Int32))) (e : List (Nat × Int32)) (ad : Nat) (hc : q_cd (q_I h 23) (q_I h 24) n ad r e) : q_Ct l g 1 mX3_worth [.ref 22, .int (nI ad)] h (fun v h1 => v = some (.int ((q_law (q_I h 32) r e).getD (nI 0))) ∧ ∃ S, h1 = q_wI h 33 S) := by
  refine q_CtV mvX3_worth (Nat.le_of_ble_eq_true rfl) ?_
  refine xe_iconst dX3_worth_0 kc_0 ?_
  refine xe_istore_n (i := 2) dX3_worth_1 rfl (by decide) rfl ?_
  refine xe_iload_n dX3_worth_2 rfl ?_
  refine xe_istore_n (i := 3) dX3_worth_3 rfl (by decide) rfl ?_
  refine xe_iload_n dX3_worth_4 rfl ?_
  refine xe_istore dX3_worth_5 (by decide) rfl ?_
  refine xe_fin (L' := [(0, .ref 22), (2, .int (nI 0)), (3, .int (nI ad)), (4, .int (nI ad))]) (h' := q_wI h 33 (q_I h 33)) ?_ (And.intro rfl (And.intro rfl (And.intro rfl (And.intro rfl trivial)))) (q_wsI h 33).symm
  exact w_law22 hs hn hn2 e r ad ad _ hc (Nat.le_refl _) (fun S => ⟨rfl, S, rfl⟩)
theorem c_X3_see22 (l : Launch) (g : q_GP) (h : q_H) (hs : q_Stat h) {nc w : Nat} (hc : q_I h 22 5 = nI nc) (hc2 : nc ≤ 12) (hw2 : w < 2 ^ 22) (a b c k : Int32) : q_Cd l g 0 mX3_see [.ref 22, .int a, .int b, .int (nI w), .int c, .int k] h none (q_wI h 32 (q_v6 (q_I h 32) a b (nI w) (q_wind (q_I h 27) (12 * 0) nc w) c k)) := by
  refine q_CdV mvX3_see (Nat.le_of_ble_eq_true rfl) ?_
  refine xe_aload_n dX3_see_0 rfl ?_
  refine xe_getP dX3_see_1 flX3_41 (st22 hs) (by decide) rfl (sp22_14 hs) ?_
  refine xe_iconst dX3_see_4 kc_0 ?_
  refine xe_iload_n dX3_see_5 rfl ?_
  refine xn_iast dX3_see_6 (st32 hs) (by omega) (by decide) ?_
  refine xe_aload_n dX3_see_7 rfl ?_
  refine xe_getP dX3_see_8 flX3_41 (st22 hs) (by decide) rfl (sp22_14 hs) ?_
  refine xe_iconst dX3_see_11 kc_1 ?_
  refine xe_iload_n dX3_see_12 rfl ?_
  refine xn_iast dX3_see_13 (st32 hs) (by omega) (by decide) ?_
  refine xe_aload_n dX3_see_14 rfl ?_
  refine xe_getP dX3_see_15 flX3_41 (st22 hs) (by decide) rfl (sp22_14 hs) ?_
  refine xe_iconst dX3_see_18 kc_2 ?_
  refine xe_iload_n dX3_see_19 rfl ?_
  refine xn_iast dX3_see_20 (st32 hs) (by omega) (by decide) ?_
  refine xe_aload_n dX3_see_21 rfl ?_
  refine xe_getP dX3_see_22 flX3_41 (st22 hs) (by decide) rfl (sp22_14 hs) ?_
  refine xe_iconst dX3_see_25 kc_3 ?_
  refine xe_aload_n dX3_see_26 rfl ?_
  refine xe_getIv dX3_see_27 flX3_57 (st22 hs) (by decide) rfl (v := nI nc) (hc) ?_
  refine xn_if_le (tgt := 47) dX3_see_30 rfl (by omega) (fun c1 => ?_) (fun c1 => ?_)
  · refine xe_iconst dX3_see_47 kc_0 ?_
    refine xn_iast dX3_see_48 (st32 hs) (by omega) (by decide) ?_
    refine xe_aload_n dX3_see_49 rfl ?_
    refine xe_getP dX3_see_50 flX3_41 (st22 hs) (by decide) rfl (sp22_14 hs) ?_
    refine xe_iconst dX3_see_53 kc_4 ?_
    refine xe_iload dX3_see_54 rfl ?_
    refine xn_iast dX3_see_56 (st32 hs) (by omega) (by decide) ?_
    refine xe_aload_n dX3_see_57 rfl ?_
    refine xe_getP dX3_see_58 flX3_41 (st22 hs) (by decide) rfl (sp22_14 hs) ?_
    refine xe_iconst dX3_see_61 kc_5 ?_
    refine xe_iload dX3_see_62 rfl ?_
    refine xn_iast dX3_see_64 (st32 hs) (by omega) (by decide) ?_
    refine xe_return dX3_see_65 rfl ?_
    exact ⟨rfl, q_heq [32] (H := h) (by repeat (first | exact q_out_r | refine q_out_w rfl ?_)) (by repeat (first | exact q_out_r | refine q_out_w rfl ?_)) (And.intro (by show upd (upd (upd (upd (upd (upd (q_I h 32) 0 a) 1 b) 2 (nI w)) 3 _) 4 c) 5 k = q_v6 _ _ _ _ _ _ _; unfold q_v6 q_wind; rw [if_pos c1]) trivial)⟩
  · have c9 : w % nc < nc := Nat.mod_lt _ (by omega)
    refine xe_aload_n dX3_see_33 rfl ?_
    refine xe_getP dX3_see_34 flX3_26 (st22 hs) (by decide) rfl (sp22_9 hs) ?_
    refine xe_iload_n dX3_see_37 rfl ?_
    refine xe_aload_n dX3_see_38 rfl ?_
    refine xe_getIv dX3_see_39 flX3_57 (st22 hs) (by decide) rfl (v := nI nc) (hc) ?_
    refine xn_irem dX3_see_42 (by omega) (by omega) (by omega) ?_
    refine xn_ialdv dX3_see_43 (st27 hs) (by omega) (by decide) (v := ((q_I h 27) (w % nc))) (rfl) ?_
    refine xe_goto (tgt := 48) dX3_see_44 rfl ?_
    refine xn_iast dX3_see_48 (st32 hs) (by omega) (by decide) ?_
    refine xe_aload_n dX3_see_49 rfl ?_
    refine xe_getP dX3_see_50 flX3_41 (st22 hs) (by decide) rfl (sp22_14 hs) ?_
    refine xe_iconst dX3_see_53 kc_4 ?_
    refine xe_iload dX3_see_54 rfl ?_
    refine xn_iast dX3_see_56 (st32 hs) (by omega) (by decide) ?_
    refine xe_aload_n dX3_see_57 rfl ?_
    refine xe_getP dX3_see_58 flX3_41 (st22 hs) (by decide) rfl (sp22_14 hs) ?_
    refine xe_iconst dX3_see_61 kc_5 ?_
    refine xe_iload dX3_see_62 rfl ?_
    refine xn_iast dX3_see_64 (st32 hs) (by omega) (by decide) ?_
    refine xe_return dX3_see_65 rfl ?_
    exact ⟨rfl, q_heq [32] (H := h) (by repeat (first | exact q_out_r | refine q_out_w rfl ?_)) (by repeat (first | exact q_out_r | refine q_out_w rfl ?_)) (And.intro (by show upd (upd (upd (upd (upd (upd (q_I h 32) 0 a) 1 b) 2 (nI w)) 3 _) 4 c) 5 k = q_v6 _ _ _ _ _ _ _; unfold q_v6 q_wind; rw [if_neg (by omega), Nat.mul_zero, Nat.zero_add]) trivial)⟩
