/-! cells of the world outside: text constants, statics, the script -/
def q_osl : List Nat := [85, 9]
def q_osb : List (List Int32) := [[109, 97, 110, 32, 100, 101, 101, 100, 32, 102, 105, 110, 101, 32, 103, 114, 111, 119, 32, 119, 97, 114, 109, 32, 118, 111, 116, 101, 32, 99, 111, 108, 100, 32, 109, 111, 117, 108, 116, 32, 105, 102, 32, 116, 104, 101, 110, 32, 101, 108, 115, 101, 32, 104, 97, 118, 101, 32, 116, 105, 109, 101, 115, 32, 119, 101, 101, 107, 32, 119, 105, 110, 100, 32, 99, 104, 101, 115, 116, 32, 114, 97, 110, 107, 32], [59, 61, 43, 45, 42, 47, 60, 40, 41]]
def q_tx0 : String := "man deed fine grow warm vote cold moult if then else have times week wind chest rank "
def q_tx1 : String := ";=+-*/<()"
/-- rows of rows of ints: their class's component is the class of rows of ints -/
def va_MZ (U : State) : Prop := ∃ (cA : ClassId) (kA : Class) (cC : ClassId), U.vm.findClass "[I" = some cC ∧ U.vm.classes[cA]? = some kA ∧ kA.kind = .array cC (.array .int) ∧ U.vm.findClass "[[I" = some cA
/-- what the states of the world have outside of its cells; b: the first of its cells -/
def q_XX (SA : Nat → Nat) (b L : Nat) (xs : Nat → Int32) (U : State) : Prop :=
  vk_S 2 q_osl q_osb (fun i => SA (2 * i)) (fun i => SA (2 * i + 1)) (fun q => b ≤ q) U U.heap ∧ vk_R RX7 29 q_tx0 (SA 0) U ∧ vk_R RX7 74 q_tx1 (SA 2) U ∧ va_Z RJ0 "COMPACT_STRINGS" "Z" (.int 1) (fun q => b ≤ q) U U.heap ∧
  va_Z RJ3 "SIOOBE_FORMATTER" "Ljava/util/function/BiFunction;" (if SA 6 = 0 then .null else .ref (SA 5)) (fun q => b ≤ q) U U.heap ∧ va_AO RX0 U ∧ va_AO RX6 U ∧ va_MZ U ∧
  (va_Nw (.methodLinkNest RX9 18 yX5_init RX9) U ∧ va_Nw (.methodLinkNest RX9 25 yX3_init RX9) U ∧ va_Nw (.methodLinkNest RX9 35 yX6_init RX9) U ∧ va_Nw (.methodLinkNest RX1 17 yX0_init RX9) U ∧ va_Nw (.methodLinkNest RX9 57 yX8_init RX9) U ∧ va_Nw (.methodLinkNest RX9 64 yX4_init RX9) U ∧ va_Nw (.methodLinkNest RX9 71 yX2_init RX9) U) ∧
  va_X (SA 4) L xs U U.heap ∧ SA 4 < b
def q_GX (g : q_GP) (L : Nat) (xs : Nat → Int32) : Prop := ∀ U, q_X g U → q_XX (q_SA g) (q_B g) L xs U
def q_o0 : Nat := 1000000000
theorem q_ad_o {g : q_GP} {i : Nat} : q_ad g (1000000000 + i) = q_SA g i := by
  unfold q_ad
  rw [if_neg (by omega), Nat.add_sub_cancel_left]
section QO
variable {l : Launch} {g : q_GP} {d : Nat} {y : q_MI} {pc : Nat} {L : List (Nat × Value)} {S : List Value} {h : q_H} {Q : Option Value → q_H → Prop} {N : Nat} {xs : Nat → Int32}
theorem xe_ldcO {idx i : Nat} {tx : String} (hd : decode y.2.1 pc = .ok (.ldc idx, 2)) (hZ : ∀ U, q_X g U → vk_R y.1.cls idx tx (q_SA g i) U) (K : q_Ex l g d y (pc + 2) L (.ref (1000000000 + i) :: S) h Q) : q_Ex l g d y pc L S h Q := by
  obtain ⟨rv, h', q, n1, k1, G⟩ := K
  refine ⟨rv, h', q, n1, k1, fun p e R s m args below meth c H locs ls cells slots M hL hW hS hc hkk => ?_⟩
  have M0 := M
  obtain ⟨hx, hb, hret, hml, hown, hts, hlocks, hnm, hfr, hlo, hK, hX, hG, hB⟩ := M
  have GG := G p e R s m args below meth c H locs ls cells slots M0 hL hW hS hc hkk
  rw [List.map_cons, show q_cv g (.ref (1000000000 + i)) = .ref (q_SA g i) from congrArg Value.ref q_ad_o] at GG
  exact va_ldcS hx hb hown (hZ s hX) hd GG
theorem xe_getO {idx i : Nat} {o n dd : String} {v : Value} (hd : decode y.2.1 pc = .ok (.getfield idx, 3)) (hl : Cond.fieldLink y.1.cls idx o n dd ∈ q_tab) (hZ : ∀ U, q_X g U → va_OF o n dd (q_cv g v) (q_SA g i) (q_A g) U U.heap) (K : q_Ex l g d y (pc + 3) L (v :: S) h Q) : q_Ex l g d y pc L (.ref (1000000000 + i) :: S) h Q := by
  obtain ⟨rv, h', q, n1, k1, G⟩ := K
  refine ⟨rv, h', q, n1, k1, fun p e R s m args below meth c H locs ls cells slots M hL hW hS hc hkk => ?_⟩
  have M0 := M
  obtain ⟨hx, hb, hret, hml, hown, hts, hlocks, hnm, hfr, hlo, hK, hX, hG, hB⟩ := M
  rw [List.map_cons, show q_cv g (.ref (1000000000 + i)) = .ref (q_SA g i) from congrArg Value.ref q_ad_o]
  exact vk_getf hx hb (hZ s hX) hS hown (hts _ hl) (fun x q => q) hd (G p e R s m args below meth c H locs ls cells slots M0 hL hW hS hc hkk)
theorem xe_baldO {i j n : Nat} {f : Nat → Int32} (hd : decode y.2.1 pc = .ok (.baload, 1)) (hZ : ∀ U, q_X g U → va_T .byte (q_SA g i) n (fun j => .int (f j)) (q_A g) U U.heap) (hj : j < n) (hn : n < 2 ^ 31) (K : q_Ex l g d y (pc + 1) L (.int (f j) :: S) h Q) : q_Ex l g d y pc L (.int (nI j) :: .ref (1000000000 + i) :: S) h Q := by
  obtain ⟨rv, h', q, n1, k1, G⟩ := K
  refine ⟨rv, h', q, n1, k1, fun p e R s m args below meth c H locs ls cells slots M hL hW hS hc hkk => ?_⟩
  have M0 := M
  obtain ⟨hx, hb, hret, hml, hown, hts, hlocks, hnm, hfr, hlo, hK, hX, hG, hB⟩ := M
  rw [List.map_cons, List.map_cons, show q_cv g (.ref (1000000000 + i)) = .ref (q_SA g i) from congrArg Value.ref q_ad_o]
  exact va_tb hx hb (hZ s hX) hS (i := nI j) (vp_in_nI hj hn) (v := .int (f j)) (by rw [nI_clamp (Nat.lt_trans hj hn)]) hd (G p e R s m args below meth c H locs ls cells slots M0 hL hW hS hc hkk)
theorem xe_alenO {i n : Nat} {ty : FieldType} {f : Nat → Value} (hd : decode y.2.1 pc = .ok (.arraylength, 1)) (hZ : ∀ U, q_X g U → va_T ty (q_SA g i) n f (q_A g) U U.heap) (K : q_Ex l g d y (pc + 1) L (.int (nI n) :: S) h Q) : q_Ex l g d y pc L (.ref (1000000000 + i) :: S) h Q := by
  obtain ⟨rv, h', q, n1, k1, G⟩ := K
  refine ⟨rv, h', q, n1, k1, fun p e R s m args below meth c H locs ls cells slots M hL hW hS hc hkk => ?_⟩
  have M0 := M
  obtain ⟨hx, hb, hret, hml, hown, hts, hlocks, hnm, hfr, hlo, hK, hX, hG, hB⟩ := M
  rw [List.map_cons, show q_cv g (.ref (1000000000 + i)) = .ref (q_SA g i) from congrArg Value.ref q_ad_o]
  exact va_tlen hx hb (hZ s hX) hS (v := nI n) rfl hd (G p e R s m args below meth c H locs ls cells slots M0 hL hW hS hc hkk)
theorem xe_getsO {idx : Nat} {o n dd : String} {v : Value} (hd : decode y.2.1 pc = .ok (.getstatic idx, 3)) (hl : Cond.fieldLink y.1.cls idx o n dd ∈ q_tab) (hZ : ∀ U, q_X g U → va_Z o n dd (q_cv g v) (q_A g) U U.heap) (K : q_Ex l g d y (pc + 3) L (v :: S) h Q) : q_Ex l g d y pc L S h Q := by
  obtain ⟨rv, h', q, n1, k1, G⟩ := K
  refine ⟨rv, h', q, n1, k1, fun p e R s m args below meth c H locs ls cells slots M hL hW hS hc hkk => ?_⟩
  have M0 := M
  obtain ⟨hx, hb, hret, hml, hown, hts, hlocks, hnm, hfr, hlo, hK, hX, hG, hB⟩ := M
  exact va_gets hx hb (hZ s hX) hS hown (hts _ hl) (fun x q => q) hd (G p e R s m args below meth c H locs ls cells slots M0 hL hW hS hc hkk)
theorem xe_callVO {d' idx n i : Nat} {y' : q_MI} {as rest : List Value} {Q1 : Option Value → q_H → Prop} (hd : decode y.2.1 pc = .ok (.invokevirtual idx, 3)) (hl : Cond.methodLink y.1.cls idx y'.1 ∈ q_tab) (hm : q_MV y' n) (hn : as.length = n) (hcc : y'.1.cls = "java/lang/String") (hX : q_GX g N xs) (hi : i < 2) (hdd : d' + 1 ≤ d) (hmx : y'.2.2.1 ≤ 45) (hst : (rest.map fun v => v.category).sum ≤ 8)
    (C : q_Ct l g d' y' (.ref (1000000000 + 2 * i) :: as) h Q1) (hSt : S = as.reverse ++ .ref (1000000000 + 2 * i) :: rest) (K : ∀ r h1, Q1 r h1 → q_Ex l g d y (pc + 3) L (r.toList ++ rest) h1 Q) : q_Ex l g d y pc L S h Q := by
  obtain ⟨r1, h1, q1, n1, k1, M1⟩ := C
  obtain ⟨r, h', q2, n2, k2, G⟩ := K r1 h1 q1
  refine ⟨r, h', q2, Nat.le_trans n1 n2, Nat.le_trans k1 k2, fun p e R s m args below meth c H locs ls cells slots M hL hW hS hc hkk => ?_⟩
  have M0 := M
  obtain ⟨hx, hb, hret, hml, hown, hts, hlocks, hnm, hfr, hlo, hK, hXs, hG, hB⟩ := M
  obtain ⟨m1, m2, m3, m4, m5, m6⟩ := hm
  have hGI : GoodIn q_tab (wsV y.1.cls idx y'.1.cls y'.1 (q_wy y')) := fun w hw => by
    have : w ∈ q_tab := by
      unfold wsV q_wy at hw
      rcases List.mem_append.mp hw with hw | hw
      · rcases List.mem_cons.mp hw with rfl | hw
        · exact hl
        rcases List.mem_cons.mp hw with rfl | hw
        · exact m2
        rcases List.mem_cons.mp hw with rfl | hw
        · exact m3
        rcases List.mem_cons.mp hw with rfl | hw
        · exact m4
        · exact absurd hw List.not_mem_nil
      · rcases List.mem_cons.mp hw with rfl | hw
        · exact m1
        · exact hw
    exact ⟨this, q_law_in this⟩
  have hrv := vk_recv (hX s hXs).1 hi hS
  rw [← hcc] at hrv
  subst hSt
  have hstk : (as.reverse ++ Value.ref (1000000000 + 2 * i) :: rest).map (q_cv g) = (as.map (q_cv g)).reverse ++ .ref (q_SA g (2 * i)) :: rest.map (q_cv g) := by
    rw [List.map_append, List.map_reverse, List.map_cons, show q_cv g (.ref (1000000000 + 2 * i)) = .ref (q_SA g (2 * i)) from congrArg Value.ref q_ad_o]
  rw [hstk]
  have hpre := q_pre M0 hW hS
  have hq := q_blind (g := g) (h := h) (as := .ref (1000000000 + 2 * i) :: as)
  have hcv : (Value.ref (1000000000 + 2 * i) :: as).map (q_cv g) = .ref (q_SA g (2 * i)) :: as.map (q_cv g) := by
    rw [List.map_cons, show q_cv g (.ref (1000000000 + 2 * i)) = .ref (q_SA g (2 * i)) from congrArg Value.ref q_ad_o]
  rw [hcv] at M1 hq
  refine q_after (va_runV (C := y'.1.cls) (As := as.map (q_cv g)) (rest := rest.map (q_cv g)) ⟨hx, hb, hml, hown, hts⟩ M1 (cwV n hts hGI rfl rfl rfl ⟨rfl, m5⟩ ⟨by show d' + 1 ≤ _; omega, by show 8 + (_ + 11) + 64 * d' ≤ _; omega⟩) ⟨hq, hrv, fun U hU hWm => ⟨rfl, hpre U hU hWm⟩⟩ rfl (by rw [List.length_map]; exact hn) hL.1 rfl (lv_room (by rw [q_cat_sum]; exact hst)) hd ⟨by omega, by omega⟩) n1 n2 k1 k2 G M0 hL hS hc hkk
end QO
