/-! calls: contracts out of walks, and walks over calls -/
abbrev q_MD (y : MethodName) (n : Nat) : Prop := y.cls ≠ "java/lang/invoke/MethodHandle" ∧ y.cls ≠ "java/lang/invoke/VarHandle" ∧ (parseMethodDescriptor y.desc).map (fun d => d.parameters.length) = some n
def q_MV (y : q_MI) (n : Nat) : Prop := Cond.code y.1 y.2.1 y.2.2.1 y.2.2.2 ∈ q_tab ∧ Cond.instanceMethod y.1 ∈ q_tab ∧ Cond.selects y.1.cls y.1 y.1 ∈ q_tab ∧ Cond.initialized y.1.cls ∈ q_tab ∧ q_MD y.1 n ∧ plainName y.1.cls = true
def q_MS (y : q_MI) (n : Nat) : Prop := Cond.code y.1 y.2.1 y.2.2.1 y.2.2.2 ∈ q_tab ∧ Cond.static y.1 ∈ q_tab ∧ Cond.initialized y.1.cls ∈ q_tab ∧ q_MD y.1 n ∧ plainName y.1.cls = true
def q_MN (y : q_MI) (n : Nat) : Prop := Cond.code y.1 y.2.1 y.2.2.1 y.2.2.2 ∈ q_tab ∧ Cond.instanceMethod y.1 ∈ q_tab ∧ Cond.initialized y.1.cls ∈ q_tab ∧ y.1.name = "<init>" ∧ q_MD y.1 n ∧ plainName y.1.cls = true
section QC
variable {l : Launch} {g : q_GP} {d : Nat} {y : q_MI} {pc : Nat} {L : List (Nat × Value)} {S : List Value} {h : q_H} {Q : Option Value → q_H → Prop}
theorem q_Ct_of {as : List Value} (hp : plainName y.1.cls = true) (hl : (lg_sl as).length ≤ y.2.2.1) (K : q_Ex l g d y 0 (lv_args 0 as) [] h Q) : q_Ct l g d y as h Q := by
  obtain ⟨r, h', q, n1, k1, G⟩ := K
  refine ⟨r, h', q, n1, k1, ?_⟩
  refine Met.ofW (cc := y.2.1) (maxL := y.2.2.1) (ret := y.2.2.2) (ws' := q_tab) hp rfl ?_
  intro p e s m args below meth c s₁ B hml hv
  obtain ⟨rfl, hWH, hK, hX, hG⟩ := hv
  have hts := atoms_spec (ws := q_wy y) B.pre
  have hl2 := lv_entry (as.map (q_cv g)) (n := y.2.2.1) (by rw [q_sl_map]; exact hl)
  rw [lg_entry_eq]
  have hsz : q_B g ≤ s.heap.size := by
    have := hWH.1
    omega
  have G' := G p e (q_Rm d (q_N h' - q_N h) (q_K h' - q_K h)) s m _ below meth c s.heap [] _ 0 0 ⟨B.exec, B.bytes, B.returns, hml, findClass_of_methodNamed B.named, fun w hw => hts w (List.mem_cons_of_mem _ hw), B.notSynchronized, (name_of_methodNamed B.named B.method).1, Nat.le_refl _, Nat.le_refl _, hK, hX, hG, hsz⟩ ⟨hl2.1, hl2.2.1, fun i v hi => hl2.2.2 _ (q_args_map g as 0 i v hi)⟩ hWH va_S.rf (by rw [Nat.zero_add]; exact Nat.le_refl _) (by rw [Nat.zero_add]; exact Nat.le_refl _)
  rw [Nat.zero_add, Nat.zero_add] at G'
  exact G'
theorem q_blind {as : List Value} : FrameBlind (va_Pc (as.map (q_cv g)) (fun U => q_WH g h U.heap ∧ va_K (q_D g) vwCl (q_tys g) U ∧ q_X g U ∧ q_GOK g)) :=
  fun a U f mk q => ⟨q.1, q.2.1, va_K.moved (u := U) (U := U.calling f mk a) (Vm.Alike.refl U.vm) q.2.2.1, q.2.2.2.2.1 U f mk a q.2.2.2.1, q.2.2.2.2⟩
theorem q_pre {p : Program} {R : Room} {s : State} {m : MethodId} {args : Array Value} {meth : Method} {c : Code} {H : Heap} {locs : List Loc} (M : q_MC g d y p R s m args meth c) (hW : q_WH g h H) (hS : va_S (q_A g) s.heap H locs) (U : State) (hU : U.heap = H) (hWm : s.WarmedH U.vm) : q_WH g h U.heap ∧ va_K (q_D g) vwCl (q_tys g) U ∧ q_X g U ∧ q_GOK g := by
  obtain ⟨hx, hb, hret, hml, hown, hts, hlocks, hnm, hfr, hlo, hK, hX, hG, hB⟩ := M
  refine ⟨by rw [hU]; exact hW, va_K.moved hWm.alike hK, hG.2 s U hX hWm (fun q hq => ?_), hG⟩
  rw [hU]
  exact hS.2.1 q (Nat.lt_of_lt_of_le hq hB) (Nat.not_le.mpr hq)
theorem q_after {r1 r : Option Value} {h1 h' : q_H} {rest st0 : List Value} {p : Program} {e : Env} {R : Room} {s : State} {m : MethodId} {args a : Array Value} {below : List Frame} {meth : Method} {c : Code} {H : Heap} {locs : List Loc} {ls : Array Slot} {cells slots : Nat}
    (hr : va_Run p l e R s m args below meth c H locs cells slots (q_N h1 - q_N h) (q_K h1 - q_K h) (F0 m pc ls st0) (rest.map (q_cv g)) (q_QR g r1 h1 a) (q_A g)) (n1 : q_N h ≤ q_N h1) (n2 : q_N h1 ≤ q_N h') (k1 : q_K h ≤ q_K h1) (k2 : q_K h1 ≤ q_K h')
    (G : q_Go l g d y r h' (pc + 3) L (r1.toList ++ rest) h1) (M : q_MC g d y p R s m args meth c) (hL : q_lv g y.2.2.1 L ls) (hS : va_S (q_A g) s.heap H locs) (hc : cells + (q_N h' - q_N h) ≤ R.cells) (hkk : slots + (q_K h' - q_K h) ≤ R.slots) :
    W p l e R s m args below meth c H locs cells slots (MQ below (q_QR g r h') args s (cells + (q_N h' - q_N h)) (slots + (q_K h' - q_K h)) (q_A g)) (F0 m pc ls st0) := by
  intro T hT X
  obtain ⟨v, st₀, t, T', L', h0, X', hL', e1, e2, ⟨hv, hWt, hz, hk⟩, st⟩ := hr T hT X
  cases hv
  rw [h0] at hz hk
  have G' := G p e R s m args below meth c T'.heap (locs ++ L') ls (cells + (q_N h1 - q_N h)) (slots + (q_K h1 - q_K h)) M hL (by rw [e1]; exact hWt)
    ⟨Nat.le_trans hS.1 (by rw [e1]; exact hz), fun q h1 h2 => by rw [e1, hk q (Nat.lt_of_lt_of_le h1 hS.1) h2]; exact hS.2.1 q h1 h2, fun q hq => by
      rcases List.mem_append.mp hq with h | h
      · exact hS.2.2 q h
      · exact hL' q h⟩ (by omega) (by omega)
  rw [show cells + (q_N h1 - q_N h) + (q_N h' - q_N h1) = cells + (q_N h' - q_N h) by omega, show slots + (q_K h1 - q_K h) + (q_K h' - q_K h1) = slots + (q_K h' - q_K h) by omega] at G'
  obtain ⟨t2, a1, b1⟩ := G' T' rfl X'
  refine ⟨t2, st t2 ?_, b1⟩
  have es : (r1.map (q_cv g)).toList ++ rest.map (q_cv g) = (r1.toList ++ rest).map (q_cv g) := by
    cases r1 <;> rfl
  rw [es]
  exact a1
theorem q_cat_sum (rest : List Value) : ((rest.map (q_cv g)).map fun v => v.category).sum = (rest.map fun v => v.category).sum := by
  rw [List.map_map]
  congr 1
  apply List.map_congr_left
  intro v _
  exact q_cv_cat g v
theorem xe_callV {d' idx n b ci nb : Nat} {y' : q_MI} {as rest : List Value} {Q1 : Option Value → q_H → Prop} (hd : decode y.2.1 pc = .ok (.invokevirtual idx, 3)) (hl : Cond.methodLink y.1.cls idx y'.1 ∈ q_tab) (hm : q_MV y' n) (hn : as.length = n) (hs : q_Sh h b ci nb) (hci : ci < 100) (hcc : (vwCl[ci]?).map (fun q => q.1) = some y'.1.cls) (hdd : d' + 1 ≤ d) (hmx : y'.2.2.1 ≤ 45) (hst : (rest.map fun v => v.category).sum ≤ 8)
    (C : q_Ct l g d' y' (.ref b :: as) h Q1) (hSt : S = as.reverse ++ .ref b :: rest) (K : ∀ r h1, Q1 r h1 → q_Ex l g d y (pc + 3) L (r.toList ++ rest) h1 Q) : q_Ex l g d y pc L S h Q := by
  obtain ⟨r1, h1, q1, n1, k1, M1⟩ := C
  obtain ⟨r, h', q2, n2, k2, G⟩ := K r1 h1 q1
  refine ⟨r, h', q2, Nat.le_trans n1 n2, Nat.le_trans k1 k2, fun p e R s m args below meth c H locs ls cells slots M hL hW hS hc hkk => ?_⟩
  have M0 := M
  obtain ⟨hx, hb, hret, hml, hown, hts, hlocks, hnm, hfr, hlo, hK, hX, hG, hB⟩ := M
  obtain ⟨m1, m2, m3, m4, m5, m6⟩ := hm
  have hGI : GoodIn q_tab (wsV y.1.cls idx y'.1.cls y'.1 (q_wy y')) := fun w hw => by
    have : w ∈ q_tab := by
      unfold wsV q_wy at hw
      rcases List.mem_append.mp hw with hw | hw
      · rcases List.mem_cons.mp hw with rfl | hw
        · exact hl
        rcases List.mem_cons.mp hw with rfl | hw
        · exact m2
        rcases List.mem_cons.mp hw with rfl | hw
        · exact m3
        rcases List.mem_cons.mp hw with rfl | hw
        · exact m4
        · exact absurd hw List.not_mem_nil
      · rcases List.mem_cons.mp hw with rfl | hw
        · exact m1
        · exact hw
    exact ⟨this, q_law_in this⟩
  have he := q_ws_at (g := g) hs.1
  rw [q_ent_o (by rw [hs.2.1]; exact hci), hs.2.1, ← q_ad_sh hW hs] at he
  obtain ⟨qc, hqc, hqn⟩ := Option.map_eq_some_iff.mp hcc
  have hrv := va_recv hK hW.2.2 hqc he
  rw [hqn] at hrv
  subst hSt
  have hstk : (as.reverse ++ Value.ref b :: rest).map (q_cv g) = (as.map (q_cv g)).reverse ++ .ref (q_ad g b) :: rest.map (q_cv g) := by
    rw [List.map_append, List.map_reverse]
    rfl
  rw [hstk]
  refine q_after (va_runV (C := y'.1.cls) (As := as.map (q_cv g)) (rest := rest.map (q_cv g)) ⟨hx, hb, hml, hown, hts⟩ M1 (cwV n hts hGI rfl rfl rfl ⟨rfl, m5⟩ ⟨by show d' + 1 ≤ _; omega, by show 8 + (_ + 11) + 64 * d' ≤ _; omega⟩) ⟨q_blind (as := .ref b :: as), hrv, fun U hU hWm => ⟨rfl, q_pre M0 hW hS U hU hWm⟩⟩ rfl (by rw [List.length_map]; exact hn) hL.1 rfl (lv_room (by rw [q_cat_sum]; exact hst)) hd ⟨by omega, by omega⟩) n1 n2 k1 k2 G M0 hL hS hc hkk
theorem xe_callS {d' idx n : Nat} {y' : q_MI} {as rest : List Value} {Q1 : Option Value → q_H → Prop} (hd : decode y.2.1 pc = .ok (.invokestatic idx, 3)) (hl : Cond.methodLink y.1.cls idx y'.1 ∈ q_tab) (hm : q_MS y' n) (hn : as.length = n) (hdd : d' + 1 ≤ d) (hmx : y'.2.2.1 ≤ 45) (hst : (rest.map fun v => v.category).sum ≤ 8)
    (C : q_Ct l g d' y' as h Q1) (hSt : S = as.reverse ++ rest) (K : ∀ r h1, Q1 r h1 → q_Ex l g d y (pc + 3) L (r.toList ++ rest) h1 Q) : q_Ex l g d y pc L S h Q := by
  obtain ⟨r1, h1, q1, n1, k1, M1⟩ := C
  obtain ⟨r, h', q2, n2, k2, G⟩ := K r1 h1 q1
  refine ⟨r, h', q2, Nat.le_trans n1 n2, Nat.le_trans k1 k2, fun p e R s m args below meth c H locs ls cells slots M hL hW hS hc hkk => ?_⟩
  have M0 := M
  obtain ⟨hx, hb, hret, hml, hown, hts, hlocks, hnm, hfr, hlo, hK, hX, hG, hB⟩ := M
  obtain ⟨m1, m2, m4, m5, m6⟩ := hm
  have hGI : GoodIn q_tab (va_wsS y.1.cls idx y'.1 (q_wy y')) := fun w hw => by
    have : w ∈ q_tab := by
      unfold va_wsS q_wy at hw
      rcases List.mem_append.mp hw with hw | hw
      · rcases List.mem_cons.mp hw with rfl | hw
        · exact hl
        rcases List.mem_cons.mp hw with rfl | hw
        · exact m2
        rcases List.mem_cons.mp hw with rfl | hw
        · exact m4
        · exact absurd hw List.not_mem_nil
      · rcases List.mem_cons.mp hw with rfl | hw
        · exact m1
        · exact hw
    exact ⟨this, q_law_in this⟩
  subst hSt
  have hstk : (as.reverse ++ rest).map (q_cv g) = (as.map (q_cv g)).reverse ++ rest.map (q_cv g) := by
    rw [List.map_append, List.map_reverse]
  rw [hstk]
  refine q_after (va_runS (As := as.map (q_cv g)) (rest := rest.map (q_cv g)) ⟨hx, hb, hml, hown, hts⟩ M1 (va_cwS n hts hGI rfl rfl rfl m5 ⟨by show d' + 1 ≤ _; omega, by show 8 + (_ + 11) + 64 * d' ≤ _; omega⟩) ⟨q_blind (as := as), fun U hU hWm => ⟨rfl, q_pre M0 hW hS U hU hWm⟩⟩ rfl (by rw [List.length_map]; exact hn) hL.1 rfl (lv_room (by rw [q_cat_sum]; exact hst)) hd ⟨by omega, by omega⟩) n1 n2 k1 k2 G M0 hL hS hc hkk
/-- a contract's answer may be said with less -/
theorem q_Ct_post {as : List Value} {Q' : Option Value → q_H → Prop} (hq : ∀ r h', Q' r h' → Q r h') (C : q_Ct l g d y as h Q') : q_Ct l g d y as h Q := by
  obtain ⟨r, h', q, rest⟩ := C
  exact ⟨r, h', hq r h' q, rest⟩
theorem xe_max {idx : Nat} {x z : Int32} (hd : decode y.2.1 pc = .ok (.invokestatic idx, 3)) (hl : Cond.methodLink y.1.cls idx Lib.Math.max.name ∈ q_tab) (h1 : Cond.static Lib.Math.max.name ∈ q_tab ∧ Cond.initialized "java/lang/Math" ∈ q_tab ∧ Cond.code Lib.Math.max.name Lib.Math.max.code 2 (some .int) ∈ q_tab) (hdd : 1 ≤ d) (hst : (S.map fun v => v.category).sum ≤ 8) (K : q_Ex l g d y (pc + 3) L (.int (if x < z then z else x) :: S) h Q) : q_Ex l g d y pc L (.int z :: .int x :: S) h Q := by
  obtain ⟨rv, h', q, n1, k1, G⟩ := K
  refine ⟨rv, h', q, n1, k1, fun p e R s m args below meth c H locs ls cells slots M hL hW hS hc hkk => ?_⟩
  have M0 := M
  obtain ⟨hx, hb, hret, hml, hown, hts, hlocks, hnm, hfr, hlo, hK, hX, hG, hB⟩ := M
  exact va_mmax hx hb (hml.trans hL.1.symm) hown (hts _ hl) (hts _ h1.1) (hts _ h1.2.1) (hts _ h1.2.2) (by omega) (by rw [q_cat_sum]; omega) (by omega) (by omega) hd (G p e R s m args below meth c H locs ls cells slots M0 hL hW hS hc hkk)
theorem xe_min {idx : Nat} {x z : Int32} (hd : decode y.2.1 pc = .ok (.invokestatic idx, 3)) (hl : Cond.methodLink y.1.cls idx Lib.Math.min.name ∈ q_tab) (h1 : Cond.static Lib.Math.min.name ∈ q_tab ∧ Cond.initialized "java/lang/Math" ∈ q_tab ∧ Cond.code Lib.Math.min.name Lib.Math.min.code 2 (some .int) ∈ q_tab) (hdd : 1 ≤ d) (hst : (S.map fun v => v.category).sum ≤ 8) (K : q_Ex l g d y (pc + 3) L (.int (if z < x then z else x) :: S) h Q) : q_Ex l g d y pc L (.int z :: .int x :: S) h Q := by
  obtain ⟨rv, h', q, n1, k1, G⟩ := K
  refine ⟨rv, h', q, n1, k1, fun p e R s m args below meth c H locs ls cells slots M hL hW hS hc hkk => ?_⟩
  have M0 := M
  obtain ⟨hx, hb, hret, hml, hown, hts, hlocks, hnm, hfr, hlo, hK, hX, hG, hB⟩ := M
  exact va_mmin hx hb (hml.trans hL.1.symm) hown (hts _ hl) (hts _ h1.1) (hts _ h1.2.1) (hts _ h1.2.2) (by omega) (by rw [q_cat_sum]; omega) (by omega) (by omega) hd (G p e R s m args below meth c H locs ls cells slots M0 hL hW hS hc hkk)
end QC
