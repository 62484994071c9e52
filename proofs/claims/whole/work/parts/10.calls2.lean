/-! contracts with one answer, and walks over their calls by the kind of the answer -/
def q_Cd (l : Launch) (g : q_GP) (d : Nat) (y : q_MI) (as : List Value) (h : q_H) (r : Option Value) (h' : q_H) : Prop := q_Ct l g d y as h (fun r1 h1 => r1 = r ∧ h1 = h')
theorem q_mmax : Cond.static Lib.Math.max.name ∈ q_tab ∧ Cond.initialized "java/lang/Math" ∈ q_tab ∧ Cond.code Lib.Math.max.name Lib.Math.max.code 2 (some .int) ∈ q_tab := ⟨q_at t3_41.1 rfl, q_at t1_16.1 rfl, q_at t3_42.1 rfl⟩
theorem q_mmin : Cond.static Lib.Math.min.name ∈ q_tab ∧ Cond.initialized "java/lang/Math" ∈ q_tab ∧ Cond.code Lib.Math.min.name Lib.Math.min.code 2 (some .int) ∈ q_tab := ⟨q_at t3_44.1 rfl, q_at t1_16.1 rfl, q_at t3_45.1 rfl⟩
section QCC
variable {l : Launch} {g : q_GP} {d : Nat} {y : q_MI} {pc : Nat} {L : List (Nat × Value)} {S : List Value} {h : q_H} {Q : Option Value → q_H → Prop}
theorem q_CdV {as : List Value} {n : Nat} {r : Option Value} {h' : q_H} (hm : q_MV y n) (hl : (lg_sl as).length ≤ y.2.2.1) (K : q_Ex l g d y 0 (lv_args 0 as) [] h (fun r1 h1 => r1 = r ∧ h1 = h')) : q_Cd l g d y as h r h' := q_Ct_of hm.2.2.2.2.2 hl K
theorem q_CdS {as : List Value} {n : Nat} {r : Option Value} {h' : q_H} (hm : q_MS y n) (hl : (lg_sl as).length ≤ y.2.2.1) (K : q_Ex l g d y 0 (lv_args 0 as) [] h (fun r1 h1 => r1 = r ∧ h1 = h')) : q_Cd l g d y as h r h' := q_Ct_of hm.2.2.2.2 hl K
theorem q_CdN {as : List Value} {n : Nat} {r : Option Value} {h' : q_H} (hm : q_MN y n) (hl : (lg_sl as).length ≤ y.2.2.1) (K : q_Ex l g d y 0 (lv_args 0 as) [] h (fun r1 h1 => r1 = r ∧ h1 = h')) : q_Cd l g d y as h r h' := q_Ct_of hm.2.2.2.2.2 hl K
theorem q_CtV {as : List Value} {n : Nat} (hm : q_MV y n) (hl : (lg_sl as).length ≤ y.2.2.1) (K : q_Ex l g d y 0 (lv_args 0 as) [] h Q) : q_Ct l g d y as h Q := q_Ct_of hm.2.2.2.2.2 hl K
theorem q_CtS {as : List Value} {n : Nat} (hm : q_MS y n) (hl : (lg_sl as).length ≤ y.2.2.1) (K : q_Ex l g d y 0 (lv_args 0 as) [] h Q) : q_Ct l g d y as h Q := q_Ct_of hm.2.2.2.2 hl K
theorem xe_callVI {d' idx n b ci nb : Nat} {y' : q_MI} {as rest : List Value} {v : Int32} {h1 : q_H} (hd : decode y.2.1 pc = .ok (.invokevirtual idx, 3)) (hl : Cond.methodLink y.1.cls idx y'.1 ∈ q_tab) (hm : q_MV y' n) (hn : as.length = n) (hs : q_Sh h b ci nb) (hci : ci < 100) (hcc : (vwCl[ci]?).map (fun q => q.1) = some y'.1.cls) (hdd : d' + 1 ≤ d) (hmx : y'.2.2.1 ≤ 45) (hst : (rest.map fun v => v.category).sum ≤ 8)
    (C : q_Cd l g d' y' (.ref b :: as) h (some (.int v)) h1) (hSt : S = as.reverse ++ .ref b :: rest) (K : q_Ex l g d y (pc + 3) L (.int v :: rest) h1 Q) : q_Ex l g d y pc L S h Q :=
  xe_callV hd hl hm hn hs hci hcc hdd hmx hst C hSt (fun r h2 q => by
    obtain ⟨rfl, rfl⟩ := q
    exact K)
theorem xe_callVIn {d' idx n b ci nb : Nat} {y' : q_MI} {as rest : List Value} {P : Int32 → q_H → Prop} (hd : decode y.2.1 pc = .ok (.invokevirtual idx, 3)) (hl : Cond.methodLink y.1.cls idx y'.1 ∈ q_tab) (hm : q_MV y' n) (hn : as.length = n) (hs : q_Sh h b ci nb) (hci : ci < 100) (hcc : (vwCl[ci]?).map (fun q => q.1) = some y'.1.cls) (hdd : d' + 1 ≤ d) (hmx : y'.2.2.1 ≤ 45) (hst : (rest.map fun v => v.category).sum ≤ 8)
    (C : q_Ct l g d' y' (.ref b :: as) h (fun r h1 => ∃ v : Int32, r = some (.int v) ∧ P v h1)) (hSt : S = as.reverse ++ .ref b :: rest) (K : ∀ v h1, P v h1 → q_Ex l g d y (pc + 3) L (.int v :: rest) h1 Q) : q_Ex l g d y pc L S h Q :=
  xe_callV hd hl hm hn hs hci hcc hdd hmx hst C hSt (fun r h2 q => by
    obtain ⟨v, rfl, q⟩ := q
    exact K v h2 q)
theorem xe_callVJ {d' idx n b ci nb : Nat} {y' : q_MI} {as rest : List Value} {v : Int64} {h1 : q_H} (hd : decode y.2.1 pc = .ok (.invokevirtual idx, 3)) (hl : Cond.methodLink y.1.cls idx y'.1 ∈ q_tab) (hm : q_MV y' n) (hn : as.length = n) (hs : q_Sh h b ci nb) (hci : ci < 100) (hcc : (vwCl[ci]?).map (fun q => q.1) = some y'.1.cls) (hdd : d' + 1 ≤ d) (hmx : y'.2.2.1 ≤ 45) (hst : (rest.map fun v => v.category).sum ≤ 8)
    (C : q_Cd l g d' y' (.ref b :: as) h (some (.long v)) h1) (hSt : S = as.reverse ++ .ref b :: rest) (K : q_Ex l g d y (pc + 3) L (.long v :: rest) h1 Q) : q_Ex l g d y pc L S h Q :=
  xe_callV hd hl hm hn hs hci hcc hdd hmx hst C hSt (fun r h2 q => by
    obtain ⟨rfl, rfl⟩ := q
    exact K)
theorem xe_callVJn {d' idx n b ci nb : Nat} {y' : q_MI} {as rest : List Value} {P : Int64 → q_H → Prop} (hd : decode y.2.1 pc = .ok (.invokevirtual idx, 3)) (hl : Cond.methodLink y.1.cls idx y'.1 ∈ q_tab) (hm : q_MV y' n) (hn : as.length = n) (hs : q_Sh h b ci nb) (hci : ci < 100) (hcc : (vwCl[ci]?).map (fun q => q.1) = some y'.1.cls) (hdd : d' + 1 ≤ d) (hmx : y'.2.2.1 ≤ 45) (hst : (rest.map fun v => v.category).sum ≤ 8)
    (C : q_Ct l g d' y' (.ref b :: as) h (fun r h1 => ∃ v : Int64, r = some (.long v) ∧ P v h1)) (hSt : S = as.reverse ++ .ref b :: rest) (K : ∀ v h1, P v h1 → q_Ex l g d y (pc + 3) L (.long v :: rest) h1 Q) : q_Ex l g d y pc L S h Q :=
  xe_callV hd hl hm hn hs hci hcc hdd hmx hst C hSt (fun r h2 q => by
    obtain ⟨v, rfl, q⟩ := q
    exact K v h2 q)
theorem xe_callVR {d' idx n b ci nb : Nat} {y' : q_MI} {as rest : List Value} {v : Nat} {h1 : q_H} (hd : decode y.2.1 pc = .ok (.invokevirtual idx, 3)) (hl : Cond.methodLink y.1.cls idx y'.1 ∈ q_tab) (hm : q_MV y' n) (hn : as.length = n) (hs : q_Sh h b ci nb) (hci : ci < 100) (hcc : (vwCl[ci]?).map (fun q => q.1) = some y'.1.cls) (hdd : d' + 1 ≤ d) (hmx : y'.2.2.1 ≤ 45) (hst : (rest.map fun v => v.category).sum ≤ 8)
    (C : q_Cd l g d' y' (.ref b :: as) h (some (.ref v)) h1) (hSt : S = as.reverse ++ .ref b :: rest) (K : q_Ex l g d y (pc + 3) L (.ref v :: rest) h1 Q) : q_Ex l g d y pc L S h Q :=
  xe_callV hd hl hm hn hs hci hcc hdd hmx hst C hSt (fun r h2 q => by
    obtain ⟨rfl, rfl⟩ := q
    exact K)
theorem xe_callVRn {d' idx n b ci nb : Nat} {y' : q_MI} {as rest : List Value} {P : Nat → q_H → Prop} (hd : decode y.2.1 pc = .ok (.invokevirtual idx, 3)) (hl : Cond.methodLink y.1.cls idx y'.1 ∈ q_tab) (hm : q_MV y' n) (hn : as.length = n) (hs : q_Sh h b ci nb) (hci : ci < 100) (hcc : (vwCl[ci]?).map (fun q => q.1) = some y'.1.cls) (hdd : d' + 1 ≤ d) (hmx : y'.2.2.1 ≤ 45) (hst : (rest.map fun v => v.category).sum ≤ 8)
    (C : q_Ct l g d' y' (.ref b :: as) h (fun r h1 => ∃ v : Nat, r = some (.ref v) ∧ P v h1)) (hSt : S = as.reverse ++ .ref b :: rest) (K : ∀ v h1, P v h1 → q_Ex l g d y (pc + 3) L (.ref v :: rest) h1 Q) : q_Ex l g d y pc L S h Q :=
  xe_callV hd hl hm hn hs hci hcc hdd hmx hst C hSt (fun r h2 q => by
    obtain ⟨v, rfl, q⟩ := q
    exact K v h2 q)
theorem xe_callVV {d' idx n b ci nb : Nat} {y' : q_MI} {as rest : List Value} {h1 : q_H} (hd : decode y.2.1 pc = .ok (.invokevirtual idx, 3)) (hl : Cond.methodLink y.1.cls idx y'.1 ∈ q_tab) (hm : q_MV y' n) (hn : as.length = n) (hs : q_Sh h b ci nb) (hci : ci < 100) (hcc : (vwCl[ci]?).map (fun q => q.1) = some y'.1.cls) (hdd : d' + 1 ≤ d) (hmx : y'.2.2.1 ≤ 45) (hst : (rest.map fun v => v.category).sum ≤ 8)
    (C : q_Cd l g d' y' (.ref b :: as) h (none) h1) (hSt : S = as.reverse ++ .ref b :: rest) (K : q_Ex l g d y (pc + 3) L (rest) h1 Q) : q_Ex l g d y pc L S h Q :=
  xe_callV hd hl hm hn hs hci hcc hdd hmx hst C hSt (fun r h2 q => by
    obtain ⟨rfl, rfl⟩ := q
    exact K)
theorem xe_callVVn {d' idx n b ci nb : Nat} {y' : q_MI} {as rest : List Value} {P : q_H → Prop} (hd : decode y.2.1 pc = .ok (.invokevirtual idx, 3)) (hl : Cond.methodLink y.1.cls idx y'.1 ∈ q_tab) (hm : q_MV y' n) (hn : as.length = n) (hs : q_Sh h b ci nb) (hci : ci < 100) (hcc : (vwCl[ci]?).map (fun q => q.1) = some y'.1.cls) (hdd : d' + 1 ≤ d) (hmx : y'.2.2.1 ≤ 45) (hst : (rest.map fun v => v.category).sum ≤ 8)
    (C : q_Ct l g d' y' (.ref b :: as) h (fun r h1 => r = none ∧ P h1)) (hSt : S = as.reverse ++ .ref b :: rest) (K : ∀ h1, P h1 → q_Ex l g d y (pc + 3) L (rest) h1 Q) : q_Ex l g d y pc L S h Q :=
  xe_callV hd hl hm hn hs hci hcc hdd hmx hst C hSt (fun r h2 q => by
    obtain ⟨rfl, q⟩ := q
    exact K h2 q)
theorem xe_callSI {d' idx n : Nat} {y' : q_MI} {as rest : List Value} {v : Int32} {h1 : q_H} (hd : decode y.2.1 pc = .ok (.invokestatic idx, 3)) (hl : Cond.methodLink y.1.cls idx y'.1 ∈ q_tab) (hm : q_MS y' n) (hn : as.length = n) (hdd : d' + 1 ≤ d) (hmx : y'.2.2.1 ≤ 45) (hst : (rest.map fun v => v.category).sum ≤ 8)
    (C : q_Cd l g d' y' as h (some (.int v)) h1) (hSt : S = as.reverse ++ rest) (K : q_Ex l g d y (pc + 3) L (.int v :: rest) h1 Q) : q_Ex l g d y pc L S h Q :=
  xe_callS hd hl hm hn hdd hmx hst C hSt (fun r h2 q => by
    obtain ⟨rfl, rfl⟩ := q
    exact K)
theorem xe_callSIn {d' idx n : Nat} {y' : q_MI} {as rest : List Value} {P : Int32 → q_H → Prop} (hd : decode y.2.1 pc = .ok (.invokestatic idx, 3)) (hl : Cond.methodLink y.1.cls idx y'.1 ∈ q_tab) (hm : q_MS y' n) (hn : as.length = n) (hdd : d' + 1 ≤ d) (hmx : y'.2.2.1 ≤ 45) (hst : (rest.map fun v => v.category).sum ≤ 8)
    (C : q_Ct l g d' y' as h (fun r h1 => ∃ v : Int32, r = some (.int v) ∧ P v h1)) (hSt : S = as.reverse ++ rest) (K : ∀ v h1, P v h1 → q_Ex l g d y (pc + 3) L (.int v :: rest) h1 Q) : q_Ex l g d y pc L S h Q :=
  xe_callS hd hl hm hn hdd hmx hst C hSt (fun r h2 q => by
    obtain ⟨v, rfl, q⟩ := q
    exact K v h2 q)
theorem xe_callSJ {d' idx n : Nat} {y' : q_MI} {as rest : List Value} {v : Int64} {h1 : q_H} (hd : decode y.2.1 pc = .ok (.invokestatic idx, 3)) (hl : Cond.methodLink y.1.cls idx y'.1 ∈ q_tab) (hm : q_MS y' n) (hn : as.length = n) (hdd : d' + 1 ≤ d) (hmx : y'.2.2.1 ≤ 45) (hst : (rest.map fun v => v.category).sum ≤ 8)
    (C : q_Cd l g d' y' as h (some (.long v)) h1) (hSt : S = as.reverse ++ rest) (K : q_Ex l g d y (pc + 3) L (.long v :: rest) h1 Q) : q_Ex l g d y pc L S h Q :=
  xe_callS hd hl hm hn hdd hmx hst C hSt (fun r h2 q => by
    obtain ⟨rfl, rfl⟩ := q
    exact K)
theorem xe_callSJn {d' idx n : Nat} {y' : q_MI} {as rest : List Value} {P : Int64 → q_H → Prop} (hd : decode y.2.1 pc = .ok (.invokestatic idx, 3)) (hl : Cond.methodLink y.1.cls idx y'.1 ∈ q_tab) (hm : q_MS y' n) (hn : as.length = n) (hdd : d' + 1 ≤ d) (hmx : y'.2.2.1 ≤ 45) (hst : (rest.map fun v => v.category).sum ≤ 8)
    (C : q_Ct l g d' y' as h (fun r h1 => ∃ v : Int64, r = some (.long v) ∧ P v h1)) (hSt : S = as.reverse ++ rest) (K : ∀ v h1, P v h1 → q_Ex l g d y (pc + 3) L (.long v :: rest) h1 Q) : q_Ex l g d y pc L S h Q :=
  xe_callS hd hl hm hn hdd hmx hst C hSt (fun r h2 q => by
    obtain ⟨v, rfl, q⟩ := q
    exact K v h2 q)
theorem xe_callSR {d' idx n : Nat} {y' : q_MI} {as rest : List Value} {v : Nat} {h1 : q_H} (hd : decode y.2.1 pc = .ok (.invokestatic idx, 3)) (hl : Cond.methodLink y.1.cls idx y'.1 ∈ q_tab) (hm : q_MS y' n) (hn : as.length = n) (hdd : d' + 1 ≤ d) (hmx : y'.2.2.1 ≤ 45) (hst : (rest.map fun v => v.category).sum ≤ 8)
    (C : q_Cd l g d' y' as h (some (.ref v)) h1) (hSt : S = as.reverse ++ rest) (K : q_Ex l g d y (pc + 3) L (.ref v :: rest) h1 Q) : q_Ex l g d y pc L S h Q :=
  xe_callS hd hl hm hn hdd hmx hst C hSt (fun r h2 q => by
    obtain ⟨rfl, rfl⟩ := q
    exact K)
theorem xe_callSRn {d' idx n : Nat} {y' : q_MI} {as rest : List Value} {P : Nat → q_H → Prop} (hd : decode y.2.1 pc = .ok (.invokestatic idx, 3)) (hl : Cond.methodLink y.1.cls idx y'.1 ∈ q_tab) (hm : q_MS y' n) (hn : as.length = n) (hdd : d' + 1 ≤ d) (hmx : y'.2.2.1 ≤ 45) (hst : (rest.map fun v => v.category).sum ≤ 8)
    (C : q_Ct l g d' y' as h (fun r h1 => ∃ v : Nat, r = some (.ref v) ∧ P v h1)) (hSt : S = as.reverse ++ rest) (K : ∀ v h1, P v h1 → q_Ex l g d y (pc + 3) L (.ref v :: rest) h1 Q) : q_Ex l g d y pc L S h Q :=
  xe_callS hd hl hm hn hdd hmx hst C hSt (fun r h2 q => by
    obtain ⟨v, rfl, q⟩ := q
    exact K v h2 q)
theorem xe_callSV {d' idx n : Nat} {y' : q_MI} {as rest : List Value} {h1 : q_H} (hd : decode y.2.1 pc = .ok (.invokestatic idx, 3)) (hl : Cond.methodLink y.1.cls idx y'.1 ∈ q_tab) (hm : q_MS y' n) (hn : as.length = n) (hdd : d' + 1 ≤ d) (hmx : y'.2.2.1 ≤ 45) (hst : (rest.map fun v => v.category).sum ≤ 8)
    (C : q_Cd l g d' y' as h (none) h1) (hSt : S = as.reverse ++ rest) (K : q_Ex l g d y (pc + 3) L (rest) h1 Q) : q_Ex l g d y pc L S h Q :=
  xe_callS hd hl hm hn hdd hmx hst C hSt (fun r h2 q => by
    obtain ⟨rfl, rfl⟩ := q
    exact K)
theorem xe_callSVn {d' idx n : Nat} {y' : q_MI} {as rest : List Value} {P : q_H → Prop} (hd : decode y.2.1 pc = .ok (.invokestatic idx, 3)) (hl : Cond.methodLink y.1.cls idx y'.1 ∈ q_tab) (hm : q_MS y' n) (hn : as.length = n) (hdd : d' + 1 ≤ d) (hmx : y'.2.2.1 ≤ 45) (hst : (rest.map fun v => v.category).sum ≤ 8)
    (C : q_Ct l g d' y' as h (fun r h1 => r = none ∧ P h1)) (hSt : S = as.reverse ++ rest) (K : ∀ h1, P h1 → q_Ex l g d y (pc + 3) L (rest) h1 Q) : q_Ex l g d y pc L S h Q :=
  xe_callS hd hl hm hn hdd hmx hst C hSt (fun r h2 q => by
    obtain ⟨rfl, q⟩ := q
    exact K h2 q)
end QCC
