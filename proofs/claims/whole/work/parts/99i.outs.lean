/-! where the law begins: the world outside -/
def tp_tm (i : Nat) : Term := if i = 0 then .string RX7 29 else .string RX7 74
theorem q_GOK_of {b L : Nat} {SA : Nat → Nat} {xs : Nat → Int32} {D : va_G} {C : Nat → ClassId} : q_GOK (b, D, C, SA, q_XX SA b L xs) := by
  refine ⟨fun U f mk a h => ?_, fun s U h hW hq => ?_⟩
  · have hvm : U.vm.Alike (U.calling f mk a).vm := Vm.Alike.refl U.vm
    obtain ⟨x1, x2, x3, x4, x5, x6, x7, x8, ⟨n1, n2, n3, n4, n5, n6, n7⟩, x10, x11⟩ := h
    exact ⟨vk_S.moved (u := U) hvm x1, vk_R.same (u := U) rfl x2, vk_R.same (u := U) rfl x3, va_Z.moved (u := U) hvm x4, va_Z.moved (u := U) hvm x5, va_AO.moved (u := U) hvm x6, va_AO.moved (u := U) hvm x7, va_MZ.moved (u := U) hvm x8,
      ⟨va_Nw.same (u := U) rfl rfl n1, va_Nw.same (u := U) rfl rfl n2, va_Nw.same (u := U) rfl rfl n3, va_Nw.same (u := U) rfl rfl n4, va_Nw.same (u := U) rfl rfl n5, va_Nw.same (u := U) rfl rfl n6, va_Nw.same (u := U) rfl rfl n7⟩, va_X.moved (u := U) hvm x10, x11⟩
  · have hvm := hW.alike
    have hk : ∀ a : Nat, a < s.heap.size → ¬ b ≤ a → U.heap[a]? = s.heap[a]? := fun a _ h2 => hq a (Nat.not_le.mp h2)
    obtain ⟨x1, x2, x3, x4, x5, x6, x7, x8, ⟨n1, n2, n3, n4, n5, n6, n7⟩, x10, x11⟩ := h
    exact ⟨(vk_S.moved hvm x1).kept hk, vk_R.warm hW x2, vk_R.warm hW x3, (va_Z.moved hvm x4).kept hk, (va_Z.moved hvm x5).kept hk, va_AO.moved hvm x6, va_AO.moved hvm x7, va_MZ.moved hvm x8,
      ⟨va_Nw.warmM hW n1, va_Nw.warmM hW n2, va_Nw.warmM hW n3, va_Nw.warmM hW n4, va_Nw.warmM hW n5, va_Nw.warmM hW n6, va_Nw.warmM hW n7⟩, (va_X.moved hvm x10).kept (hq _ x11), x11⟩
theorem arr_of {s : State} {args : Array Value} {ty : FieldType} (hr : ∀ C, ty ≠ .object C) (h : (Cond.arrayClass ty).before args s = true) : ∃ cA : ClassId, ArrOfT s cA ty ∧ va_RA s cA ty := by
  obtain ⟨c, k, comp, h1, h2, h3⟩ := Cond.arrayClass_spec h
  refine ⟨c, fun n z => ⟨(fun k h => by cases h), k, h2, comp, h3⟩, ?_⟩
  cases ty with
  | object C => exact absurd rfl (hr C)
  | _ => exact h1
theorem arr_ofO {s : State} {args : Array Value} {C : String} (h : (Cond.arrayOver (.object C)).before args s = true) : ∃ cA : ClassId, ArrOfT s cA (.object C) ∧ va_RA s cA (.object C) := by
  obtain ⟨comp, c, k, h1, h2, h3, h4, h5⟩ := Cond.arrayOver_spec h
  exact ⟨c, fun n z => ⟨(fun k h => by cases h), k, h3, comp, h4⟩, k, comp, h3, h4, h1, h5⟩
theorem arr_ofA {s : State} {args : Array Value} (h : (Cond.arrayOver (.array .int)).before args s = true) : (∃ cA : ClassId, ArrOfT s cA (.array .int) ∧ va_RA s cA (.array .int)) ∧ va_MZ s := by
  have h : (Cond.arrayOver (.array .int)).holds args s none s [] = true := h
  simp only [Cond.holds, Cond.value, beq_iff_eq] at h
  cases hc : s.vm.findClass (FieldType.array FieldType.int).toString with
  | none => simp [hc] at h
  | some comp =>
    simp only [hc, Option.bind_some, Option.bind_eq_some_iff, Option.map_eq_some_iff] at h
    obtain ⟨c, hi, k, hk, hb⟩ := h
    obtain ⟨hlt, hp, -⟩ := Array.findIdx?_eq_some_iff_getElem.mp hi
    have hkk : s.vm.classes[c] = k := (Array.getElem?_eq_some_iff.mp hk).2
    rw [hkk] at hp
    cases hkind : k.kind with
    | array component ty =>
      rw [hkind] at hb hp
      simp at hb hp
      have hK : k.kind = .array comp (.array .int) := by rw [hkind, hp, hb.1]
      exact ⟨⟨c, fun n z => ⟨(fun k h => by cases h), k, hk, comp, hK⟩, hb.2⟩, ⟨c, k, comp, hc, hk, hK, hb.2⟩⟩
    | _ => rw [hkind] at hb; simp at hb
theorem tp_el : ∀ j, j < 85 → (Cond.eq (.elem (.field (.string RX7 29) "java/lang/String" "value" "[B") (.int (Int32.ofNat j))) (.int (((q_osb.getD 0 []).getD j 0)))) ∈ flatC (Jvm.Cond.and given_1 narrow_1) := by decide +kernel
theorem tp_el2 : ∀ j, j < 9 → (Cond.eq (.elem (.field (.string RX7 74) "java/lang/String" "value" "[B") (.int (Int32.ofNat j))) (.int (((q_osb.getD 1 []).getD j 0)))) ∈ flatC (Jvm.Cond.and given_1 narrow_1) := by decide +kernel
theorem tp_S {args : Array Value} {s : State} (hs : ∀ c ∈ flatC (Jvm.Cond.and given_1 narrow_1), c.before args s = true) {A : Nat → Prop} (hA : ∀ a : Nat, a < s.heap.size → ¬ A a) : ∃ adK adV : Nat → Nat, vk_S 2 q_osl q_osb adK adV A s s.heap ∧ ∀ i : Nat, i < 2 → (tp_tm i).eval args s none [] s = some (.ref (adK i)) := by
  refine vk_Sof (tm := tp_tm) ?_ ?_ ?_ ?_ ?_ ?_ ?_ hA
  · intro i hi
    rcases (show i = 0 ∨ i = 1 by omega) with rfl | rfl <;> decide
  · intro i hi
    rcases (show i = 0 ∨ i = 1 by omega) with rfl | rfl <;> exact hs _ (by decide +kernel)
  · intro i hi
    rcases (show i = 0 ∨ i = 1 by omega) with rfl | rfl <;> exact hs _ (by decide +kernel)
  · intro i hi
    rcases (show i = 0 ∨ i = 1 by omega) with rfl | rfl <;> exact hs _ (by decide +kernel)
  · intro i hi
    rcases (show i = 0 ∨ i = 1 by omega) with rfl | rfl <;> exact hs _ (by decide +kernel)
  · intro i hi j hj
    rcases (show i = 0 ∨ i = 1 by omega) with rfl | rfl
    · exact hs _ (tp_el j hj)
    · exact hs _ (tp_el2 j hj)
  · intro i j hi hj hij
    rcases (show (i = 0 ∧ j = 1) ∨ (i = 1 ∧ j = 0) by omega) with ⟨rfl, rfl⟩ | ⟨rfl, rfl⟩
    · exact Or.inl (hs _ (by decide +kernel))
    · exact Or.inr (hs _ (by decide +kernel))
theorem hts_1 {w : Cond} (h : w ∈ q_tab) : w ∈ lw_tbl := (List.mem_filter.mp h).1
