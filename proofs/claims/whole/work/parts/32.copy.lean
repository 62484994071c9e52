/-! arraycopy of whole rows of ints; refs out of rows -/
theorem q_acs : Cond.native arraycopyName ∈ q_tab ∧ Cond.static arraycopyName ∈ q_tab ∧ Cond.initialized "java/lang/System" ∈ q_tab := ⟨q_at t4_70.1 rfl, q_at t4_69.1 rfl, q_at t1_18.1 rfl⟩
theorem q_Ine {h : q_H} {r r' : Nat} {f : Nat → Int32} (hr : r' ≠ r) : q_I (q_wI h r f) r' = q_I h r' := if_neg hr
section QAC
variable {l : Launch} {g : q_GP} {d : Nat} {y : q_MI} {pc : Nat} {L : List (Nat × Value)} {S : List Value} {h : q_H} {Q : Option Value → q_H → Prop}
theorem xe_copy {idx r r' n0 n1 k : Nat} (hd : decode y.2.1 pc = .ok (.invokestatic idx, 3)) (hl : Cond.methodLink y.1.cls idx arraycopyName ∈ q_tab) (hs0 : q_Sh h r' 100 n0) (hs1 : q_Sh h r 100 n1) (hk0 : k ≤ n0) (hk1 : k ≤ n1) (hkb : k < 2 ^ 31) (hdd : 1 ≤ d) (hst : (S.map fun v => v.category).sum ≤ 8) (K : q_Ex l g d y (pc + 3) L S (q_wI h r (q_cpy (q_I h r') (q_I h r) k)) Q) : q_Ex l g d y pc L (.int (nI k) :: .int (nI 0) :: .ref r :: .int (nI 0) :: .ref r' :: S) h Q := by
  obtain ⟨rv, h', q, n1', k1', G⟩ := K
  refine ⟨rv, h', q, n1', k1', fun p e R s m args below meth c H locs ls cells slots M hL hW hS hc hkk => ?_⟩
  have M0 := M
  obtain ⟨hx, hb, hret, hml, hown, hts, hlocks, hnm, hfr, hlo, hK, hX, hG, hB⟩ := M
  have he0 := q_ws_at (g := g) hs0.1
  have he1 := q_ws_at (g := g) hs1.1
  rw [q_ent_i hs0 (by decide) (by decide)] at he0
  rw [q_ent_i hs1 (by decide) (by decide)] at he1
  show W p l e R s m args below meth c H locs cells slots _ (F0 m pc ls (.int (nI k) :: .int (nI 0) :: .ref (q_ad g r) :: .int (nI 0) :: .ref (q_ad g r') :: S.map (q_cv g)))
  rw [q_ad_sh hW hs0, q_ad_sh hW hs1]
  intro T hT X
  have c0 := hW.2.2 r' _ he0
  have c1 := hW.2.2 r _ he1
  have A0 := (hK.2 0 _ rfl).1 n0 (fun j => .int (q_I h r' j))
  have A1 := (hK.2 0 _ rfl).1 n1 (fun j => .int (q_I h r j))
  obtain ⟨-, kA, hkA, cmA, hkkA⟩ := A0
  obtain ⟨-, kB, hkB, cmB, hkkB⟩ := A1
  have z0 : ((nI 0).toNatClampNeg : Nat) = 0 := nI_clamp (by decide)
  have zk : (nI k).toNatClampNeg = k := nI_clamp hkb
  have i0 : (nI 0).toInt = 0 := nI_toInt (by decide)
  have ik : (nI k).toInt = k := nI_toInt hkb
  have nz : ¬ nI 0 < 0 := by decide
  have nk : ¬ nI k < 0 := nI_pos hkb
  have hlo2 : 64 ≤ R.locals := by omega
  have hnf : nativeFrameWords "java/lang/System" "arraycopy" 5 ≤ 40 := by decide +kernel
  have ef : ∀ i, i < k → (vp_cell (q_C g 100) (n0, .inl (q_I h r'))).slots.getD (0 + i) .null = .int (q_I h r' (0 + i)) := fun i hi => by
    show (arrV (q_C g 100) n0 (fun j => .int (q_I h r' j))).slots.getD _ _ = _
    rw [Array.getD_eq_getD_getElem?, arrV_read _ _ (by omega)]
    rfl
  obtain ⟨vm', X', step⟩ := X.arraycopy hx hown (hts _ hl) (hts _ q_acs.1) (hts _ q_acs.2.1) (hts _ q_acs.2.2) (src := q_B g + r') (dst := q_B g + r) (cs := vp_cell (q_C g 100) (n0, .inl (q_I h r'))) (cd := vp_cell (q_C g 100) (n1, .inl (q_I h r))) (srcPos := nI 0) (destPos := nI 0) (n := nI k) (by rw [hT]; exact c0) (by rw [hT]; exact c1)
    (fun _ h => by cases h) (fun _ h => by cases h) (fun h => by cases h) (fun h => by cases h) hkA hkB hkkA hkkB (by simp [refKind]) nz nz nk
    (by rw [i0, ik]; show ¬ _ > ((arrV (q_C g 100) n0 (fun j => .int (q_I h r' j))).slots.size : Int); rw [arrV_size]; omega)
    (by rw [i0, ik]; show ¬ _ > ((arrV (q_C g 100) n1 (fun j => .int (q_I h r j))).slots.size : Int); rw [arrV_size]; omega)
    (fun vm₁ _ i hi => by
      rw [zk] at hi
      rw [z0, ef i hi]
      exact ⟨rfl, trivial⟩)
    (g := F0 m pc ls (.int (nI k) :: .int (nI 0) :: .ref (q_B g + r) :: .int (nI 0) :: .ref (q_B g + r') :: S.map (q_cv g))) rfl (by rw [hml]; exact hL.1) (rest := S.map (q_cv g)) rfl (by rw [hb]; exact hd) (by omega) (by rw [q_cat_sum]; show 2 * 0 + _ + _ ≤ _; omega)
  have e1 : copied (vp_cell (q_C g 100) (n0, .inl (q_I h r'))) (vp_cell (q_C g 100) (n1, .inl (q_I h r))) (nI 0) (nI 0) (nI k) = vp_cell (q_C g 100) (n1, .inl (q_cpy (q_I h r') (q_I h r) k)) := by
    refine (va_copied (fun z => .int z) (q_C g 100) (q_C g 100) (q_I h r') (q_I h r) (by rw [z0, zk]; omega)).trans ?_
    rw [z0, zk]
    rw [vp_cell_i]
    show arrV (q_C g 100) n1 _ = arrV (q_C g 100) n1 _
    congr 1
    funext j
    show Value.int (va_cpy _ _ 0 0 k j) = .int (q_cpy _ _ k j)
    unfold va_cpy q_cpy
    by_cases hj : j < k
    · rw [if_pos hj, if_pos ⟨Nat.zero_le _, by omega⟩, Nat.sub_zero, Nat.zero_add]
    · rw [if_neg hj, if_neg (by omega)]
  rw [e1] at X' step
  have hl2 : q_B g + r < H.size := (Array.getElem?_eq_some_iff.mp c1).1
  have hheap : ((T.setVm vm').setCell (q_B g + r) (vp_cell (q_C g 100) (n1, .inl (q_cpy (q_I h r') (q_I h r) k)))).heap = H.setIfInBounds (q_B g + r) (vp_cell (q_C g 100) (n1, .inl (q_cpy (q_I h r') (q_I h r) k))) := by rw [← hT]; rfl
  have oq : ∀ q : Nat, q ≠ q_B g + r → (H.setIfInBounds (q_B g + r) (vp_cell (q_C g 100) (n1, .inl (q_cpy (q_I h r') (q_I h r) k))))[q]? = H[q]? := fun q hq => by simp [Array.getElem?_setIfInBounds, Ne.symm hq]
  have z1 : (H.setIfInBounds (q_B g + r) (vp_cell (q_C g 100) (n1, .inl (q_cpy (q_I h r') (q_I h r) k)))).size = H.size := by simp
  have hS1 : ∀ L1 : List Loc, (∀ x ∈ L1, q_A g x.base) → va_S (q_A g) s.heap (H.setIfInBounds (q_B g + r) (vp_cell (q_C g 100) (n1, .inl (q_cpy (q_I h r') (q_I h r) k)))) (locs ++ L1) := fun L1 hL1 => by
    refine ⟨by rw [z1]; exact hS.1, fun q g1 g2 => ?_, fun q hq => ?_⟩
    · rw [oq q (fun e => g2 (by rw [e]; exact Nat.le_add_right _ _))]
      exact hS.2.1 q g1 g2
    · rcases List.mem_append.mp hq with h | h
      · exact hS.2.2 q h
      · exact hL1 q h
  obtain ⟨t, a1, b1⟩ := G p e R s m args below meth c _ _ ls cells slots M0 hL (q_WH_set (s := s) (locs1 := locs) (e := .inl (q_C g 100, n1, .inl (q_cpy (q_I h r') (q_I h r) k))) hW z1 rfl hs1.1 ((q_ent_i (h := q_wI h r (q_cpy (q_I h r') (q_I h r) k)) (show q_Sh (q_wI h r (q_cpy (q_I h r') (q_I h r) k)) r 100 n1 from hs1) (by decide) (by decide)).trans (by rw [q_Iw])) (fun k hk => q_wI_ne hk) (hW.2.2.set (q_ws_D g h) he1 (show (H.setIfInBounds (q_B g + r) (vp_cell (q_C g 100) (n1, .inl (q_cpy (q_I h r') (q_I h r) k))))[q_B g + r]? = some (vp_cell (q_C g 100) (n1, .inl (q_cpy (q_I h r') (q_I h r) k))) by rw [Array.getElem?_setIfInBounds, if_pos rfl, if_pos hl2]) oq)) (hS1 _ (fun x hx => by
      obtain ⟨z, -, hz⟩ := List.mem_map.mp hx
      rw [← hz]
      exact Nat.le_add_right _ _)) hc hkk _ hheap X'
  exact ⟨t, step t a1, b1⟩
end QAC
