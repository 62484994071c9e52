/-! the row of multianewarray over abstract heaps; calls of constructors -/
def mz_h (h : q_H) : q_H := (fun r' => if q_N h ≤ r' ∧ r' < q_N h + 10 then (fun _ => 0) else q_I h r', q_J h, fun r' => if r' = q_N h then (fun j => if j < 9 then some (q_N h + 1 + j) else none) else if q_N h ≤ r' ∧ r' < q_N h + 10 then (fun _ => none) else q_P h r', fun r' => if r' = q_N h then 106 else if q_N h ≤ r' ∧ r' < q_N h + 10 then 100 else q_T h r', fun r' => if r' = q_N h then 9 else if q_N h ≤ r' ∧ r' < q_N h + 10 then 401 else q_L h r', q_N h + 10, q_K h + 3618)
section
variable {l : Launch} {g : q_GP} {d : Nat} {y : q_MI} {pc : Nat} {L : List (Nat × Value)} {S : List Value} {h : q_H} {Q : Option Value → q_H → Prop}
theorem mz_ne {k : Nat} (hk : k < q_N h) : q_ent g (mz_h h) k = q_ent g h k := by
  have e0 : q_T (mz_h h) k = q_T h k := (if_neg (Nat.ne_of_lt hk)).trans (if_neg (by omega))
  have e1 : q_L (mz_h h) k = q_L h k := (if_neg (Nat.ne_of_lt hk)).trans (if_neg (by omega))
  have e2 : q_I (mz_h h) k = q_I h k := if_neg (by omega)
  have e3 : q_J (mz_h h) k = q_J h k := rfl
  have e4 : q_P (mz_h h) k = q_P h k := (if_neg (Nat.ne_of_lt hk)).trans (if_neg (by omega))
  unfold q_ent q_row
  have e5 : q_fld g (mz_h h) k = q_fld g h k := by
    funext j
    unfold q_fld
    rw [e0, e2, e4]
  rw [e0, e1, e2, e3, e4, e5]
theorem mz_sh0 : q_Sh (mz_h h) (q_N h) 106 9 := ⟨by show q_N h < q_N h + 10; omega, if_pos rfl, if_pos rfl⟩
theorem mz_shj {j : Nat} (hj : j < 9) : q_Sh (mz_h h) (q_N h + 1 + j) 100 401 := ⟨by show q_N h + 1 + j < q_N h + 10; omega, (if_neg (by omega)).trans (if_pos (by omega)), (if_neg (by omega)).trans (if_pos (by omega))⟩
theorem xe_mna {idx : Nat} (hd : decode y.2.1 pc = .ok (.multianewarray idx 2, 4)) (hcl : Cond.classLink y.1.cls idx "[[I" ∈ q_tab) (hmz : ∀ U, q_X g U → va_MZ U) (hN : q_N h + 10 < 1000000000) (K : q_Ex l g d y (pc + 4) L (.ref (q_N h) :: S) (mz_h h) Q) : q_Ex l g d y pc L (.int (nI 401) :: .int (nI 9) :: S) h Q := by
  obtain ⟨rv, h', q, n1, k1, G⟩ := K
  have n1' : q_N h + 10 ≤ q_N h' := n1
  have k1' : q_K h + 3618 ≤ q_K h' := k1
  refine ⟨rv, h', q, by omega, by omega, fun p e R s m args below meth c H locs ls cells slots M hL hW hS hc hkk => ?_⟩
  have M0 := M
  obtain ⟨hx, hb, hret, hml, hown, hts, hlocks, hnm, hfr, hlo, hK, hX, hG, hB⟩ := M
  have hcA : s.vm.findClass "[[I" = some (q_C g 106) := (hK.2 6 _ rfl).2
  have hcC : s.vm.findClass "[I" = some (q_C g 100) := (hK.2 0 _ rfl).2
  obtain ⟨-, kC, hkC, cc, hdC⟩ := (hK.2 0 _ rfl).1 0 (fun _ => .null)
  intro T hT X
  obtain ⟨vm₁, -, X1, step⟩ := mz_step X hx hown (hts _ hcl) (hmz _ hX) (cA := q_C g 106) (cC := q_C g 100) hcA hcC hkC hdC (g := F0 m pc ls (.int 401 :: .int 9 :: S.map (q_cv g))) rfl (by rw [hb]; exact hd) rfl (by omega) (by omega)
  have hT1 : (T.setVm vm₁).heap = H := hT
  obtain ⟨f1, f2, -, -⟩ := mz_f (T.setVm vm₁) (q_C g 106) (q_C g 100) 9
  have fo := fun x hx => mz_old (T.setVm vm₁) (q_C g 106) (q_C g 100) (x := x) hx 9
  have fi := fun j hj => mz_in (T.setVm vm₁) (q_C g 106) (q_C g 100) 9 j hj
  generalize hT2 : mz_S (T.setVm vm₁) (q_C g 106) (q_C g 100) 9 = T2 at X1 step f1 f2 fo fi
  rw [hT1] at f1 f2 fo fi
  rw [mz_o_v] at f2
  have hW1 : q_WH g (mz_h h) T2.heap := by
    refine ⟨?_, ?_, ?_⟩
    · rw [f1, hW.1]
      show q_B g + q_N h + 1 + 9 = q_B g + (q_N h + 10)
      omega
    · show q_N h + 10 ≤ _
      omega
    · intro k x hk
      obtain ⟨hk1, rfl⟩ := q_ws_inv hk
      have hk1 : k < q_N h + 10 := hk1
      rcases Nat.lt_or_ge k (q_N h) with z | z
      · rw [mz_ne z]
        have he := hW.2.2 k _ (q_ws_at z)
        have hlt : q_B g + k < H.size := by rw [hW.1]; omega
        revert he
        show va_at _ _ _ H → va_at _ _ _ T2.heap
        intro he
        have hP : va_P (q_D g) vwCl [(q_B g + k, q_ent g h k)] H := fun k0 x0 h0 => by
          have h00 : k0 < 1 := (List.getElem?_eq_some_iff.mp h0).1
          rw [show k0 = 0 by omega] at h0
          cases h0
          exact he
        exact (hP.kept (fun k0 x0 h0 => by
          have h00 : k0 < 1 := (List.getElem?_eq_some_iff.mp h0).1
          rw [show k0 = 0 by omega] at h0
          cases h0
          exact fo _ hlt)) 0 _ rfl
      · rcases Nat.lt_or_ge (q_N h) k with z2 | z2
        · obtain ⟨j, rfl⟩ : ∃ j, k = q_N h + 1 + j := ⟨k - q_N h - 1, by omega⟩
          have hj : j < 9 := by omega
          rw [q_ent_i (mz_shj hj) (by decide) (by decide), show q_I (mz_h h) (q_N h + 1 + j) = fun _ => 0 from if_pos (by omega)]
          show T2.heap[q_B g + (q_N h + 1 + j)]? = some (vp_cell _ _)
          rw [vp_cell_i, show q_B g + (q_N h + 1 + j) = H.size + 1 + j by rw [hW.1]; omega, fi j hj]
          unfold mz_i
          rw [arrV_new]
        · obtain rfl : k = q_N h := by omega
          rw [q_ent_p mz_sh0 (by decide), show q_P (mz_h h) (q_N h) = (fun j => if j < 9 then some (q_N h + 1 + j) else none) from if_pos rfl]
          show T2.heap[q_B g + q_N h]? = some (vp_cell _ _)
          rw [vp_cell_q, ← hW.1, f2]
          refine congrArg (fun f => some (arrV _ 9 f)) (funext fun j => ?_)
          by_cases hj : j < 9
          · dsimp only
            rw [if_pos hj, if_pos hj, Option.map_some]
            have : q_ad g (q_N h + 1 + j) = q_B g + (q_N h + 1 + j) := if_pos (by omega)
            rw [this, hW.1]
            exact congrArg (fun z => va_rf (some z)) (by omega)
          · dsimp only
            rw [if_neg hj, if_neg hj, Option.map_none]
  have hS1 : va_S (q_A g) s.heap T2.heap locs := ⟨Nat.le_trans hS.1 (by omega), fun x h1 h2 => (fo x (Nat.lt_of_lt_of_le h1 hS.1)).trans (hS.2.1 x h1 h2), hS.2.2⟩
  have hr : q_cv g (.ref (q_N h)) = .ref T.heap.size := by
    show Value.ref (q_ad g (q_N h)) = _
    rw [show q_ad g (q_N h) = q_B g + q_N h from if_pos (by omega), hT, hW.1]
  have GG := G p e R s m args below meth c T2.heap locs ls (cells + 10) (slots + 3618) M0 hL hW1 hS1 (by show cells + 10 + (q_N h' - (q_N h + 10)) ≤ _; omega) (by show slots + 3618 + (q_K h' - (q_K h + 3618)) ≤ _; omega)
  have eN : cells + 10 + (q_N h' - q_N (mz_h h)) = cells + (q_N h' - q_N h) := by show cells + 10 + (q_N h' - (q_N h + 10)) = _; omega
  have eK : slots + 3618 + (q_K h' - q_K (mz_h h)) = slots + (q_K h' - q_K h) := by show slots + 3618 + (q_K h' - (q_K h + 3618)) = _; omega
  rw [eN, eK, List.map_cons, hr] at GG
  obtain ⟨t, a1, b1⟩ := GG T2 rfl X1
  exact ⟨t, step t a1, b1⟩
end
theorem q_MK_of {y : q_MI} {n : Nat} (m : q_MN y n) (hr : y.2.2.2 = none) : q_MK y n := ⟨hr ▸ m.1, m.2.1, m.2.2.1, m.2.2.2.2.1, m.2.2.2.2.2, hr, m.2.2.2.1⟩
theorem hc_mna {I : Nat → Nat → Int32} {J : Nat → Nat → Int64} (hI : ∀ r, 101 ≤ r → r < 111 → I r = fun _ => 0) : mz_h (q_hc I J 101 99) = q_hc I J 111 108 := by
  have eI : (fun r' => if 101 ≤ r' ∧ r' < 101 + 10 then (fun _ => 0) else I r') = I := by
    funext r'
    by_cases q : 101 ≤ r' ∧ r' < 101 + 10
    · rw [if_pos q, hI r' q.1 q.2]
    · rw [if_neg q]
  have eP : (fun r' => if r' = 101 then (fun j => if j < 9 then some (101 + 1 + j) else none) else if 101 ≤ r' ∧ r' < 101 + 10 then (fun _ => none) else hc_p 99 r') = hc_p 108 := by
    funext r' k'
    unfold hc_p
    have et : q_PSl.take 108 = q_PSl.take 99 ++ (List.range 9).map (fun j => ((101, j), 101 + 1 + j)) := by decide +kernel
    rw [et, List.lookup_append]
    by_cases q : r' = 101
    · subst q
      rw [if_pos rfl, show (q_PSl.take 99).lookup (101, k') = none from hc_no_p (i := 101) (j := 99) (by decide +kernel) k', Option.none_or]
      by_cases q2 : k' < 9
      · rw [if_pos q2]
        have H : ∀ k, k < 9 → List.lookup (101, k) ((List.range 9).map (fun j => ((101, j), 101 + 1 + j))) = some (101 + 1 + k) := by decide +kernel
        exact (H k' q2).symm
      · rw [if_neg q2]
        symm
        rw [List.lookup_eq_none_iff]
        intro e he
        obtain ⟨j, hj, rfl⟩ := List.mem_map.mp he
        rw [bne_iff_ne]
        intro z
        have := congrArg Prod.snd z
        have hj := List.mem_range.mp hj
        have this : k' = j := this
        omega
    · rw [if_neg q]
      have hn : List.lookup (r', k') ((List.range 9).map (fun j => ((101, j), 101 + 1 + j))) = none := by
        rw [List.lookup_eq_none_iff]
        intro e he
        obtain ⟨j, hj, rfl⟩ := List.mem_map.mp he
        rw [bne_iff_ne]
        intro z
        exact q (congrArg Prod.fst z)
      rw [hn, Option.or_none]
      by_cases q2 : 101 ≤ r' ∧ r' < 101 + 10
      · rw [if_pos q2]
        have H : ∀ r, r < 111 → 101 ≤ r → hc_no r 99 = true := by decide +kernel
        exact (hc_no_p (H r' q2.2 q2.1) k').symm
      · rw [if_neg q2]
  have eT : (fun r' => if r' = 101 then 106 else if 101 ≤ r' ∧ r' < 101 + 10 then 100 else if r' < 101 then (q_sh0.getD r' (0, 0)).1 else 0) = (fun r' => if r' < 111 then (q_sh0.getD r' (0, 0)).1 else 0) := by
    funext r'
    rcases Nat.lt_or_ge r' 111 with z | z
    · have H : ∀ r, r < 111 → (if r = 101 then 106 else if 101 ≤ r ∧ r < 101 + 10 then 100 else if r < 101 then (q_sh0.getD r (0, 0)).1 else 0) = (if r < 111 then (q_sh0.getD r (0, 0)).1 else 0) := by decide +kernel
      exact H r' z
    · rw [if_neg (by omega), if_neg (by omega), if_neg (by omega), if_neg (by omega)]
  have eL : (fun r' => if r' = 101 then 9 else if 101 ≤ r' ∧ r' < 101 + 10 then 401 else if r' < 101 then (q_sh0.getD r' (0, 0)).2 else 0) = (fun r' => if r' < 111 then (q_sh0.getD r' (0, 0)).2 else 0) := by
    funext r'
    rcases Nat.lt_or_ge r' 111 with z | z
    · have H : ∀ r, r < 111 → (if r = 101 then 9 else if 101 ≤ r ∧ r < 101 + 10 then 401 else if r < 101 then (q_sh0.getD r (0, 0)).2 else 0) = (if r < 111 then (q_sh0.getD r (0, 0)).2 else 0) := by decide +kernel
      exact H r' z
    · rw [if_neg (by omega), if_neg (by omega), if_neg (by omega), if_neg (by omega)]
  show (_, _, _, _, _, 101 + 10, hc_s 101 + 3618) = _
  unfold q_hc
  rw [show hc_s 111 = hc_s 101 + 3618 from by decide +kernel, ← eT, ← eL]
  refine congr (congrArg Prod.mk eI) (congr rfl (congr (congrArg Prod.mk eP) rfl))
