/-! NEW CELLS: rows for new, newarray, anewarray and aastore over abstract heaps; Object's constructor -/
section QNEW
variable {l : Launch} {g : q_GP} {d : Nat} {y : q_MI} {pc : Nat} {L : List (Nat × Value)} {S : List Value} {h : q_H} {Q : Option Value → q_H → Prop}
theorem q_new_ne {t n k : Nat} (hk : k < q_N h) : q_ent g (q_new h t n) k = q_ent g h k := by
  have hne : k ≠ q_N h := Nat.ne_of_lt hk
  have e0 : q_T (q_new h t n) k = q_T h k := if_neg hne
  have e1 : q_L (q_new h t n) k = q_L h k := if_neg hne
  have e2 : q_I (q_new h t n) k = q_I h k := if_neg hne
  have e3 : q_J (q_new h t n) k = q_J h k := if_neg hne
  have e4 : q_P (q_new h t n) k = q_P h k := if_neg hne
  unfold q_ent q_row
  have e5 : q_fld g (q_new h t n) k = q_fld g h k := by
    funext j
    unfold q_fld
    rw [e0, e2, e4]
  rw [e0, e1, e2, e3, e4, e5]
theorem q_ws_new {t n : Nat} : q_ws g (q_new h t n) = q_ws g h ++ [(q_B g + q_N h, q_ent g (q_new h t n) (q_N h))] := by
  show (List.range (q_N h + 1)).map _ = _
  rw [List.range_succ, List.map_append]
  refine congr (congrArg _ ?_) rfl
  exact List.map_congr_left fun k hk => by
    rw [q_new_ne (List.mem_range.mp hk)]
theorem q_WH_new {H H1 : Heap} {t n : Nat} (hW : q_WH g h H) (hN : q_N h < 1000000000) (z1 : H1.size = H.size + 1) (o1 : ∀ q : Nat, q < H.size → H1[q]? = H[q]?) (ha : va_at (q_D g) vwCl (H.size, q_ent g (q_new h t n) (q_N h)) H1) : q_WH g (q_new h t n) H1 := by
  refine ⟨?_, hN, ?_⟩
  · rw [z1, hW.1]
    rfl
  · rw [q_ws_new]
    refine (hW.2.2.kept (fun k x hx => o1 x.1 ((hW.2.2 k x hx).lt))).app (fun k x hx => ?_)
    have hz : k < 1 := (List.getElem?_eq_some_iff.mp hx).1
    rw [show k = 0 by omega] at hx
    cases hx
    rw [← hW.1]
    exact ha
theorem q_S_new {s : State} {H H1 : Heap} {locs : List Loc} (hS : va_S (q_A g) s.heap H locs) (z1 : H1.size = H.size + 1) (o1 : ∀ q : Nat, q < H.size → H1[q]? = H[q]?) : va_S (q_A g) s.heap H1 locs :=
  ⟨Nat.le_trans hS.1 (by omega), fun x h1 h2 => (o1 x (Nat.lt_of_lt_of_le h1 hS.1)).trans (hS.2.1 x h1 h2), hS.2.2⟩
theorem q_new_sh {t n : Nat} : q_Sh (q_new h t n) (q_N h) t n := ⟨Nat.lt_succ_self _, if_pos rfl, if_pos rfl⟩
/-- neither long nor float nor double -/
def q_isS : FieldType → Bool
  | .long => false
  | .float => false
  | .double => false
  | _ => true
theorem q_new_fld {ci n k : Nat} (hk : q_isS (q_ty ci k) = true) : q_fld g (q_new h ci n) (q_N h) k = defaultValue (q_ty ci k) := by
  have e0 : q_T (q_new h ci n) (q_N h) = ci := if_pos rfl
  have e2 : q_I (q_new h ci n) (q_N h) k = 0 := congrFun (if_pos rfl : q_I (q_new h ci n) (q_N h) = fun _ => 0) k
  have e4 : q_P (q_new h ci n) (q_N h) k = none := congrFun (if_pos rfl : q_P (q_new h ci n) (q_N h) = fun _ => none) k
  unfold q_fld
  rw [e0, e2, e4]
  generalize q_ty ci k = ty at hk
  cases ty <;> first | rfl | cases hk
theorem q_bud {a b c d : Nat} (h : a + 1 ≤ b) : c + 1 + (b - (a + 1)) = c + (b - a) := by omega
theorem q_budK {a b c n : Nat} (h : a + n ≤ b) : c + n + (b - (a + n)) = c + (b - a) := by omega
theorem xe_new {idx ci n : Nat} {C : String} {T : u_T} (hd : decode y.2.1 pc = .ok (.new idx, 3)) (hck : q_CK ci C T n) (hcl : Cond.classLink y.1.cls idx C ∈ q_tab) (hin : Cond.instantiable C n ∈ q_tab) (hini : Cond.initialized C ∈ q_tab) (hN : q_N h < 1000000000) (hsm : ∀ k, k < n → q_isS (q_ty ci k) = true) (K : q_Ex l g d y (pc + 3) L (.ref (q_N h) :: S) (q_new h ci n) Q) : q_Ex l g d y pc L S h Q := by
  obtain ⟨rv, h', q, n1, k1, G⟩ := K
  have n1' : q_N h + 1 ≤ q_N h' := n1
  have k1' : q_K h + n ≤ q_K h' := k1
  refine ⟨rv, h', q, by omega, by omega, fun p e R s m args below meth c H locs ls cells slots M hL hW hS hc hkk => ?_⟩
  have M0 := M
  obtain ⟨hx, hb, hret, hml, hown, hts, hlocks, hnm, hfr, hlo, hK, hX, hG, hB⟩ := M
  obtain ⟨c1, c2, c3, c4, c5⟩ := hck
  have hKn := hK.1 ci _ c1
  refine W.newcK hx hb hown (hts _ hcl) (hts _ hin) (hts _ hini) rfl hd (by omega) (by omega) hKn.2.1 rfl fun H1 kC hkC e1 z1 o1 => ?_
  have hW1 : q_WH g (q_new h ci n) H1 := by
    refine q_WH_new hW hN z1 o1 ?_
    have e0 : q_T (q_new h ci n) (q_N h) = ci := if_pos rfl
    have e1' : q_L (q_new h ci n) (q_N h) = n := if_pos rfl
    have ee : q_ent g (q_new h ci n) (q_N h) = .inr (ci, (List.range n).map (q_fld g (q_new h ci n) (q_N h))) := by
      unfold q_ent
      rw [e0, e1', if_pos c5]
    rw [ee]
    refine ⟨_, c1, (u_born (q_ty ci) hts c2 hKn hkC e1 c3).to fun j hj => ?_⟩
    show _ = ((List.range n).map (q_fld g (q_new h ci n) (q_N h))).getD j .null
    have hlt : j < ((List.range n).map (q_fld g (q_new h ci n) (q_N h))).length := by simpa using hj
    rw [List.getD_eq_getElem?_getD, List.getElem?_eq_getElem hlt, Option.getD_some, List.getElem_map, List.getElem_range, q_new_fld (hsm j hj)]
  have hr : q_cv g (.ref (q_N h)) = .ref H.size := by
    show Value.ref (q_ad g (q_N h)) = _
    rw [q_ad_lt hW1 (Nat.lt_succ_self _), hW.1]
  have GG := G p e R s m args below meth c H1 locs ls (cells + 1) (slots + n) M0 hL hW1 (q_S_new hS z1 o1) (by show cells + 1 + (q_N h' - (q_N h + 1)) ≤ _; rw [q_bud n1' (d := 0)]; exact hc) (by show slots + n + (q_K h' - (q_K h + n)) ≤ _; rw [q_budK k1']; exact hkk)
  have eN : cells + 1 + (q_N h' - q_N (q_new h ci n)) = cells + (q_N h' - q_N h) := q_bud n1' (d := 0)
  have eK : slots + n + (q_K h' - q_K (q_new h ci n)) = slots + (q_K h' - q_K h) := q_budK k1'
  rw [eN, eK, List.map_cons, hr] at GG
  exact GG
end QNEW
section QARR
variable {l : Launch} {g : q_GP} {d : Nat} {y : q_MI} {pc : Nat} {L : List (Nat × Value)} {S : List Value} {h : q_H} {Q : Option Value → q_H → Prop}
theorem xe_newa_int {n : Nat} (hd : decode y.2.1 pc = .ok (.newarray .int, 2)) (hb : n < 50000000) (hN : q_N h < 1000000000) (K : q_Ex l g d y (pc + 2) L (.ref (q_N h) :: S) (q_new h 100 n) Q) : q_Ex l g d y pc L (.int (nI n) :: S) h Q := by
  obtain ⟨rv, h', q, n1, k1, G⟩ := K
  have n1' : q_N h + 1 ≤ q_N h' := n1
  have k1' : q_K h + n ≤ q_K h' := k1
  refine ⟨rv, h', q, by omega, by omega, fun p e R s m args below meth c H locs ls cells slots M hL hW hS hc hkk => ?_⟩
  have M0 := M
  obtain ⟨hx, hbb, hret, hml, hown, hts, hlocks, hnm, hfr, hlo, hK, hX, hG, hB⟩ := M
  refine va_newaK (atype := .int) hx hbb (hts _ q_ac_int) rfl hd rfl (nI_pos (by omega)) (nI_clamp (by omega)) (by show n * 4 ≤ _; omega) (by omega) (by omega) rfl fun H1 cA e1 z1 o1 hAr hNm => ?_
  have hC : cA = q_C g 100 := Option.some.inj (hNm.symm.trans (hK.2 0 _ rfl).2)
  subst hC
  have hW1 : q_WH g (q_new h 100 n) H1 := by
    refine q_WH_new hW hN z1 o1 ?_
    rw [show q_ent g (q_new h 100 n) (q_N h) = .inl (q_C g 100, n, .inl (fun _ => 0)) from (q_ent_i (g := g) (h := q_new h 100 n) q_new_sh (by decide) (by decide)).trans (by rw [show q_I (q_new h 100 n) (q_N h) = fun _ => 0 from if_pos rfl])]
    show H1[H.size]? = some (vp_cell _ _)
    rw [vp_cell_i]
    exact e1
  have hr : q_cv g (.ref (q_N h)) = .ref H.size := by
    show Value.ref (q_ad g (q_N h)) = _
    rw [q_ad_lt hW1 (Nat.lt_succ_self _), hW.1]
  have GG := G p e R s m args below meth c H1 locs ls (cells + 1) (slots + n) M0 hL hW1 (q_S_new hS z1 o1) (by show cells + 1 + (q_N h' - (q_N h + 1)) ≤ _; rw [q_bud n1' (d := 0)]; exact hc) (by show slots + n + (q_K h' - (q_K h + n)) ≤ _; rw [q_budK k1']; exact hkk)
  have eN : cells + 1 + (q_N h' - q_N (q_new h 100 n)) = cells + (q_N h' - q_N h) := q_bud n1' (d := 0)
  have eK : slots + n + (q_K h' - q_K (q_new h 100 n)) = slots + (q_K h' - q_K h) := q_budK k1'
  rw [eN, eK, List.map_cons, hr] at GG
  exact GG
theorem xe_newa_byte {n : Nat} (hd : decode y.2.1 pc = .ok (.newarray .byte, 2)) (hb : n < 50000000) (hN : q_N h < 1000000000) (K : q_Ex l g d y (pc + 2) L (.ref (q_N h) :: S) (q_new h 101 n) Q) : q_Ex l g d y pc L (.int (nI n) :: S) h Q := by
  obtain ⟨rv, h', q, n1, k1, G⟩ := K
  have n1' : q_N h + 1 ≤ q_N h' := n1
  have k1' : q_K h + n ≤ q_K h' := k1
  refine ⟨rv, h', q, by omega, by omega, fun p e R s m args below meth c H locs ls cells slots M hL hW hS hc hkk => ?_⟩
  have M0 := M
  obtain ⟨hx, hbb, hret, hml, hown, hts, hlocks, hnm, hfr, hlo, hK, hX, hG, hB⟩ := M
  refine va_newaK (atype := .byte) hx hbb (hts _ q_ac_byte) rfl hd rfl (nI_pos (by omega)) (nI_clamp (by omega)) (by show n * 1 ≤ _; omega) (by omega) (by omega) rfl fun H1 cA e1 z1 o1 hAr hNm => ?_
  have hC : cA = q_C g 101 := Option.some.inj (hNm.symm.trans (hK.2 1 _ rfl).2)
  subst hC
  have hW1 : q_WH g (q_new h 101 n) H1 := by
    refine q_WH_new hW hN z1 o1 ?_
    rw [show q_ent g (q_new h 101 n) (q_N h) = .inl (q_C g 101, n, .inl (fun _ => 0)) from (q_ent_i (g := g) (h := q_new h 101 n) q_new_sh (by decide) (by decide)).trans (by rw [show q_I (q_new h 101 n) (q_N h) = fun _ => 0 from if_pos rfl])]
    show H1[H.size]? = some (vp_cell _ _)
    rw [vp_cell_i]
    exact e1
  have hr : q_cv g (.ref (q_N h)) = .ref H.size := by
    show Value.ref (q_ad g (q_N h)) = _
    rw [q_ad_lt hW1 (Nat.lt_succ_self _), hW.1]
  have GG := G p e R s m args below meth c H1 locs ls (cells + 1) (slots + n) M0 hL hW1 (q_S_new hS z1 o1) (by show cells + 1 + (q_N h' - (q_N h + 1)) ≤ _; rw [q_bud n1' (d := 0)]; exact hc) (by show slots + n + (q_K h' - (q_K h + n)) ≤ _; rw [q_budK k1']; exact hkk)
  have eN : cells + 1 + (q_N h' - q_N (q_new h 101 n)) = cells + (q_N h' - q_N h) := q_bud n1' (d := 0)
  have eK : slots + n + (q_K h' - q_K (q_new h 101 n)) = slots + (q_K h' - q_K h) := q_budK k1'
  rw [eN, eK, List.map_cons, hr] at GG
  exact GG
theorem xe_newa_boolean {n : Nat} (hd : decode y.2.1 pc = .ok (.newarray .boolean, 2)) (hb : n < 50000000) (hN : q_N h < 1000000000) (K : q_Ex l g d y (pc + 2) L (.ref (q_N h) :: S) (q_new h 102 n) Q) : q_Ex l g d y pc L (.int (nI n) :: S) h Q := by
  obtain ⟨rv, h', q, n1, k1, G⟩ := K
  have n1' : q_N h + 1 ≤ q_N h' := n1
  have k1' : q_K h + n ≤ q_K h' := k1
  refine ⟨rv, h', q, by omega, by omega, fun p e R s m args below meth c H locs ls cells slots M hL hW hS hc hkk => ?_⟩
  have M0 := M
  obtain ⟨hx, hbb, hret, hml, hown, hts, hlocks, hnm, hfr, hlo, hK, hX, hG, hB⟩ := M
  refine va_newaK (atype := .boolean) hx hbb (hts _ q_ac_boolean) rfl hd rfl (nI_pos (by omega)) (nI_clamp (by omega)) (by show n * 1 ≤ _; omega) (by omega) (by omega) rfl fun H1 cA e1 z1 o1 hAr hNm => ?_
  have hC : cA = q_C g 102 := Option.some.inj (hNm.symm.trans (hK.2 2 _ rfl).2)
  subst hC
  have hW1 : q_WH g (q_new h 102 n) H1 := by
    refine q_WH_new hW hN z1 o1 ?_
    rw [show q_ent g (q_new h 102 n) (q_N h) = .inl (q_C g 102, n, .inl (fun _ => 0)) from (q_ent_i (g := g) (h := q_new h 102 n) q_new_sh (by decide) (by decide)).trans (by rw [show q_I (q_new h 102 n) (q_N h) = fun _ => 0 from if_pos rfl])]
    show H1[H.size]? = some (vp_cell _ _)
    rw [vp_cell_i]
    exact e1
  have hr : q_cv g (.ref (q_N h)) = .ref H.size := by
    show Value.ref (q_ad g (q_N h)) = _
    rw [q_ad_lt hW1 (Nat.lt_succ_self _), hW.1]
  have GG := G p e R s m args below meth c H1 locs ls (cells + 1) (slots + n) M0 hL hW1 (q_S_new hS z1 o1) (by show cells + 1 + (q_N h' - (q_N h + 1)) ≤ _; rw [q_bud n1' (d := 0)]; exact hc) (by show slots + n + (q_K h' - (q_K h + n)) ≤ _; rw [q_budK k1']; exact hkk)
  have eN : cells + 1 + (q_N h' - q_N (q_new h 102 n)) = cells + (q_N h' - q_N h) := q_bud n1' (d := 0)
  have eK : slots + n + (q_K h' - q_K (q_new h 102 n)) = slots + (q_K h' - q_K h) := q_budK k1'
  rw [eN, eK, List.map_cons, hr] at GG
  exact GG
theorem xe_newa_long {n : Nat} (hd : decode y.2.1 pc = .ok (.newarray .long, 2)) (hb : n < 50000000) (hN : q_N h < 1000000000) (K : q_Ex l g d y (pc + 2) L (.ref (q_N h) :: S) (q_new h 103 n) Q) : q_Ex l g d y pc L (.int (nI n) :: S) h Q := by
  obtain ⟨rv, h', q, n1, k1, G⟩ := K
  have n1' : q_N h + 1 ≤ q_N h' := n1
  have k1' : q_K h + n ≤ q_K h' := k1
  refine ⟨rv, h', q, by omega, by omega, fun p e R s m args below meth c H locs ls cells slots M hL hW hS hc hkk => ?_⟩
  have M0 := M
  obtain ⟨hx, hbb, hret, hml, hown, hts, hlocks, hnm, hfr, hlo, hK, hX, hG, hB⟩ := M
  refine va_newaK (atype := .long) hx hbb (hts _ q_ac_long) rfl hd rfl (nI_pos (by omega)) (nI_clamp (by omega)) (by show n * 8 ≤ _; omega) (by omega) (by omega) rfl fun H1 cA e1 z1 o1 hAr hNm => ?_
  have hC : cA = q_C g 103 := Option.some.inj (hNm.symm.trans (hK.2 3 _ rfl).2)
  subst hC
  have hW1 : q_WH g (q_new h 103 n) H1 := by
    refine q_WH_new hW hN z1 o1 ?_
    rw [show q_ent g (q_new h 103 n) (q_N h) = .inl (q_C g 103, n, .inr (.inl (fun _ => 0))) from (q_ent_j (g := g) (h := q_new h 103 n) q_new_sh).trans (by rw [show q_J (q_new h 103 n) (q_N h) = fun _ => 0 from if_pos rfl])]
    show H1[H.size]? = some (vp_cell _ _)
    rw [vp_cell_l]
    exact e1
  have hr : q_cv g (.ref (q_N h)) = .ref H.size := by
    show Value.ref (q_ad g (q_N h)) = _
    rw [q_ad_lt hW1 (Nat.lt_succ_self _), hW.1]
  have GG := G p e R s m args below meth c H1 locs ls (cells + 1) (slots + n) M0 hL hW1 (q_S_new hS z1 o1) (by show cells + 1 + (q_N h' - (q_N h + 1)) ≤ _; rw [q_bud n1' (d := 0)]; exact hc) (by show slots + n + (q_K h' - (q_K h + n)) ≤ _; rw [q_budK k1']; exact hkk)
  have eN : cells + 1 + (q_N h' - q_N (q_new h 103 n)) = cells + (q_N h' - q_N h) := q_bud n1' (d := 0)
  have eK : slots + n + (q_K h' - q_K (q_new h 103 n)) = slots + (q_K h' - q_K h) := q_budK k1'
  rw [eN, eK, List.map_cons, hr] at GG
  exact GG
theorem xe_newq {idx n t k0 : Nat} {C : String} (hd : decode y.2.1 pc = .ok (.anewarray idx, 3)) (hcl : Cond.classLink y.1.cls idx C ∈ q_tab) (hao : ∀ U, q_X g U → va_AO C U) (ht : 103 < t) (hty : (q_tys g)[k0]? = some (q_C g t, .object C)) (hb : n < 50000000) (hN : q_N h < 1000000000) (K : q_Ex l g d y (pc + 3) L (.ref (q_N h) :: S) (q_new h t n) Q) : q_Ex l g d y pc L (.int (nI n) :: S) h Q := by
  obtain ⟨rv, h', q, n1, k1, G⟩ := K
  have n1' : q_N h + 1 ≤ q_N h' := n1
  have k1' : q_K h + n ≤ q_K h' := k1
  refine ⟨rv, h', q, by omega, by omega, fun p e R s m args below meth c H locs ls cells slots M hL hW hS hc hkk => ?_⟩
  have M0 := M
  obtain ⟨hx, hbb, hret, hml, hown, hts, hlocks, hnm, hfr, hlo, hK, hX, hG, hB⟩ := M
  have ecl : (nI n).toNatClampNeg = n := nI_clamp (by omega)
  refine W.anew hx hbb hown (hts _ hcl) (va_AO.use (hao _ hX)) rfl hd rfl (nI_pos (by omega)) (by rw [ecl]; omega) (by omega) (by rw [ecl]; omega) fun cA kA comp f1 f2 f3 f4 => ?_
  rw [ecl]
  generalize hH1 : H.push ({ cls := cA, slots := Array.replicate n .null, vm := .none } : Cell) = H1
  have z1 : H1.size = H.size + 1 := by rw [← hH1, Array.size_push]
  have e1 : H1[H.size]? = some (arrV cA n (fun _ => .null)) := by rw [← hH1, Array.getElem?_push_size, ← arrV_new]
  have o1 : ∀ q : Nat, q < H.size → H1[q]? = H[q]? := fun q hq => by rw [← hH1, Array.getElem?_push, if_neg (Nat.ne_of_lt hq)]
  obtain ⟨kA', comp', g1, g2, g3, g4⟩ := (hK.2 k0 _ hty).2
  have hC : cA = q_C g t := Option.some.inj (f1.symm.trans g4)
  subst hC
  have hW1 : q_WH g (q_new h t n) H1 := by
    refine q_WH_new hW hN z1 o1 ?_
    rw [show q_ent g (q_new h t n) (q_N h) = .inl (q_C g t, n, .inr (.inr (.inr (.inr (fun _ => none))))) from (q_ent_p (g := g) (h := q_new h t n) q_new_sh ht).trans (by rw [show q_P (q_new h t n) (q_N h) = fun _ => none from if_pos rfl]; rfl)]
    show H1[H.size]? = some (vp_cell _ _)
    rw [vp_cell_q]
    exact e1
  have hr : q_cv g (.ref (q_N h)) = .ref H.size := by
    show Value.ref (q_ad g (q_N h)) = _
    rw [q_ad_lt hW1 (Nat.lt_succ_self _), hW.1]
  have GG := G p e R s m args below meth c H1 locs ls (cells + 1) (slots + n) M0 hL hW1 (q_S_new hS z1 o1) (by show cells + 1 + (q_N h' - (q_N h + 1)) ≤ _; rw [q_bud n1' (d := 0)]; exact hc) (by show slots + n + (q_K h' - (q_K h + n)) ≤ _; rw [q_budK k1']; exact hkk)
  have eN : cells + 1 + (q_N h' - q_N (q_new h t n)) = cells + (q_N h' - q_N h) := q_bud n1' (d := 0)
  have eK : slots + n + (q_K h' - q_K (q_new h t n)) = slots + (q_K h' - q_K h) := q_budK k1'
  rw [eN, eK, List.map_cons, hr] at GG
  exact GG
/-- a reference stored in an array of references -/
theorem xe_aast {r n t t0 a ci nb : Nat} {C : String} {T : u_T} {N : Nat} {i : Int32} (hd : decode y.2.1 pc = .ok (.aastore, 1)) (hs : q_Sh h r t n) (ht : 103 < t) (h0 : (q_tys g)[t0]? = some (q_C g t, .object C)) (hck : q_CK ci C T N) (ha : q_Sh h a ci nb) (hi : vp_in i n) (K : q_Ex l g d y (pc + 1) L S (q_wP h r (va_up (q_P h r) i.toNatClampNeg (some a))) Q) : q_Ex l g d y pc L (.ref a :: .int i :: .ref r :: S) h Q := by
  obtain ⟨rv, h', q, n1, k1, G⟩ := K
  refine ⟨rv, h', q, n1, k1, fun p e R s m args below meth c H locs ls cells slots M hL hW hS hc hkk => ?_⟩
  have M0 := M
  obtain ⟨hx, hb, hret, hml, hown, hts, hlocks, hnm, hfr, hlo, hK, hX, hG, hB⟩ := M
  obtain ⟨c1, c2, c3, c4, c5⟩ := hck
  have he := q_ws_at (g := g) hs.1
  rw [q_ent_p hs ht] at he
  have hv := q_ws_at (g := g) ha.1
  rw [q_ent_o (by rw [ha.2.1]; exact c5), ha.2.1] at hv
  show W p l e R s m args below meth c H locs cells slots _ (F0 m pc ls (.ref (q_ad g a) :: .int i :: .ref (q_ad g r) :: S.map (q_cv g)))
  rw [q_ad_sh hW hs, q_ad_sh hW ha]
  have hlt : i.toNatClampNeg < n := Nat.not_le.mp fun q => hi (Or.inr q)
  have h00 : ¬ i < 0 := fun q => hi (Or.inl q)
  obtain ⟨r', hr', cellV, g1, g2, g3, -⟩ := hW.2.2 a _ hv
  have hcls := (hK.1 ci _ c1).2
  obtain ⟨kA, comp, kk1, kk2, kk3, -⟩ := (hK.2 t0 _ h0).2
  have hcomp : comp = (q_D g).1 ci := Option.some.inj (kk3.symm.trans hcls.1)
  subst hcomp
  obtain ⟨kC, hkC, -⟩ := hcls.2
  refine W.aast hx hb (hW.2.2 r _ he) (fun q h => by cases h) (fun h => by cases h) kk1 kk2 rfl hkC ⟨h00, by show _ < (arrV _ _ _).slots.size; rw [arrV_size]; exact hlt⟩ g1 (fun q h => by rw [g3] at h; cases h) (by rw [g2]; exact hkC) (by rw [g2]; exact va_assign hcls) rfl rfl hd fun H1 e9 z oq => ?_
  have hP : va_P (q_D g) vwCl ((q_ws g h).set r (q_B g + r, .inl (q_C g t, n, .inr (.inr (.inr (.inr (fun j => (va_up (q_P h r) i.toNatClampNeg (some a) j).map (q_ad g)))))))) H1 := by
    refine hW.2.2.set (q_ws_D g h) he ?_ oq
    show H1[q_B g + r]? = some (vp_cell _ _)
    rw [e9, vp_cell_q, vp_cell_q, arrV_store]
    congr 2
    funext q
    by_cases hq : q = i.toNatClampNeg
    · subst hq
      simp [updV, va_up, va_rf, q_ad_sh hW ha]
    · simp [updV, va_up, hq]
  exact G p e R s m args below meth c H1 _ ls cells slots M0 hL (q_WH_set (s := s) (locs1 := locs) hW z rfl hs.1 ((q_ent_p (h := q_wP h r (va_up (q_P h r) i.toNatClampNeg (some a))) (show q_Sh (q_wP h r (va_up (q_P h r) i.toNatClampNeg (some a))) r t n from hs) ht).trans (by rw [q_Pw])) (fun k hk => q_wP_ne hk) hP) (hS.put z oq (Nat.le_add_right _ _)) hc hkk
theorem q_oi : Cond.instanceMethod Lib.objectInit ∈ q_tab ∧ Cond.code Lib.objectInit ⟨#[0xb1]⟩ 1 none ∈ q_tab := ⟨q_at t1_25.1 rfl, q_at t1_26.1 rfl⟩
/-- Object's constructor does nothing -/
theorem xe_obj {idx a : Nat} (hd : decode y.2.1 pc = .ok (.invokespecial idx, 3)) (hl : Cond.methodLink y.1.cls idx ⟨"java/lang/Object", "<init>", "()V"⟩ ∈ q_tab) (hdd : 1 ≤ d) (hst : (S.map fun v => v.category).sum ≤ 8) (K : q_Ex l g d y (pc + 3) L S h Q) : q_Ex l g d y pc L (.ref a :: S) h Q := by
  obtain ⟨rv, h', q, n1, k1, G⟩ := K
  refine ⟨rv, h', q, n1, k1, fun p e R s m args below meth c H locs ls cells slots M hL hW hS hc hkk => ?_⟩
  have M0 := M
  obtain ⟨hx, hb, hret, hml, hown, hts, hlocks, hnm, hfr, hlo, hK, hX, hG, hB⟩ := M
  exact W.objInit hx hb hown (hts _ hl) (hts _ q_oi.1) (hts _ q_oi.2) rfl (hL.1.trans hml.symm) rfl hd (by omega) (by rw [q_cat_sum]; show 2 * 0 + _ + _ ≤ _; omega) (G p e R s m args below meth c H locs ls cells slots M0 hL hW hS hc hkk)
def q_MK (y : q_MI) (n : Nat) : Prop := Cond.code y.1 y.2.1 y.2.2.1 none ∈ q_tab ∧ Cond.instanceMethod y.1 ∈ q_tab ∧ Cond.initialized y.1.cls ∈ q_tab ∧ q_MD y.1 n ∧ plainName y.1.cls = true ∧ y.2.2.2 = none ∧ y.1.name = "<init>"
/-- a constructor's call; 'hl': by an own link, or by one of a nest mate (which the state keeps) -/
theorem xe_callI {d' idx n b : Nat} {y' : q_MI} {as rest : List Value} {Q1 : Option Value → q_H → Prop} (hd : decode y.2.1 pc = .ok (.invokespecial idx, 3)) (hl : Cond.methodLink y.1.cls idx y'.1 ∈ q_tab ∨ ∃ host, ∀ U, q_X g U → va_Nw (.methodLinkNest y.1.cls idx y'.1 host) U) (hm : q_MK y' n) (hn : as.length = n) (hdd : d' + 1 ≤ d) (hmx : y'.2.2.1 ≤ 45) (hst : (rest.map fun v => v.category).sum ≤ 8)
    (C : q_Ct l g d' y' (.ref b :: as) h Q1) (hSt : S = as.reverse ++ .ref b :: rest) (K : ∀ r h1, Q1 r h1 → q_Ex l g d y (pc + 3) L (r.toList ++ rest) h1 Q) : q_Ex l g d y pc L S h Q := by
  obtain ⟨r1, h1, q1, n1, k1, M1⟩ := C
  obtain ⟨r, h', q2, n2, k2, G⟩ := K r1 h1 q1
  refine ⟨r, h', q2, Nat.le_trans n1 n2, Nat.le_trans k1 k2, fun p e R s m args below meth c H locs ls cells slots M hL hW hS hc hkk => ?_⟩
  have M0 := M
  obtain ⟨hx, hb, hret, hml, hown, hts, hlocks, hnm, hfr, hlo, hK, hX, hG, hB⟩ := M
  obtain ⟨m1, m2, m4, m5, m6, m7, m8⟩ := hm
  have hwy : q_wy y' = Cond.code y'.1 y'.2.1 y'.2.2.1 none :: q_tab := by
    unfold q_wy
    rw [m7]
  have hGI : GoodIn q_tab (q_wy y') := fun w hw => by
    have : w ∈ q_tab := by
      rw [hwy] at hw
      rcases List.mem_cons.mp hw with rfl | hw
      · exact m1
      · exact hw
    exact ⟨this, q_law_in this⟩
  subst hSt
  have hstk : (as.reverse ++ Value.ref b :: rest).map (q_cv g) = (as.map (q_cv g)).reverse ++ .ref (q_ad g b) :: rest.map (q_cv g) := by
    rw [List.map_append, List.map_reverse]
    rfl
  rw [hstk]
  have hpre : PreS s H (va_Pc ((Value.ref b :: as).map (q_cv g)) (fun U => q_WH g h U.heap ∧ va_K (q_D g) vwCl (q_tys g) U ∧ q_X g U ∧ q_GOK g)) (.ref (q_ad g b) :: as.map (q_cv g)) := ⟨q_blind (as := .ref b :: as), fun U hU hWm => ⟨rfl, q_pre M0 hW hS U hU hWm⟩⟩
  rcases hl with hl | ⟨host, hl⟩
  · exact q_after (va_runI (As := as.map (q_cv g)) (rest := rest.map (q_cv g)) ⟨hx, hb, hml, hown, hts⟩ M1 (cwI n hts hGI hwy rfl rfl (hts _ m4) (hts _ hl) (hts _ m2) m8 m5 ⟨by show d' + 1 ≤ _; omega, by show 8 + (_ + 11) + 64 * d' ≤ _; omega⟩) hpre rfl (by rw [List.length_map]; exact hn) hL.1 rfl (lv_room (by rw [q_cat_sum]; exact hst)) hd ⟨by omega, by omega⟩) n1 n2 k1 k2 G M0 hL hS hc hkk
  · exact q_after (va_runIN (As := as.map (q_cv g)) (rest := rest.map (q_cv g)) (host := host) ⟨hx, hb, hml, hown, hts⟩ M1 ⟨va_cnB n hts hGI hwy rfl rfl (hl _ hX) (hts _ m4) m5 ⟨by show d' + 1 ≤ _; omega, by show 8 + (_ + 11) + 64 * d' ≤ _; omega⟩, m8, hts _ m2⟩ hpre rfl (by rw [List.length_map]; exact hn) hL.1 rfl (lv_room (by rw [q_cat_sum]; exact hst)) hd ⟨by omega, by omega⟩) n1 n2 k1 k2 G M0 hL hS hc hkk
end QARR
