/-! NEW CELLS: rows for new, newarray, anewarray and aastore over abstract heaps; Object's constructor -/
section QNEW
variable {l : Launch} {g : q_GP} {d : Nat} {y : q_MI} {pc : Nat} {L : List (Nat × Value)} {S : List Value} {h : q_H} {Q : Option Value → q_H → Prop}
theorem q_new_ne {t n k : Nat} (hk : k < q_N h) : q_ent g (q_new h t n) k = q_ent g h k := by
  have hne : k ≠ q_N h := Nat.ne_of_lt hk
  have e0 : q_T (q_new h t n) k = q_T h k := if_neg hne
  have e1 : q_L (q_new h t n) k = q_L h k := if_neg hne
  have e2 : q_I (q_new h t n) k = q_I h k := if_neg hne
  have e3 : q_J (q_new h t n) k = q_J h k := if_neg hne
  have e4 : q_P (q_new h t n) k = q_P h k := if_neg hne
  unfold q_ent q_row
  have e5 : q_fld g (q_new h t n) k = q_fld g h k := by
    funext j
    unfold q_fld
    rw [e0, e2, e4]
  rw [e0, e1, e2, e3, e4, e5]
theorem q_ws_new {t n : Nat} : q_ws g (q_new h t n) = q_ws g h ++ [(q_B g + q_N h, q_ent g (q_new h t n) (q_N h))] := by
  show (List.range (q_N h + 1)).map _ = _
  rw [List.range_succ, List.map_append]
  refine congr (congrArg _ ?_) rfl
  exact List.map_congr_left fun k hk => by
    rw [q_new_ne (List.mem_range.mp hk)]
theorem q_WH_new {H H1 : Heap} {t n : Nat} (hW : q_WH g h H) (hN : q_N h < 1000000000) (z1 : H1.size = H.size + 1) (o1 : ∀ q : Nat, q < H.size → H1[q]? = H[q]?) (ha : va_at (q_D g) vwCl (H.size, q_ent g (q_new h t n) (q_N h)) H1) : q_WH g (q_new h t n) H1 := by
  refine ⟨?_, hN, ?_⟩
  · rw [z1, hW.1]
    rfl
  · rw [q_ws_new]
    refine (hW.2.2.kept (fun k x hx => o1 x.1 ((hW.2.2 k x hx).lt))).app (fun k x hx => ?_)
    have hz : k < 1 := (List.getElem?_eq_some_iff.mp hx).1
    rw [show k = 0 by omega] at hx
    cases hx
    rw [← hW.1]
    exact ha
theorem q_S_new {s : State} {H H1 : Heap} {locs : List Loc} (hS : va_S (q_A g) s.heap H locs) (z1 : H1.size = H.size + 1) (o1 : ∀ q : Nat, q < H.size → H1[q]? = H[q]?) : va_S (q_A g) s.heap H1 locs :=
  ⟨Nat.le_trans hS.1 (by omega), fun x h1 h2 => (o1 x (Nat.lt_of_lt_of_le h1 hS.1)).trans (hS.2.1 x h1 h2), hS.2.2⟩
theorem q_new_sh {t n : Nat} : q_Sh (q_new h t n) (q_N h) t n := ⟨Nat.lt_succ_self _, if_pos rfl, if_pos rfl⟩
/-- neither long nor float nor double -/
def q_isS : FieldType → Bool
  | .long => false
  | .float => false
  | .double => false
  | _ => true
theorem q_new_fld {ci n k : Nat} (hk : q_isS (q_ty ci k) = true) : q_fld g (q_new h ci n) (q_N h) k = defaultValue (q_ty ci k) := by
  have e0 : q_T (q_new h ci n) (q_N h) = ci := if_pos rfl
  have e2 : q_I (q_new h ci n) (q_N h) k = 0 := congrFun (if_pos rfl : q_I (q_new h ci n) (q_N h) = fun _ => 0) k
  have e4 : q_P (q_new h ci n) (q_N h) k = none := congrFun (if_pos rfl : q_P (q_new h ci n) (q_N h) = fun _ => none) k
  unfold q_fld
  rw [e0, e2, e4]
  generalize q_ty ci k = ty at hk
  cases ty <;> first | rfl | cases hk
theorem q_bud {a b c d : Nat} (h : a + 1 ≤ b) : c + 1 + (b - (a + 1)) = c + (b - a) := by omega
theorem q_budK {a b c n : Nat} (h : a + n ≤ b) : c + n + (b - (a + n)) = c + (b - a) := by omega
theorem xe_new {idx ci n : Nat} {C : String} {T : u_T} (hd : decode y.2.1 pc = .ok (.new idx, 3)) (hck : q_CK ci C T n) (hcl : Cond.classLink y.1.cls idx C ∈ q_tab) (hin : Cond.instantiable C n ∈ q_tab) (hini : Cond.initialized C ∈ q_tab) (hN : q_N h < 1000000000) (hsm : ∀ k, k < n → q_isS (q_ty ci k) = true) (K : q_Ex l g d y (pc + 3) L (.ref (q_N h) :: S) (q_new h ci n) Q) : q_Ex l g d y pc L S h Q := by
  obtain ⟨rv, h', q, n1, k1, G⟩ := K
  have n1' : q_N h + 1 ≤ q_N h' := n1
  have k1' : q_K h + n ≤ q_K h' := k1
  refine ⟨rv, h', q, by omega, by omega, fun p e R s m args below meth c H locs ls cells slots M hL hW hS hc hkk => ?_⟩
  have M0 := M
  obtain ⟨hx, hb, hret, hml, hown, hts, hlocks, hnm, hfr, hlo, hK, hX, hG, hB⟩ := M
  obtain ⟨c1, c2, c3, c4, c5⟩ := hck
  have hKn := hK.1 ci _ c1
  refine W.newcK hx hb hown (hts _ hcl) (hts _ hin) (hts _ hini) rfl hd (by omega) (by omega) hKn.2.1 rfl fun H1 kC hkC e1 z1 o1 => ?_
  have hW1 : q_WH g (q_new h ci n) H1 := by
    refine q_WH_new hW hN z1 o1 ?_
    have e0 : q_T (q_new h ci n) (q_N h) = ci := if_pos rfl
    have e1' : q_L (q_new h ci n) (q_N h) = n := if_pos rfl
    have ee : q_ent g (q_new h ci n) (q_N h) = .inr (ci, (List.range n).map (q_fld g (q_new h ci n) (q_N h))) := by
      unfold q_ent
      rw [e0, e1', if_pos c5]
    rw [ee]
    refine ⟨_, c1, (u_born (q_ty ci) hts c2 hKn hkC e1 c3).to fun j hj => ?_⟩
    show _ = ((List.range n).map (q_fld g (q_new h ci n) (q_N h))).getD j .null
    have hlt : j < ((List.range n).map (q_fld g (q_new h ci n) (q_N h))).length := by simpa using hj
    rw [List.getD_eq_getElem?_getD, List.getElem?_eq_getElem hlt, Option.getD_some, List.getElem_map, List.getElem_range, q_new_fld (hsm j hj)]
  have hr : q_cv g (.ref (q_N h)) = .ref H.size := by
    show Value.ref (q_ad g (q_N h)) = _
    rw [q_ad_lt hW1 (Nat.lt_succ_self _), hW.1]
  have GG := G p e R s m args below meth c H1 locs ls (cells + 1) (slots + n) M0 hL hW1 (q_S_new hS z1 o1) (by show cells + 1 + (q_N h' - (q_N h + 1)) ≤ _; rw [q_bud n1' (d := 0)]; exact hc) (by show slots + n + (q_K h' - (q_K h + n)) ≤ _; rw [q_budK k1']; exact hkk)
  have eN : cells + 1 + (q_N h' - q_N (q_new h ci n)) = cells + (q_N h' - q_N h) := q_bud n1' (d := 0)
  have eK : slots + n + (q_K h' - q_K (q_new h ci n)) = slots + (q_K h' - q_K h) := q_budK k1'
  rw [eN, eK, List.map_cons, hr] at GG
  exact GG
end QNEW
