/-! the text: an abstract parser over tokens (kinds, places, numbers, names) -/
abbrev q_XR : Type := (Nat × Nat) ⊕ (List (Nat × Int32) × Nat)
/-- tokens: kind, place, number, letters of each -/
abbrev q_TK : Type := (Nat → Nat) × (Nat → Nat) × (Nat → Nat) × (Nat → List Nat)
def tk_T (K : q_TK) : Nat → Nat := K.1
def tk_P (K : q_TK) : Nat → Nat := K.2.1
def tk_V (K : q_TK) : Nat → Nat := K.2.2.1
def tk_N (K : q_TK) : Nat → List Nat := K.2.2.2
def tx_op (k : Nat) : Nat := if k = 8 then 2 else if k = 9 then 3 else if k = 10 then 4 else 5
/-- the fault of a token that is to be of a kind: what else it is, or one too many -/
def tx_ck (T : Nat → Nat) (k t : Nat) : Option (Nat × Nat) := if T t = k then (if 400 ≤ t then some (2, t) else none) else some (1, t)
def tx_b {α : Type} (o : Option (Nat × Nat)) (x : (Nat × Nat) ⊕ α) : (Nat × Nat) ⊕ α := match o with
  | some e => .inl e
  | none => x
def tx_r {α β : Type} (o : (Nat × Nat) ⊕ α) (f : α → (Nat × Nat) ⊕ β) : (Nat × Nat) ⊕ β := match o with
  | .inl e => .inl e
  | .inr x => f x
/-- what follows behind the first U: {(a | b) U} -/
def tx_pl (T : Nat → Nat) (a b : Nat) (U : Nat → q_XR) : Nat → List (Nat × Int32) → Nat → q_XR
  | 0, c, t => .inr (c, t)
  | n + 1, c, t => if T t = a ∨ T t = b then (if 400 ≤ t then .inl (2, t) else tx_r (U (t + 1)) (fun x => tx_pl T a b U n (c ++ x.1 ++ [(tx_op (T t), nI 0)]) x.2)) else .inr (c, t)
def tx_seq (T : Nat → Nat) (a b : Nat) (U : Nat → q_XR) (t : Nat) : q_XR := tx_r (U t) (fun x => tx_pl T a b U 401 x.1 x.2)
def tx_sumU (T : Nat → Nat) (U : Nat → q_XR) : Nat → q_XR := tx_seq T 8 9 (tx_seq T 10 15 U)
/-- a unit, k more brackets may open -/
def tx_un (T V : Nat → Nat) : Nat → Nat → q_XR
  | k, t => if T t = 2 then (if 400 ≤ t then .inl (2, t) else .inr ([(0, nI (V t))], t + 1))
    else if 31 ≤ T t ∧ T t ≤ 36 then (if 400 ≤ t then .inl (2, t) else .inr ([(1, nI (T t - 31))], t + 1))
    else if T t = 6 then (match k with
      | 0 => .inl (2, t)
      | k + 1 => if 400 ≤ t then .inl (2, t) else tx_r (tx_sumU T (tx_un T V k) (t + 1)) (fun x => tx_b (tx_ck T 7 x.2) (.inr (x.1, x.2 + 1))))
    else .inl (1, t)
def tx_part (K : q_TK) (k : Nat) : Nat → q_XR := tx_seq (tk_T K) 10 15 (tx_un (tk_T K) (tk_V K) k)
def tx_sum (K : q_TK) (k : Nat) : Nat → q_XR := tx_sumU (tk_T K) (tx_un (tk_T K) (tk_V K) k)
theorem tx_sum_eq (K : q_TK) (k t : Nat) : tx_sum K k t = tx_seq (tk_T K) 8 9 (tx_part K k) t := rfl
theorem tx_un_0 (T V : Nat → Nat) (t : Nat) : tx_un T V 0 t = if T t = 2 then (if 400 ≤ t then .inl (2, t) else .inr ([(0, nI (V t))], t + 1)) else if 31 ≤ T t ∧ T t ≤ 36 then (if 400 ≤ t then .inl (2, t) else .inr ([(1, nI (T t - 31))], t + 1)) else if T t = 6 then .inl (2, t) else .inl (1, t) := by
  rw [tx_un]
theorem tx_un_s (T V : Nat → Nat) (k t : Nat) : tx_un T V (k + 1) t = if T t = 2 then (if 400 ≤ t then .inl (2, t) else .inr ([(0, nI (V t))], t + 1)) else if 31 ≤ T t ∧ T t ≤ 36 then (if 400 ≤ t then .inl (2, t) else .inr ([(1, nI (T t - 31))], t + 1)) else if T t = 6 then (if 400 ≤ t then .inl (2, t) else tx_r (tx_sumU T (tx_un T V k) (t + 1)) (fun x => tx_b (tx_ck T 7 x.2) (.inr (x.1, x.2 + 1)))) else .inl (1, t) := by
  rw [tx_un]
/-- a piece of code that leaves one number more -/
def tx_sg (m n : Nat) (c : List (Nat × Int32)) : Prop := ∀ r, q_wf m r (n + 1) → q_wf m (c ++ r) n
/-- a good answer: at least one token taken, none behind the 400th, no more steps than tokens, the pile no higher than 30 -/
def tx_ok (e t : Nat) (x : List (Nat × Int32) × Nat) : Prop := t < x.2 ∧ x.2 ≤ 400 ∧ x.1.length ≤ x.2 - t ∧ 0 < x.1.length ∧ ∀ n, n + e ≤ 30 → tx_sg 30 n x.1
def tx_good (e : Nat) (U : Nat → q_XR) : Prop := ∀ t x, U t = .inr x → tx_ok e t x
theorem tx_r_inr {α β : Type} {o : (Nat × Nat) ⊕ α} {f : α → (Nat × Nat) ⊕ β} {y : β} (h : tx_r o f = .inr y) : ∃ x, o = .inr x ∧ f x = .inr y := by
  cases o with
  | inl e => cases h
  | inr x => exact ⟨x, rfl, h⟩
theorem tx_b_inr {α : Type} {o : Option (Nat × Nat)} {x : (Nat × Nat) ⊕ α} {y : α} (h : tx_b o x = .inr y) : o = none ∧ x = .inr y := by
  cases o with
  | some e => cases h
  | none => exact ⟨rfl, h⟩
theorem tx_ck_none {T : Nat → Nat} {k t : Nat} (h : tx_ck T k t = none) : T t = k ∧ t < 400 := by
  unfold tx_ck at h
  by_cases h1 : T t = k
  · rw [if_pos h1] at h
    by_cases h2 : 400 ≤ t
    · rw [if_pos h2] at h
      cases h
    · exact ⟨h1, by omega⟩
  · rw [if_neg h1] at h
    cases h
theorem tx_ck_1 {T : Nat → Nat} {k t : Nat} (h : ¬ T t = k) : tx_ck T k t = some (1, t) := by
  unfold tx_ck
  rw [if_neg h]
theorem tx_ck_2 {T : Nat → Nat} {k t : Nat} (h : T t = k) (h2 : 400 ≤ t) : tx_ck T k t = some (2, t) := by
  unfold tx_ck
  rw [if_pos h, if_pos h2]
theorem tx_ck_0 {T : Nat → Nat} {k t : Nat} (h : T t = k) (h2 : t < 400) : tx_ck T k t = none := by
  unfold tx_ck
  rw [if_pos h, if_neg (by omega)]
theorem tx_op_le (k : Nat) : 2 ≤ tx_op k ∧ tx_op k ≤ 5 := by
  unfold tx_op
  split
  · omega
  · split
    · omega
    · split <;> omega
theorem tx_sg_op {m n k : Nat} {c c' : List (Nat × Int32)} {v : Int32} (hk : 2 ≤ k ∧ k ≤ 5) (h1 : tx_sg m n c) (h2 : tx_sg m (n + 1) c') : tx_sg m n (c ++ c' ++ [(k, v)]) := by
  intro r hr
  rw [List.append_assoc, List.append_assoc]
  refine h1 _ (h2 _ ?_)
  obtain ⟨j, rfl⟩ : ∃ j, k = j + 2 := ⟨k - 2, by omega⟩
  show q_wf m ((j + 2, v) :: r) (n + 1 + 1)
  exact ⟨by omega, by omega, hr⟩
theorem tx_pl_ok {T : Nat → Nat} {a b e : Nat} {U : Nat → q_XR} (hU : tx_good e U) {t0 : Nat} : ∀ (n : Nat) (c : List (Nat × Int32)) (t : Nat) (x : List (Nat × Int32) × Nat), tx_ok (e + 1) t0 (c, t) → tx_pl T a b U n c t = .inr x → tx_ok (e + 1) t0 x
  | 0, c, t, x, h, hx => by
    cases hx
    exact h
  | n + 1, c, t, x, h, hx => by
    rw [tx_pl] at hx
    by_cases h1 : T t = a ∨ T t = b
    · rw [if_pos h1] at hx
      by_cases h2 : 400 ≤ t
      · rw [if_pos h2] at hx
        cases hx
      · rw [if_neg h2] at hx
        obtain ⟨y, hy1, hy2⟩ := tx_r_inr hx
        obtain ⟨g1, g2, g3, g4, g5⟩ := hU _ _ hy1
        obtain ⟨k1, k2, k3, k4, k5⟩ := h
        have k1 : t0 < t := k1
        have k3 : c.length ≤ t - t0 := k3
        have k4 : 0 < c.length := k4
        have k5 : ∀ n, n + (e + 1) ≤ 30 → tx_sg 30 n c := k5
        refine tx_pl_ok hU n (c ++ y.1 ++ [(tx_op (T t), nI 0)]) y.2 x ⟨by show t0 < y.2; omega, g2, ?_, ?_, fun n hn => tx_sg_op (tx_op_le _) (k5 n hn) (g5 (n + 1) (by omega))⟩ hy2
        · show (c ++ y.1 ++ [(tx_op (T t), nI 0)]).length ≤ y.2 - t0
          rw [List.length_append, List.length_append]
          show c.length + y.1.length + 1 ≤ _
          omega
        · show 0 < (c ++ y.1 ++ [(tx_op (T t), nI 0)]).length
          rw [List.length_append, List.length_append]
          omega
    · rw [if_neg h1] at hx
      cases hx
      exact h
theorem tx_ok_up {e e' t : Nat} {x : List (Nat × Int32) × Nat} (h : tx_ok e t x) (he : e ≤ e') : tx_ok e' t x := ⟨h.1, h.2.1, h.2.2.1, h.2.2.2.1, fun n hn => h.2.2.2.2 n (by omega)⟩
theorem tx_seq_ok {T : Nat → Nat} {a b e : Nat} {U : Nat → q_XR} (hU : tx_good e U) : tx_good (e + 1) (tx_seq T a b U) := by
  intro t x hx
  obtain ⟨y, hy1, hy2⟩ := tx_r_inr hx
  exact tx_pl_ok hU 401 _ _ x (tx_ok_up (hU t y hy1) (by omega)) hy2
theorem tx_sumU_ok {T : Nat → Nat} {e : Nat} {U : Nat → q_XR} (hU : tx_good e U) : tx_good (e + 2) (tx_sumU T U) := tx_seq_ok (tx_seq_ok hU)
theorem tx_un_ok {T V : Nat → Nat} : ∀ k, tx_good (2 * k + 1) (tx_un T V k) := by
  have h2 : ∀ t (x : List (Nat × Int32) × Nat) (v : Int32) e, ¬ 400 ≤ t → 1 ≤ e → (Sum.inr ([(0, v)], t + 1) : q_XR) = .inr x → tx_ok e t x := fun t x v e h he hx => by
    cases hx
    exact ⟨by show t < t + 1; omega, by show t + 1 ≤ 400; omega, by show 1 ≤ t + 1 - t; omega, by show 0 < 1; omega, fun n hn r hr => ⟨by omega, hr⟩⟩
  have h3 : ∀ t (x : List (Nat × Int32) × Nat) e, ¬ 400 ≤ t → 1 ≤ e → 31 ≤ T t ∧ T t ≤ 36 → (Sum.inr ([(1, nI (T t - 31))], t + 1) : q_XR) = .inr x → tx_ok e t x := fun t x e h he hv hx => by
    cases hx
    exact ⟨by show t < t + 1; omega, by show t + 1 ≤ 400; omega, by show 1 ≤ t + 1 - t; omega, by show 0 < 1; omega, fun n hn r hr => ⟨by omega, ⟨T t - 31, by omega, rfl⟩, hr⟩⟩
  intro k
  induction k with
  | zero =>
    intro t x hx
    rw [tx_un_0] at hx
    split at hx
    · split at hx
      · cases hx
      · exact h2 t x _ _ (by assumption) (by omega) hx
    · split at hx
      · split at hx
        · cases hx
        · exact h3 t x _ (by assumption) (by omega) (by assumption) hx
      · split at hx
        · cases hx
        · cases hx
  | succ k ih =>
    intro t x hx
    rw [tx_un_s] at hx
    split at hx
    · split at hx
      · cases hx
      · exact h2 t x _ _ (by assumption) (by omega) hx
    · split at hx
      · split at hx
        · cases hx
        · exact h3 t x _ (by assumption) (by omega) (by assumption) hx
      · split at hx
        · split at hx
          · cases hx
          · obtain ⟨y, hy1, hy2⟩ := tx_r_inr hx
            obtain ⟨hc, hy3⟩ := tx_b_inr hy2
            cases hy3
            obtain ⟨g1, g2, g3, g4, g5⟩ := tx_sumU_ok ih _ _ hy1
            have hc2 := tx_ck_none hc
            exact ⟨by show t < y.2 + 1; omega, by show y.2 + 1 ≤ 400; omega, by show y.1.length ≤ y.2 + 1 - t; omega, g4, fun n hn => g5 n (by omega)⟩
        · cases hx
theorem tx_part_ok (K : q_TK) (k : Nat) : tx_good (2 * k + 2) (tx_part K k) := tx_seq_ok (tx_un_ok k)
theorem tx_sum_ok (K : q_TK) (k : Nat) : tx_good (2 * k + 3) (tx_sum K k) := tx_sumU_ok (tx_un_ok k)
/-- a whole code out of a sum -/
theorem tx_sum_wf {K : q_TK} {t : Nat} {x : List (Nat × Int32) × Nat} (h : tx_sum K 6 t = .inr x) : q_wf 30 x.1 0 := by
  have := (tx_sum_ok K 6 t x h).2.2.2.2 0 (by omega) [] rfl
  rwa [List.append_nil] at this
/-- what a text has told so far: names of men, of deeds; feathers, guilt, cold, moult; laws; the first later fault (kind, token) -/
abbrev q_PS : Type := List (List Nat) × List (List Nat) × List Nat × List Nat × List Nat × Nat × q_LW × Option (Nat × Nat)
def ps_m (s : q_PS) : List (List Nat) := s.1
def ps_d (s : q_PS) : List (List Nat) := s.2.1
def ps_f (s : q_PS) : List Nat := s.2.2.1
def ps_g (s : q_PS) : List Nat := s.2.2.2.1
def ps_c (s : q_PS) : List Nat := s.2.2.2.2.1
def ps_o (s : q_PS) : Nat := s.2.2.2.2.2.1
def ps_L (s : q_PS) : q_LW := s.2.2.2.2.2.2.1
def ps_e (s : q_PS) : Option (Nat × Nat) := s.2.2.2.2.2.2.2
def tx_lf (o : Option (Nat × Nat)) (c : Bool) (k t : Nat) : Option (Nat × Nat) := match o with
  | some e => some e
  | none => if c then some (k, t) else none
def tx_find (x : List Nat) : List (List Nat) → Nat → Option Nat
  | [], _ => none
  | y :: r, i => if y = x then some i else tx_find x r (i + 1)
def tx_up {α : Type} (f : Nat → α) (k : Nat) (v : α) : Nat → α := fun j => if j = k then v else f j
abbrev q_ROW : Type := List (Nat × Int32) × List (Nat × Int32) × List (Nat × Int32)
/-- the ifs of a law, k more may stand -/
def tx_ifs (K : q_TK) : Nat → List q_ROW → Nat → (Nat × Nat) ⊕ (q_lawT × Nat)
  | k, rows, t => if tk_T K t = 28 then (match k with
      | 0 => .inl (2, t)
      | k + 1 => tx_b (tx_ck (tk_T K) 28 t) (tx_r (tx_sum K 6 (t + 1)) fun x => tx_b (tx_ck (tk_T K) 13 x.2) (tx_r (tx_sum K 6 (x.2 + 1)) fun y => tx_b (tx_ck (tk_T K) 29 y.2) (tx_r (tx_sum K 6 (y.2 + 1)) fun z => tx_b (tx_ck (tk_T K) 30 z.2) (tx_ifs K k (rows ++ [(x.1, y.1, z.1)]) (z.2 + 1))))))
    else tx_r (tx_sum K 6 t) fun x => tx_b (tx_ck (tk_T K) 4 x.2) (.inr ((rows, x.1), x.2 + 1))
def tx_law (K : q_TK) (t : Nat) : (Nat × Nat) ⊕ (q_lawT × Nat) := tx_b (tx_ck (tk_T K) 5 t) (tx_ifs K 4 [] (t + 1))
def tx_man (K : q_TK) (s : q_PS) (t : Nat) : (Nat × Nat) ⊕ (q_PS × Nat) := if 8 ≤ (ps_m s).length then .inl (2, t) else
  tx_b (tx_ck (tk_T K) 20 t) (tx_b (tx_ck (tk_T K) 1 (t + 1)) (tx_b (tx_ck (tk_T K) 2 (t + 2)) (tx_b (tx_ck (tk_T K) 4 (t + 3)) (.inr ((ps_m s ++ [tk_N K (t + 1)], ps_d s, ps_f s ++ [tk_V K (t + 2)], ps_g s, ps_c s, ps_o s, ps_L s,
    tx_lf (tx_lf (ps_e s) ((tx_find (tk_N K (t + 1)) (ps_m s) 0).isSome || (tx_find (tk_N K (t + 1)) (ps_d s) 0).isSome) 3 (t + 1)) (decide (999 < tk_V K (t + 2))) 5 (t + 2)), t + 4)))))
def tx_deed (K : q_TK) (s : q_PS) (t : Nat) : (Nat × Nat) ⊕ (q_PS × Nat) := if 8 ≤ (ps_d s).length then .inl (2, t) else
  tx_b (tx_ck (tk_T K) 21 t) (tx_b (tx_ck (tk_T K) 1 (t + 1)) (tx_b (tx_ck (tk_T K) 2 (t + 2)) (tx_b (tx_ck (tk_T K) 4 (t + 3)) (.inr ((ps_m s, ps_d s ++ [tk_N K (t + 1)], ps_f s, ps_g s ++ [tk_V K (t + 2)], ps_c s, ps_o s, ps_L s,
    tx_lf (tx_lf (ps_e s) ((tx_find (tk_N K (t + 1)) (ps_m s) 0).isSome || (tx_find (tk_N K (t + 1)) (ps_d s) 0).isSome) 3 (t + 1)) (decide (99 < tk_V K (t + 2))) 5 (t + 2)), t + 4)))))
def tx_setL (L : q_LW) (b : Nat) (o : Option Nat) (w : q_lawT) : q_LW := match o with
  | none => L
  | some i => tx_up L (b + i) (some w)
def tx_putL (s : q_PS) (L : q_LW) (e : Option (Nat × Nat)) : q_PS := (ps_m s, ps_d s, ps_f s, ps_g s, ps_c s, ps_o s, L, e)
def tx_named (K : q_TK) (s : q_PS) (k b : Nat) (ns : List (List Nat)) (t : Nat) : (Nat × Nat) ⊕ (q_PS × Nat) :=
  tx_b (tx_ck (tk_T K) k t) (tx_b (tx_ck (tk_T K) 1 (t + 1)) (tx_r (tx_law K (t + 2)) fun x => .inr (tx_putL s (tx_setL (ps_L s) b (tx_find (tk_N K (t + 1)) ns 0) x.1) (tx_lf (ps_e s) (tx_find (tk_N K (t + 1)) ns 0).isNone 4 (t + 1)), x.2)))
def tx_plain (K : q_TK) (s : q_PS) (k b : Nat) (t : Nat) : (Nat × Nat) ⊕ (q_PS × Nat) :=
  tx_b (tx_ck (tk_T K) k t) (tx_r (tx_law K (t + 1)) fun x => .inr (tx_putL s (tx_up (ps_L s) b (some x.1)) (ps_e s), x.2))
def tx_co (K : q_TK) : Nat → List Nat → Option (Nat × Nat) → Nat → (Nat × Nat) ⊕ ((List Nat × Option (Nat × Nat)) × Nat)
  | k, c, e, t => if tk_T K t = 2 then (match k with
      | 0 => .inl (2, t)
      | k + 1 => tx_b (tx_ck (tk_T K) 2 t) (tx_co K k (c ++ [tk_V K t]) (tx_lf e (decide (999 < tk_V K t)) 5 t) (t + 1)))
    else tx_b (tx_ck (tk_T K) 4 t) (.inr ((c, e), t + 1))
def tx_cold (K : q_TK) (s : q_PS) (t : Nat) : (Nat × Nat) ⊕ (q_PS × Nat) := tx_b (tx_ck (tk_T K) 26 t) (tx_r (tx_co K 12 [] (ps_e s) (t + 1)) fun x => .inr ((ps_m s, ps_d s, ps_f s, ps_g s, x.1.1, ps_o s, ps_L s, x.1.2), x.2))
def tx_moult (K : q_TK) (s : q_PS) (t : Nat) : (Nat × Nat) ⊕ (q_PS × Nat) := tx_b (tx_ck (tk_T K) 27 t) (tx_b (tx_ck (tk_T K) 2 (t + 1)) (tx_b (tx_ck (tk_T K) 4 (t + 2)) (.inr ((ps_m s, ps_d s, ps_f s, ps_g s, ps_c s, tk_V K (t + 1), ps_L s, tx_lf (ps_e s) (decide (tk_V K (t + 1) < 1 ∨ 99 < tk_V K (t + 1))) 5 (t + 1)), t + 3))))
def tx_tell (K : q_TK) (s : q_PS) (t : Nat) : (Nat × Nat) ⊕ (q_PS × Nat) :=
  if tk_T K t = 20 then tx_man K s t else if tk_T K t = 21 then tx_deed K s t else if tk_T K t = 22 then tx_named K s 22 0 (ps_d s) t else if tk_T K t = 23 then tx_plain K s 23 16 t
  else if tk_T K t = 24 then tx_plain K s 24 17 t else if tk_T K t = 25 then tx_named K s 25 8 (ps_m s) t else if tk_T K t = 26 then tx_cold K s t else if tk_T K t = 27 then tx_moult K s t else .inl (1, t)
def tx_all (K : q_TK) : Nat → q_PS → Nat → (Nat × Nat) ⊕ (q_PS × Nat)
  | 0, s, t => .inr (s, t)
  | n + 1, s, t => if tk_T K t = 0 then .inr (s, t) else tx_r (tx_tell K s t) fun x => tx_all K n x.1 x.2
def tx_0 : q_PS := ([], [], [], [], [], 0, fun _ => none, none)
