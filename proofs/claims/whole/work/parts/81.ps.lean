/-! what a text tells is within its bounds; faults are 1 to 5 -/
def tx_12 {α : Type} (o : (Nat × Nat) ⊕ α) : Prop := ∀ e, o = .inl e → 1 ≤ e.1 ∧ e.1 ≤ 2
theorem t12_r {α : Type} {x : α} : tx_12 (.inr x : (Nat × Nat) ⊕ α) := fun _ h => by cases h
theorem t12_1 {α : Type} {t : Nat} : tx_12 (.inl (1, t) : (Nat × Nat) ⊕ α) := fun _ h => by cases h; exact ⟨(show 1 ≤ 1 by decide), (show 1 ≤ 2 by decide)⟩
theorem t12_2 {α : Type} {t : Nat} : tx_12 (.inl (2, t) : (Nat × Nat) ⊕ α) := fun _ h => by cases h; exact ⟨(show 1 ≤ 2 by decide), (show 2 ≤ 2 by decide)⟩
theorem t12_b {α : Type} {T : Nat → Nat} {k t : Nat} {x : (Nat × Nat) ⊕ α} (hx : tx_12 x) : tx_12 (tx_b (tx_ck T k t) x) := by
  unfold tx_ck
  by_cases h : T t = k
  · rw [if_pos h]
    by_cases h2 : 400 ≤ t
    · rw [if_pos h2]
      exact t12_2
    · rw [if_neg h2]
      exact hx
  · rw [if_neg h]
    exact t12_1
theorem t12_s {α β : Type} {o : (Nat × Nat) ⊕ α} {f : α → (Nat × Nat) ⊕ β} (ho : tx_12 o) (hf : ∀ x, tx_12 (f x)) : tx_12 (tx_r o f) := by
  cases o with
  | inl e =>
    intro e' h
    have h : (Sum.inl e : (Nat × Nat) ⊕ β) = .inl e' := h
    cases h
    exact ho e rfl
  | inr x => exact hf x
theorem t12_if {α : Type} {p : Prop} [Decidable p] {x y : (Nat × Nat) ⊕ α} (hx : tx_12 x) (hy : tx_12 y) : tx_12 (if p then x else y) := by
  by_cases h : p
  · rw [if_pos h]; exact hx
  · rw [if_neg h]; exact hy
theorem t12_pl {T : Nat → Nat} {a b : Nat} {U : Nat → q_XR} (hU : ∀ t, tx_12 (U t)) : ∀ n c t, tx_12 (tx_pl T a b U n c t)
  | 0, _, _ => t12_r
  | n + 1, c, t => t12_if (t12_if t12_2 (t12_s (hU _) (fun x => t12_pl hU n _ _))) t12_r
theorem t12_seq {T : Nat → Nat} {a b : Nat} {U : Nat → q_XR} (hU : ∀ t, tx_12 (U t)) (t : Nat) : tx_12 (tx_seq T a b U t) := t12_s (hU t) (fun x => t12_pl hU 401 _ _)
theorem t12_un {T V : Nat → Nat} : ∀ k t, tx_12 (tx_un T V k t)
  | 0, t => by
    rw [tx_un_0]
    exact t12_if (t12_if t12_2 t12_r) (t12_if (t12_if t12_2 t12_r) (t12_if t12_2 t12_1))
  | k + 1, t => by
    rw [tx_un_s]
    exact t12_if (t12_if t12_2 t12_r) (t12_if (t12_if t12_2 t12_r) (t12_if (t12_if t12_2 (t12_s (t12_seq (fun t => t12_seq (fun t => t12_un k t) t) _) (fun x => t12_b t12_r))) t12_1))
theorem t12_sum {K : q_TK} {k t : Nat} : tx_12 (tx_sum K k t) := t12_seq (fun t => t12_seq (fun t => t12_un k t) t) t
theorem t12_ifs {K : q_TK} : ∀ k rows t, tx_12 (tx_ifs K k rows t)
  | 0, rows, t => by
    rw [tx_ifs]
    exact t12_if t12_2 (t12_s t12_sum (fun x => t12_b t12_r))
  | k + 1, rows, t => by
    rw [tx_ifs]
    exact t12_if (t12_b (t12_s t12_sum (fun x => t12_b (t12_s t12_sum (fun y => t12_b (t12_s t12_sum (fun z => t12_b (t12_ifs k _ _)))))))) (t12_s t12_sum (fun x => t12_b t12_r))
theorem t12_law {K : q_TK} {t : Nat} : tx_12 (tx_law K t) := t12_b (t12_ifs _ _ _)
theorem t12_co {K : q_TK} : ∀ k c e t, tx_12 (tx_co K k c e t)
  | 0, c, e, t => by
    rw [tx_co]
    exact t12_if t12_2 (t12_b t12_r)
  | k + 1, c, e, t => by
    rw [tx_co]
    exact t12_if (t12_b (t12_co k _ _ _)) (t12_b t12_r)
theorem t12_tell {K : q_TK} {s : q_PS} {t : Nat} : tx_12 (tx_tell K s t) := by
  unfold tx_tell
  exact t12_if (t12_if t12_2 (t12_b (t12_b (t12_b (t12_b t12_r))))) (t12_if (t12_if t12_2 (t12_b (t12_b (t12_b (t12_b t12_r))))) (t12_if (t12_b (t12_b (t12_s t12_law (fun _ => t12_r)))) (t12_if (t12_b (t12_s t12_law (fun _ => t12_r)))
    (t12_if (t12_b (t12_s t12_law (fun _ => t12_r))) (t12_if (t12_b (t12_b (t12_s t12_law (fun _ => t12_r)))) (t12_if (t12_b (t12_s (t12_co _ _ _ _) (fun _ => t12_r))) (t12_if (t12_b (t12_b (t12_b t12_r))) t12_1)))))))
theorem t12_all {K : q_TK} : ∀ n s t, tx_12 (tx_all K n s t)
  | 0, _, _ => t12_r
  | n + 1, s, t => t12_if t12_r (t12_s t12_tell (fun x => t12_all n _ _))
/-- later faults are 3 to 5; without one all is within its bounds -/
def e_35 (o : Option (Nat × Nat)) : Prop := ∀ e, o = some e → 3 ≤ e.1 ∧ e.1 ≤ 5
theorem e35_lf {o : Option (Nat × Nat)} {c : Bool} {k t : Nat} (h : e_35 o) (hk : 3 ≤ k ∧ k ≤ 5) : e_35 (tx_lf o c k t) := by
  cases o with
  | some e => exact h
  | none =>
    cases c with
    | false => exact fun e (q : none = some e) => by cases q
    | true =>
      intro e q
      have q : some (k, t) = some e := q
      cases q
      exact hk
theorem lf_no {o : Option (Nat × Nat)} {c : Bool} {k t : Nat} (h : tx_lf o c k t = none) : o = none ∧ c = false := by
  cases o with
  | some e => cases h
  | none =>
    cases c with
    | false => exact ⟨rfl, rfl⟩
    | true => cases h
def ps_ok (s : q_PS) : Prop := e_35 (ps_e s) ∧ (ps_e s = none → ps_o s ≤ 99 ∧ (∀ x ∈ ps_f s, x ≤ 999) ∧ (∀ x ∈ ps_g s, x ≤ 99) ∧ ∀ x ∈ ps_c s, x ≤ 999)
theorem in_snoc {l : List Nat} {v b : Nat} (h : ∀ x ∈ l, x ≤ b) (hv : v ≤ b) : ∀ x ∈ l ++ [v], x ≤ b := by
  intro x hx
  rcases List.mem_append.mp hx with q | q
  · exact h x q
  · rw [List.mem_singleton.mp q]
    exact hv
theorem co_ok {K : q_TK} : ∀ k c e t x, tx_co K k c e t = .inr x → (e_35 e → e_35 x.1.2) ∧ (x.1.2 = none → e = none ∧ ((∀ y ∈ c, y ≤ 999) → ∀ y ∈ x.1.1, y ≤ 999))
  | 0, c, e, t, x, h => by
    rw [tx_co] at h
    by_cases q : tk_T K t = 2
    · rw [if_pos q] at h
      cases h
    · rw [if_neg q] at h
      have := (tx_b_inr h).2
      cases this
      exact ⟨fun z => z, fun z => ⟨z, fun z => z⟩⟩
  | k + 1, c, e, t, x, h => by
    rw [tx_co] at h
    by_cases q : tk_T K t = 2
    · rw [if_pos q] at h
      obtain ⟨h1, h2⟩ := co_ok k _ _ _ x (tx_b_inr h).2
      refine ⟨fun z => h1 (e35_lf z ⟨by decide, by decide⟩), fun z => ?_⟩
      obtain ⟨h3, h4⟩ := h2 z
      obtain ⟨h5, h6⟩ := lf_no h3
      have h6 := of_decide_eq_false h6
      exact ⟨h5, fun hc => h4 (in_snoc hc (by omega))⟩
    · rw [if_neg q] at h
      have := (tx_b_inr h).2
      cases this
      exact ⟨fun z => z, fun z => ⟨z, fun z => z⟩⟩
theorem ps_tell {K : q_TK} {s : q_PS} {t : Nat} {x : q_PS × Nat} (hs : ps_ok s) (h : tx_tell K s t = .inr x) : ps_ok x.1 := by
  obtain ⟨h1, h2⟩ := hs
  have named : ∀ k b ns, tx_named K s k b ns t = .inr x → ps_ok x.1 := fun k b ns h => by
    obtain ⟨y, -, hy⟩ := tx_r_inr (tx_b_inr (tx_b_inr h).2).2
    cases hy
    exact ⟨e35_lf h1 ⟨by decide, by decide⟩, fun z => h2 (lf_no z).1⟩
  have plain : ∀ k b, tx_plain K s k b t = .inr x → ps_ok x.1 := fun k b h => by
    obtain ⟨y, -, hy⟩ := tx_r_inr (tx_b_inr h).2
    cases hy
    exact ⟨h1, h2⟩
  unfold tx_tell at h
  split at h
  · unfold tx_man at h
    split at h
    · cases h
    · have := (tx_b_inr (tx_b_inr (tx_b_inr (tx_b_inr h).2).2).2).2
      cases this
      refine ⟨e35_lf (e35_lf h1 ⟨by decide, by decide⟩) ⟨by decide, by decide⟩, fun z => ?_⟩
      obtain ⟨z1, z2⟩ := lf_no z
      obtain ⟨a1, a2, a3, a4⟩ := h2 (lf_no z1).1
      have z2 := of_decide_eq_false z2
      exact ⟨a1, in_snoc a2 (by omega), a3, a4⟩
  · split at h
    · unfold tx_deed at h
      split at h
      · cases h
      · have := (tx_b_inr (tx_b_inr (tx_b_inr (tx_b_inr h).2).2).2).2
        cases this
        refine ⟨e35_lf (e35_lf h1 ⟨by decide, by decide⟩) ⟨by decide, by decide⟩, fun z => ?_⟩
        obtain ⟨z1, z2⟩ := lf_no z
        obtain ⟨a1, a2, a3, a4⟩ := h2 (lf_no z1).1
        have z2 := of_decide_eq_false z2
        exact ⟨a1, a2, in_snoc a3 (by omega), a4⟩
    · split at h
      · exact named _ _ _ h
      · split at h
        · exact plain _ _ h
        · split at h
          · exact plain _ _ h
          · split at h
            · exact named _ _ _ h
            · split at h
              · obtain ⟨y, hy1, hy⟩ := tx_r_inr (tx_b_inr h).2
                cases hy
                obtain ⟨b1, b2⟩ := co_ok _ _ _ _ _ hy1
                refine ⟨b1 h1, fun z => ?_⟩
                obtain ⟨c1, c2⟩ := b2 z
                obtain ⟨a1, a2, a3, a4⟩ := h2 c1
                exact ⟨a1, a2, a3, c2 (fun y hy => absurd hy List.not_mem_nil)⟩
              · split at h
                · have := (tx_b_inr (tx_b_inr (tx_b_inr h).2).2).2
                  cases this
                  refine ⟨e35_lf h1 ⟨by decide, by decide⟩, fun z => ?_⟩
                  obtain ⟨z1, z2⟩ := lf_no z
                  obtain ⟨a1, a2, a3, a4⟩ := h2 z1
                  have z2 := of_decide_eq_false z2
                  exact ⟨by show tk_V K (t + 1) ≤ 99; omega, a2, a3, a4⟩
                · cases h
theorem ps_all {K : q_TK} : ∀ n s t x, ps_ok s → tx_all K n s t = .inr x → ps_ok x.1
  | 0, s, t, x, hs, h => by
    cases h
    exact hs
  | n + 1, s, t, x, hs, h => by
    rw [tx_all] at h
    split at h
    · cases h
      exact hs
    · obtain ⟨y, hy1, hy2⟩ := tx_r_inr h
      exact ps_all n y.1 y.2 x (ps_tell hs hy1) hy2
theorem ps_0 : ps_ok tx_0 := ⟨(fun e (q : none = some e) => by cases q), fun _ => ⟨(show 0 ≤ 99 by decide), fun x hx => absurd hx List.not_mem_nil, fun x hx => absurd hx List.not_mem_nil, fun x hx => absurd hx List.not_mem_nil⟩⟩
