/-! feathers as numbers: moves on both sides -/
def q_up (f : Nat → Nat) (k v : Nat) : Nat → Nat := fun j => if j = k then v else f j
theorem q_up_s {f : Nat → Nat} {k v : Nat} : q_up f k v k = v := if_pos rfl
theorem q_up_n {f : Nat → Nat} {k v j : Nat} (h : j ≠ k) : q_up f k v j = f j := if_neg h
def q_ns (f : Nat → Nat) : Nat → Nat
  | 0 => 0
  | n + 1 => q_ns f n + f n
theorem q_ns_up {f : Nat → Nat} {k v : Nat} : ∀ n, k < n → q_ns (q_up f k v) n + f k = q_ns f n + v
  | 0, h => absurd h (Nat.not_lt_zero _)
  | n + 1, h => by
    show q_ns (q_up f k v) n + q_up f k v n + f k = q_ns f n + f n + v
    rcases Nat.lt_or_ge k n with q | q
    · have ih := q_ns_up (f := f) (v := v) n q
      rw [q_up_n (by omega)]
      omega
    · have e : k = n := by omega
      subst e
      have e2 : ∀ m, m ≤ k → q_ns (q_up f k v) m = q_ns f m := by
        intro m
        induction m with
        | zero => intro _; rfl
        | succ m ih =>
          intro hm
          show q_ns (q_up f k v) m + q_up f k v m = q_ns f m + f m
          rw [ih (by omega), q_up_n (by omega)]
      rw [e2 k (Nat.le_refl _), q_up_s]
      omega
theorem q_ns_ge {f : Nat → Nat} : ∀ n k, k < n → f k ≤ q_ns f n
  | 0, k, h => absurd h (Nat.not_lt_zero _)
  | n + 1, k, h => by
    show f k ≤ q_ns f n + f n
    rcases Nat.lt_or_ge k n with q | q
    · have := q_ns_ge (f := f) n k q
      omega
    · rw [show k = n by omega]
      omega
theorem q_ns_co {f g : Nat → Nat} : ∀ {n : Nat}, (∀ k, k < n → f k = g k) → q_ns f n = q_ns g n
  | 0, _ => rfl
  | n + 1, h => by
    show q_ns f n + f n = q_ns g n + g n
    rw [h n (by omega), q_ns_co (fun k hk => h k (by omega))]
/-- what a goose (or the chest) has -/
def q_hv (f : Nat → Nat) (g : Nat) : Nat := q_ns (fun k => f (8 * g + k)) 8
theorem q_ns_add (f : Nat → Nat) (a : Nat) : ∀ b, q_ns f (a + b) = q_ns f a + q_ns (fun k => f (a + k)) b
  | 0 => rfl
  | b + 1 => by
    show q_ns f (a + b) + f (a + b) = q_ns f a + (q_ns (fun k => f (a + k)) b + f (a + b))
    rw [q_ns_add f a b]
    omega
theorem q_ns_mono (f : Nat → Nat) {a : Nat} : ∀ b, a ≤ b → q_ns f a ≤ q_ns f b
  | 0, h => by rw [Nat.le_zero.mp h]; exact Nat.le_refl _
  | b + 1, h => by
    rcases Nat.lt_or_ge a (b + 1) with q | q
    · have := q_ns_mono f b (show a ≤ b by omega)
      show q_ns f a ≤ q_ns f b + f b
      omega
    · rw [show a = b + 1 by omega]
      exact Nat.le_refl _
theorem q_hv_le (f : Nat → Nat) {g : Nat} (hg : g < 9) : q_hv f g ≤ q_ns f 72 := by
  have h1 := q_ns_add f (8 * g) 8
  have h2 := q_ns_mono f (a := 8 * g + 8) 72 (by omega)
  unfold q_hv
  omega
theorem q_sum_ns {F : Nat → Int32} {f : Nat → Nat} : ∀ {n : Nat}, (∀ k, k < n → F k = nI (f k)) → q_sum F n = nI (q_ns f n)
  | 0, _ => rfl
  | n + 1, h => by
    show q_sum F n + F n = nI (q_ns f n + f n)
    rw [h n (by omega), q_sum_ns (fun k hk => h k (by omega)), nI_add]
/-- a row of feathers holds numbers -/
def q_rn (R : Nat → Int32) (f : Nat → Nat) : Prop := ∀ k, k < 72 → R k = nI (f k)
theorem q_rn_s8 {R : Nat → Int32} {f : Nat → Nat} (h : q_rn R f) {g : Nat} (hg : g < 9) : q_s8 R (8 * g) = nI (q_hv f g) := q_sum_ns (fun k hk => h _ (by omega))
def q_vN (F : Nat) (s : (Nat → Nat) × Nat) (k : Nat) : Nat := if s.2 ≤ s.1 (8 * F + k) then s.2 else s.1 (8 * F + k)
def q_n1 (F T : Nat) (s : (Nat → Nat) × Nat) (k : Nat) : (Nat → Nat) × Nat :=
  (q_up (q_up s.1 (8 * F + k) (s.1 (8 * F + k) - q_vN F s k)) (8 * T + k) (q_up s.1 (8 * F + k) (s.1 (8 * F + k) - q_vN F s k) (8 * T + k) + q_vN F s k), s.2 - q_vN F s k)
def q_mN (F T f0 : Nat) (f : Nat → Nat) (n : Nat) : Nat → (Nat → Nat) × Nat
  | 0 => q_n1 F T (f, n) f0
  | i + 1 => if i = f0 then q_mN F T f0 f n i else q_n1 F T (q_mN F T f0 f n i) i
theorem q_vN_le (F : Nat) (s : (Nat → Nat) × Nat) (k : Nat) : q_vN F s k ≤ s.2 ∧ q_vN F s k ≤ s.1 (8 * F + k) := by
  unfold q_vN
  split <;> omega
theorem q_n1_tot {F T k : Nat} {s : (Nat → Nat) × Nat} (hF : F < 9) (hT : T < 9) (hk : k < 8) : q_ns (q_n1 F T s k).1 72 = q_ns s.1 72 := by
  have h0 := q_vN_le F s k
  have h1 := q_ns_up (f := s.1) (k := 8 * F + k) (v := s.1 (8 * F + k) - q_vN F s k) 72 (by omega)
  have h2 := q_ns_up (f := q_up s.1 (8 * F + k) (s.1 (8 * F + k) - q_vN F s k)) (k := 8 * T + k) (v := q_up s.1 (8 * F + k) (s.1 (8 * F + k) - q_vN F s k) (8 * T + k) + q_vN F s k) 72 (by omega)
  show q_ns (q_up _ _ _) 72 = _
  omega
/-- both sides' state of a move is the numbers' -/
def q_ml (S : (Nat → Int32) × Int32) (s : (Nat → Nat) × Nat) : Prop := q_rn S.1 s.1 ∧ S.2 = nI s.2 ∧ s.2 < 2 ^ 30 ∧ q_ns s.1 72 < 2 ^ 30
theorem q_rn_up {R : Nat → Int32} {f : Nat → Nat} (h : q_rn R f) (k v : Nat) : q_rn (upd R k (nI v)) (q_up f k v) := by
  intro j hj
  unfold upd q_up
  split
  · rfl
  · exact h j hj
theorem q_m1_ml {F T k : Nat} {S : (Nat → Int32) × Int32} {s : (Nat → Nat) × Nat} (hF : F < 9) (hT : T < 9) (hk : k < 8) (h : q_ml S s) : q_ml (q_m1 F T S k) (q_n1 F T s k) := by
  obtain ⟨h1, h2, h3, h4⟩ := h
  have h0 := q_vN_le F s k
  have hb : s.1 (8 * F + k) < 2 ^ 30 := Nat.lt_of_le_of_lt (q_ns_ge 72 _ (by omega)) h4
  have ev : (if S.2 ≤ S.1 (8 * F + k) then S.2 else S.1 (8 * F + k)) = nI (q_vN F s k) := by
    rw [h2, h1 _ (by omega)]
    unfold q_vN
    by_cases q : s.2 ≤ s.1 (8 * F + k)
    · rw [if_pos q, if_pos ((nI_leI (by omega) (by omega)).mpr q)]
    · rw [if_neg q, if_neg (fun z => q ((nI_leI (by omega) (by omega)).mp z))]
  have e1 : S.1 (8 * F + k) - nI (q_vN F s k) = nI (s.1 (8 * F + k) - q_vN F s k) := by
    rw [h1 _ (by omega), pk_sub h0.2]
  have r1 := q_rn_up h1 (8 * F + k) (s.1 (8 * F + k) - q_vN F s k)
  have e2 : upd S.1 (8 * F + k) (nI (s.1 (8 * F + k) - q_vN F s k)) (8 * T + k) + nI (q_vN F s k) = nI (q_up s.1 (8 * F + k) (s.1 (8 * F + k) - q_vN F s k) (8 * T + k) + q_vN F s k) := by
    rw [r1 _ (by omega), nI_add]
  have r2 := q_rn_up r1 (8 * T + k) (q_up s.1 (8 * F + k) (s.1 (8 * F + k) - q_vN F s k) (8 * T + k) + q_vN F s k)
  refine ⟨?_, ?_, ?_, ?_⟩
  · show q_rn (upd (upd S.1 (8 * F + k) (S.1 (8 * F + k) - (if S.2 ≤ S.1 (8 * F + k) then S.2 else S.1 (8 * F + k)))) (8 * T + k) (upd S.1 (8 * F + k) (S.1 (8 * F + k) - (if S.2 ≤ S.1 (8 * F + k) then S.2 else S.1 (8 * F + k))) (8 * T + k) + (if S.2 ≤ S.1 (8 * F + k) then S.2 else S.1 (8 * F + k)))) _
    rw [ev, e1, e2]
    exact r2
  · show S.2 - (if S.2 ≤ S.1 (8 * F + k) then S.2 else S.1 (8 * F + k)) = nI (s.2 - q_vN F s k)
    rw [ev, h2, pk_sub h0.1]
  · show s.2 - q_vN F s k < 2 ^ 30
    omega
  · rw [q_n1_tot hF hT hk]
    exact h4
theorem q_m1c_ml {F T k : Nat} {S : (Nat → Int32) × Int32} {s : (Nat → Nat) × Nat} (hF : F < 9) (hT : T < 9) (hk : k < 8) (h : q_ml S s) : q_ml (q_m1c F T S k) (q_n1 F T s k) := by
  have e : q_m1c F T S k = q_m1 F T S k := by
    unfold q_m1c q_m1
    rw [Nat.mul_comm F 8, Nat.mul_comm T 8]
    have ev : (if S.1 (8 * F + k) < S.2 then S.1 (8 * F + k) else S.2) = (if S.2 ≤ S.1 (8 * F + k) then S.2 else S.1 (8 * F + k)) := by
      by_cases q : S.1 (8 * F + k) < S.2
      · rw [if_pos q, if_neg (Int32.not_le.mpr q)]
      · rw [if_neg q, if_pos (Int32.not_lt.mp q)]
    rw [ev]
  rw [e]
  exact q_m1_ml hF hT hk h
theorem q_mvs_ml {F T f0 : Nat} {R : Nat → Int32} {x : Int32} {f : Nat → Nat} {n : Nat} (hF : F < 9) (hT : T < 9) (hf : f0 < 8) (h : q_ml (R, x) (f, n)) : ∀ i, i ≤ 8 → q_ml (q_mvs F T f0 R x i) (q_mN F T f0 f n i)
  | 0, _ => q_m1_ml hF hT hf h
  | i + 1, hi => by
    have ih := q_mvs_ml hF hT hf h i (by omega)
    unfold q_mvs q_mN
    by_cases q : i = f0
    · rw [if_pos q, if_pos q]
      exact ih
    · rw [if_neg q, if_neg q]
      exact q_m1_ml hF hT (by omega) ih
theorem q_n1_0 {F T k : Nat} {s : (Nat → Nat) × Nat} (h : s.2 = 0 ∨ s.1 (8 * F + k) = 0) : q_n1 F T s k = s := by
  have hv : q_vN F s k = 0 := by
    have := q_vN_le F s k
    omega
  unfold q_n1
  rw [hv]
  refine Prod.ext ?_ rfl
  funext j
  show q_up (q_up s.1 (8 * F + k) (s.1 (8 * F + k) - 0)) (8 * T + k) (q_up s.1 (8 * F + k) (s.1 (8 * F + k) - 0) (8 * T + k) + 0) j = s.1 j
  unfold q_up
  by_cases q : j = 8 * T + k
  · rw [if_pos q, ← q]
    by_cases q2 : j = 8 * F + k
    · rw [if_pos q2, q2]
      omega
    · rw [if_neg q2]
      omega
  · rw [if_neg q]
    by_cases q2 : j = 8 * F + k
    · rw [if_pos q2, q2]
      omega
    · rw [if_neg q2]
/-- behind a step of kind k nothing of it is left to take, and so it stays -/
theorem q_n1_d {F T k : Nat} {s : (Nat → Nat) × Nat} (hFT : F ≠ T) (hk : k < 8) : (q_n1 F T s k).2 = 0 ∨ (q_n1 F T s k).1 (8 * F + k) = 0 := by
  show s.2 - q_vN F s k = 0 ∨ q_up (q_up s.1 (8 * F + k) (s.1 (8 * F + k) - q_vN F s k)) (8 * T + k) _ (8 * F + k) = 0
  rw [q_up_n (by omega), q_up_s]
  unfold q_vN
  split <;> omega
theorem q_n1_dk {F T k j : Nat} {s : (Nat → Nat) × Nat} (hFT : F ≠ T) (hk : k < 8) (hj : j < 8) (h : s.2 = 0 ∨ s.1 (8 * F + k) = 0) : (q_n1 F T s j).2 = 0 ∨ (q_n1 F T s j).1 (8 * F + k) = 0 := by
  by_cases q : j = k
  · rw [q]
    exact q_n1_d hFT hk
  · rcases h with h | h
    · exact Or.inl (by show s.2 - q_vN F s j = 0; omega)
    · refine Or.inr ?_
      show q_up (q_up s.1 (8 * F + j) _) (8 * T + j) _ (8 * F + k) = 0
      rw [q_up_n (by omega), q_up_n (by omega)]
      exact h
theorem q_mN_d {F T f0 : Nat} {f : Nat → Nat} {n : Nat} (hFT : F ≠ T) (hf : f0 < 8) : ∀ i, i ≤ 8 → (q_mN F T f0 f n i).2 = 0 ∨ (q_mN F T f0 f n i).1 (8 * F + f0) = 0
  | 0, _ => q_n1_d hFT hf
  | i + 1, hi => by
    have ih := q_mN_d (f := f) (n := n) hFT hf i (by omega)
    unfold q_mN
    split
    · exact ih
    · exact q_n1_dk hFT hf (by omega) ih
theorem q_mvc_ml {F T f0 : Nat} {R : Nat → Int32} {x : Int32} {f : Nat → Nat} {n : Nat} (hFT : F ≠ T) (hF : F < 9) (hT : T < 9) (hf : f0 < 8) (h : q_ml (R, x) (f, n)) : ∀ i, i ≤ 8 → q_ml (q_mvc F T f0 R x (i + 1)) (q_mN F T f0 f n i)
  | 0, _ => q_m1c_ml hF hT hf h
  | i + 1, hi => by
    have ih := q_mvc_ml hFT hF hT hf h i (by omega)
    have e : q_mvc F T f0 R x (i + 1 + 1) = q_m1c F T (q_mvc F T f0 R x (i + 1)) i := rfl
    rw [e]
    have st := q_m1c_ml hF hT (show i < 8 by omega) ih
    unfold q_mN
    by_cases q : i = f0
    · rw [if_pos q]
      have hd := q_mN_d (f := f) (n := n) hFT hf i (by omega)
      rw [q_n1_0 (by rw [q] at hd ⊢; exact hd)] at st
      exact st
    · rw [if_neg q]
      exact st
/-- how many are left -/
theorem q_mN_left {F T f0 : Nat} {f : Nat → Nat} {n : Nat} (hFT : F ≠ T) (hf : f0 < 8) : ∀ i, i ≤ 8 → (q_mN F T f0 f n i).2 = n - (f (8 * F + f0) + q_ns (fun k => if k = f0 then 0 else f (8 * F + k)) i) ∧ ∀ k, k < 8 → i ≤ k → k ≠ f0 → (q_mN F T f0 f n i).1 (8 * F + k) = f (8 * F + k)
  | 0, _ => by
    refine ⟨?_, fun k hk _ hne => ?_⟩
    · show n - q_vN F (f, n) f0 = n - (f (8 * F + f0) + 0)
      unfold q_vN
      simp only
      split <;> omega
    · show q_up (q_up f (8 * F + f0) _) (8 * T + f0) _ (8 * F + k) = _
      rw [q_up_n (by omega), q_up_n (by omega)]
  | i + 1, hi => by
    obtain ⟨h1, h2⟩ := q_mN_left (f := f) (n := n) hFT hf i (by omega)
    have es : q_ns (fun k => if k = f0 then 0 else f (8 * F + k)) (i + 1) = q_ns (fun k => if k = f0 then 0 else f (8 * F + k)) i + (if i = f0 then 0 else f (8 * F + i)) := rfl
    unfold q_mN
    by_cases q : i = f0
    · rw [if_pos q, es, if_pos q]
      exact ⟨by rw [h1]; omega, fun k hk h3 h4 => h2 k hk (by omega) h4⟩
    · rw [if_neg q, es, if_neg q]
      refine ⟨?_, fun k hk h3 h4 => ?_⟩
      · have h5 := h2 i (by omega) (Nat.le_refl _) q
        show (q_mN F T f0 f n i).2 - q_vN F (q_mN F T f0 f n i) i = _
        unfold q_vN
        rw [h5, h1]
        split <;> omega
      · show q_up (q_up _ (8 * F + i) _) (8 * T + i) _ (8 * F + k) = _
        rw [q_up_n (by omega), q_up_n (by omega)]
        exact h2 k hk (by omega) h4
theorem q_hv_first (f : Nat → Nat) (F : Nat) {f0 : Nat} (hf : f0 < 8) : q_hv f F = f (8 * F + f0) + q_ns (fun k => if k = f0 then 0 else f (8 * F + k)) 8 := by
  have key : ∀ n, q_ns (fun k => f (8 * F + k)) n = (if f0 < n then f (8 * F + f0) else 0) + q_ns (fun k => if k = f0 then 0 else f (8 * F + k)) n := by
    intro n
    induction n with
    | zero => rfl
    | succ n ih =>
      show q_ns _ n + f (8 * F + n) = _ + (q_ns _ n + (if n = f0 then 0 else f (8 * F + n)))
      rw [ih]
      by_cases h1 : n = f0
      · rw [if_pos h1, if_neg (by omega), if_pos (by omega), h1]
        omega
      · rw [if_neg h1]
        by_cases h2 : f0 < n
        · rw [if_pos h2, if_pos (by omega)]
          omega
        · rw [if_neg h2, if_neg (by omega)]
          omega
  unfold q_hv
  rw [key, if_pos hf]
theorem q_mN_fin {F T f0 : Nat} {f : Nat → Nat} {n : Nat} (hFT : F ≠ T) (hf : f0 < 8) : (q_mN F T f0 f n 8).2 = n - q_hv f F := by
  rw [(q_mN_left hFT hf 8 (Nat.le_refl _)).1, ← q_hv_first f F hf]
theorem q_mN_tot {F T f0 : Nat} {f : Nat → Nat} {n : Nat} (hF : F < 9) (hT : T < 9) (hf : f0 < 8) : ∀ i, i ≤ 8 → q_ns (q_mN F T f0 f n i).1 72 = q_ns f 72
  | 0, _ => q_n1_tot hF hT hf
  | i + 1, hi => by
    have ih := q_mN_tot (f := f) (n := n) hF hT hf i (by omega)
    unfold q_mN
    split
    · exact ih
    · rw [q_n1_tot hF hT (by omega)]
      exact ih
/-- rows that are none of the two stay -/
theorem q_mN_ne {F T f0 : Nat} {f : Nat → Nat} {n j : Nat} (hf : f0 < 8) (h1 : j / 8 ≠ F) (h2 : j / 8 ≠ T) : ∀ i, i ≤ 8 → (q_mN F T f0 f n i).1 j = f j
  | 0, _ => by
    show q_up (q_up f (8 * F + f0) _) (8 * T + f0) _ j = f j
    rw [q_up_n (by omega), q_up_n (by omega)]
  | i + 1, hi => by
    have ih := q_mN_ne (f := f) (n := n) hf h1 h2 i (by omega)
    unfold q_mN
    split
    · exact ih
    · show q_up (q_up _ (8 * F + i) _) (8 * T + i) _ j = f j
      rw [q_up_n (by omega), q_up_n (by omega)]
      exact ih
/-- columns stay in sum -/
theorem q_ml_of {R : Nat → Int32} {f : Nat → Nat} {n : Nat} (h : q_rn R f) (hn : n < 2 ^ 30) (ht : q_ns f 72 < 2 ^ 30) : q_ml (R, nI n) (f, n) := ⟨h, rfl, hn, ht⟩
