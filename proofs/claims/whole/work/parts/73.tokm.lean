/-! the abstract tokenizer: n bytes B -/
def tz_bl (c : Nat) : Bool := c == 32 || c == 9 || c == 10 || c == 13
def tz_le (c : Nat) : Bool := decide (97 ≤ c) && decide (c ≤ 122)
def tz_di (c : Nat) : Bool := decide (48 ≤ c) && decide (c ≤ 57)
theorem tz_le_i {c : Nat} : tz_le c = true ↔ 97 ≤ c ∧ c ≤ 122 := by
  unfold tz_le
  rw [Bool.and_eq_true, decide_eq_true_eq, decide_eq_true_eq]
theorem tz_di_i {c : Nat} : tz_di c = true ↔ 48 ≤ c ∧ c ≤ 57 := by
  unfold tz_di
  rw [Bool.and_eq_true, decide_eq_true_eq, decide_eq_true_eq]
theorem tz_bl_i {c : Nat} : tz_bl c = true ↔ (c = 32 ∨ c = 9 ∨ c = 10 ∨ c = 13) := by
  unfold tz_bl
  simp only [Bool.or_eq_true, beq_iff_eq]
  omega
def tz_g (P : Nat → Bool) (B : Nat → Nat) : Nat → Nat → Nat
  | 0, p => p
  | f + 1, p => if P (B p) = true then tz_g P B f (p + 1) else p
/-- the first place from p on where P ends -/
def tz_to (P : Nat → Bool) (n : Nat) (B : Nat → Nat) (p : Nat) : Nat := tz_g P B (n - p) p
theorem tz_to_n {P : Nat → Bool} {n : Nat} {B : Nat → Nat} {p : Nat} (h : n ≤ p) : tz_to P n B p = p := by
  unfold tz_to
  rw [show n - p = 0 by omega]
  rfl
theorem tz_to_t {P : Nat → Bool} {n : Nat} {B : Nat → Nat} {p : Nat} (h : p < n) (q : P (B p) = true) : tz_to P n B p = tz_to P n B (p + 1) := by
  unfold tz_to
  rw [show n - p = (n - (p + 1)) + 1 by omega, tz_g, if_pos q]
theorem tz_to_f {P : Nat → Bool} {n : Nat} {B : Nat → Nat} {p : Nat} (q : ¬ P (B p) = true) : tz_to P n B p = p := by
  unfold tz_to
  cases n - p with
  | zero => rfl
  | succ f => rw [tz_g, if_neg q]
theorem tz_g_ge {P : Nat → Bool} {B : Nat → Nat} : ∀ f p, p ≤ tz_g P B f p ∧ tz_g P B f p ≤ p + f ∧ ∀ j, p ≤ j → j < tz_g P B f p → P (B j) = true
  | 0, p => ⟨Nat.le_refl p, Nat.le_refl p, fun j h1 h2 => absurd (show j < p from h2) (by omega)⟩
  | f + 1, p => by
    rw [tz_g]
    split
    · obtain ⟨a, b, c⟩ := tz_g_ge (P := P) (B := B) f (p + 1)
      refine ⟨by omega, by omega, fun j h1 h2 => ?_⟩
      rcases Nat.eq_or_lt_of_le h1 with e | e
      · rw [← e]
        assumption
      · exact c j e h2
    · exact ⟨by omega, by omega, fun j h1 h2 => absurd h2 (by omega)⟩
theorem tz_ge {P : Nat → Bool} {n : Nat} {B : Nat → Nat} {p : Nat} : p ≤ tz_to P n B p := (tz_g_ge _ _).1
theorem tz_to_le {P : Nat → Bool} {n : Nat} {B : Nat → Nat} {p : Nat} (h : p ≤ n) : tz_to P n B p ≤ n := by
  have := (tz_g_ge (P := P) (B := B) (n - p) p).2.1
  unfold tz_to
  omega
theorem tz_in {P : Nat → Bool} {n : Nat} {B : Nat → Nat} {p j : Nat} (h1 : p ≤ j) (h2 : j < tz_to P n B p) : P (B j) = true := (tz_g_ge _ _).2.2 j h1 h2
theorem tz_gt {P : Nat → Bool} {n : Nat} {B : Nat → Nat} {p : Nat} (h : p < n) (q : P (B p) = true) : p < tz_to P n B p := by
  rw [tz_to_t h q]
  exact tz_ge
/-- the letters from p up to e -/
def tz_w (B : Nat → Nat) (p e : Nat) : List Nat := (List.range (e - p)).map (fun j => B (p + j) - 96)
theorem tz_w_len {B : Nat → Nat} {p e : Nat} : (tz_w B p e).length = e - p := by
  unfold tz_w
  rw [List.length_map, List.length_range]
theorem tz_w_0 {B : Nat → Nat} {p : Nat} : tz_w B p p = [] := by
  unfold tz_w
  rw [Nat.sub_self]
  rfl
theorem tz_w_s {B : Nat → Nat} {p e : Nat} (h : p ≤ e) : tz_w B p (e + 1) = tz_w B p e ++ [B e - 96] := by
  unfold tz_w
  rw [show e + 1 - p = (e - p) + 1 by omega, List.range_succ, List.map_append, List.map_singleton, show p + (e - p) = e by omega]
theorem tz_w_ok {B : Nat → Nat} {p e : Nat} (h8 : e - p ≤ 8) (h : ∀ j, p ≤ j → j < e → tz_le (B j) = true) : nm_ok (tz_w B p e) := by
  refine ⟨by rw [tz_w_len]; exact h8, fun c hc => ?_⟩
  obtain ⟨j, hj, rfl⟩ := List.mem_map.mp hc
  have hj2 := List.mem_range.mp hj
  have := tz_le_i.mp (h (p + j) (by omega) (by omega))
  omega
/-- k figures from p on as a number -/
def tz_v (B : Nat → Nat) (p : Nat) : Nat → Nat
  | 0 => 0
  | k + 1 => tz_v B p k * 10 + (B (p + k) - 48)
theorem tz_v_lt {B : Nat → Nat} {p : Nat} : ∀ k, (∀ j, p ≤ j → j < p + k → tz_di (B j) = true) → tz_v B p k < 10 ^ k
  | 0, _ => by show 0 < 1; omega
  | k + 1, h => by
    have ih := tz_v_lt k (fun j h1 h2 => h j h1 (by omega))
    have h1 := tz_di_i.mp (h (p + k) (by omega) (by omega))
    rw [tz_v, Nat.pow_succ]
    omega
def tz_kw : List (List Nat) := [[13, 1, 14], [4, 5, 5, 4], [6, 9, 14, 5], [7, 18, 15, 23], [23, 1, 18, 13], [22, 15, 20, 5], [3, 15, 12, 4], [13, 15, 21, 12, 20], [9, 6], [20, 8, 5, 14], [5, 12, 19, 5], [8, 1, 22, 5], [20, 9, 13, 5, 19], [23, 5, 5, 11], [23, 9, 14, 4], [3, 8, 5, 19, 20], [18, 1, 14, 11]]
/-- the last of k words that it is -/
def tz_ki (x : List Nat) : Nat → Nat
  | 0 => 1
  | k + 1 => if tz_kw.getD k [] = x then 20 + k else tz_ki x k
theorem tz_ki_w : ∀ w, w < 17 → tz_ki (tz_kw.getD w []) 17 = 20 + w := by decide +kernel
theorem tz_ki_no {x : List Nat} : ∀ k, (∀ w, w < k → tz_kw.getD w [] ≠ x) → tz_ki x k = 1
  | 0, _ => rfl
  | k + 1, h => by
    rw [tz_ki, if_neg (h k (by omega))]
    exact tz_ki_no k (fun w hw => h w (by omega))
theorem tz_ki_eq {x : List Nat} {w : Nat} (hw : w < 17) (e : tz_kw.getD w [] = x) : tz_ki x 17 = 20 + w := by
  rw [← e]
  exact tz_ki_w w hw
theorem tz_kw_ok : ∀ w, w < 17 → (tz_kw.getD w []).length ≤ 5 ∧ ∀ c ∈ tz_kw.getD w [], 1 ≤ c ∧ c ≤ 26 := by decide +kernel
theorem tz_kw_nm {w : Nat} (hw : w < 17) : nm_ok (tz_kw.getD w []) := ⟨by have := (tz_kw_ok w hw).1; omega, (tz_kw_ok w hw).2⟩
theorem tz_ki_le {x : List Nat} : ∀ k, k ≤ 17 → (tz_ki x k = 1 ∨ (20 ≤ tz_ki x k ∧ tz_ki x k ≤ 36))
  | 0, _ => Or.inl rfl
  | k + 1, h => by
    rw [tz_ki]
    split
    · exact Or.inr (by omega)
    · exact tz_ki_le k (by omega)
theorem tz_ki_8 {x : List Nat} (h : 5 < x.length) : tz_ki x 17 = 1 := tz_ki_no 17 (fun w hw e => by have := (tz_kw_ok w hw).1; rw [e] at this; omega)
def tz_sg (c : Nat) : Nat := if c = 59 then 4 else if c = 61 then 5 else if c = 40 then 6 else if c = 41 then 7 else if c = 43 then 8 else if c = 45 then 9 else if c = 42 then 10 else if c = 47 then 15 else if c = 60 then 13 else 3
theorem tz_sg_v (c : Nat) : tz_sg c = 3 ∨ (4 ≤ tz_sg c ∧ tz_sg c ≤ 10) ∨ tz_sg c = 13 ∨ tz_sg c = 15 := by
  unfold tz_sg
  repeat (first | omega | split)
theorem tz_sg_c : ∀ c, c < 256 → q_kap (tz_sg c) = if (∃ j, j < 9 ∧ os_b 1 j = nI c) then nI c else -1 := by decide +kernel
/-- the kind of the token that stands at p -/
def tz_k (n : Nat) (B : Nat → Nat) (p : Nat) : Nat := if n ≤ p then 0 else if tz_le (B p) = true then (if 8 < tz_to tz_le n B p - p then 3 else tz_ki (tz_w B p (tz_to tz_le n B p)) 17) else if tz_di (B p) = true then (if 4 < tz_to tz_di n B p - p then 3 else 2) else tz_sg (B p)
/-- its end -/
def tz_e (n : Nat) (B : Nat → Nat) (p : Nat) : Nat := if n ≤ p then p else if tz_le (B p) = true then tz_to tz_le n B p else if tz_di (B p) = true then tz_to tz_di n B p else p + 1
/-- where token i stands -/
def tz_p (n : Nat) (B : Nat → Nat) : Nat → Nat
  | 0 => tz_to tz_bl n B 0
  | i + 1 => tz_to tz_bl n B (tz_e n B (tz_p n B i))
def tz_K (n : Nat) (B : Nat → Nat) : q_TK := (fun i => tz_k n B (tz_p n B i), tz_p n B, fun i => tz_v B (tz_p n B i) (tz_to tz_di n B (tz_p n B i) - tz_p n B i), fun i => tz_w B (tz_p n B i) (tz_to tz_le n B (tz_p n B i)))
theorem tz_k_n {n : Nat} {B : Nat → Nat} {p : Nat} (h : n ≤ p) : tz_k n B p = 0 := if_pos h
theorem tz_k_l {n : Nat} {B : Nat → Nat} {p : Nat} (h : p < n) (q : tz_le (B p) = true) : tz_k n B p = if 8 < tz_to tz_le n B p - p then 3 else tz_ki (tz_w B p (tz_to tz_le n B p)) 17 := (if_neg (by omega)).trans (if_pos q)
theorem tz_k_d {n : Nat} {B : Nat → Nat} {p : Nat} (h : p < n) (q1 : ¬ tz_le (B p) = true) (q : tz_di (B p) = true) : tz_k n B p = if 4 < tz_to tz_di n B p - p then 3 else 2 := (if_neg (by omega)).trans ((if_neg q1).trans (if_pos q))
theorem tz_k_s {n : Nat} {B : Nat → Nat} {p : Nat} (h : p < n) (q1 : ¬ tz_le (B p) = true) (q : ¬ tz_di (B p) = true) : tz_k n B p = tz_sg (B p) := (if_neg (by omega)).trans ((if_neg q1).trans (if_neg q))
theorem tz_e_n {n : Nat} {B : Nat → Nat} {p : Nat} (h : n ≤ p) : tz_e n B p = p := if_pos h
theorem tz_e_l {n : Nat} {B : Nat → Nat} {p : Nat} (h : p < n) (q : tz_le (B p) = true) : tz_e n B p = tz_to tz_le n B p := (if_neg (by omega)).trans (if_pos q)
theorem tz_e_d {n : Nat} {B : Nat → Nat} {p : Nat} (h : p < n) (q1 : ¬ tz_le (B p) = true) (q : tz_di (B p) = true) : tz_e n B p = tz_to tz_di n B p := (if_neg (by omega)).trans ((if_neg q1).trans (if_pos q))
theorem tz_e_s {n : Nat} {B : Nat → Nat} {p : Nat} (h : p < n) (q1 : ¬ tz_le (B p) = true) (q : ¬ tz_di (B p) = true) : tz_e n B p = p + 1 := (if_neg (by omega)).trans ((if_neg q1).trans (if_neg q))
theorem tz_e_r {n : Nat} {B : Nat → Nat} {p : Nat} (h : p < n) : p < tz_e n B p ∧ tz_e n B p ≤ n := by
  by_cases q : tz_le (B p) = true
  · rw [tz_e_l h q]
    exact ⟨tz_gt h q, tz_to_le (by omega)⟩
  · by_cases q2 : tz_di (B p) = true
    · rw [tz_e_d h q q2]
      exact ⟨tz_gt h q2, tz_to_le (by omega)⟩
    · rw [tz_e_s h q q2]
      omega
theorem tz_e_le {n : Nat} {B : Nat → Nat} {p : Nat} (h : p ≤ n) : tz_e n B p ≤ n := by
  rcases Nat.lt_or_ge p n with q | q
  · exact (tz_e_r q).2
  · rw [tz_e_n q]
    exact h
theorem tz_p_le {n : Nat} {B : Nat → Nat} : ∀ i, tz_p n B i ≤ n
  | 0 => tz_to_le (Nat.zero_le n)
  | i + 1 => tz_to_le (tz_e_le (tz_p_le i))
theorem tz_k_v {n : Nat} {B : Nat → Nat} {p : Nat} (h : p < n) : tz_k n B p = 3 ∨ tz_k n B p = 1 ∨ tz_k n B p = 2 ∨ (4 ≤ tz_k n B p ∧ tz_k n B p ≤ 10) ∨ tz_k n B p = 13 ∨ tz_k n B p = 15 ∨ (20 ≤ tz_k n B p ∧ tz_k n B p ≤ 36) := by
  by_cases q : tz_le (B p) = true
  · rw [tz_k_l h q]
    split
    · exact Or.inl rfl
    · rcases tz_ki_le (x := tz_w B p (tz_to tz_le n B p)) 17 (Nat.le_refl _) with z | z <;> omega
  · by_cases q2 : tz_di (B p) = true
    · rw [tz_k_d h q q2]
      split <;> omega
    · rw [tz_k_s h q q2]
      rcases tz_sg_v (B p) with z | z | z | z <;> omega
theorem tz_k_0 {n : Nat} {B : Nat → Nat} {p : Nat} (h : ¬ tz_k n B p = 0) : p < n := by
  rcases Nat.lt_or_ge p n with q | q
  · exact q
  · exact absurd (tz_k_n q) h
theorem tk_ok_of {k : Nat} (h : k = 0 ∨ k = 3 ∨ k = 1 ∨ k = 2 ∨ (4 ≤ k ∧ k ≤ 10) ∨ k = 13 ∨ k = 15 ∨ (20 ≤ k ∧ k ≤ 36)) : tk_ok k = true := by
  have H : ∀ k, k < 37 → (k = 0 ∨ k = 3 ∨ k = 1 ∨ k = 2 ∨ (4 ≤ k ∧ k ≤ 10) ∨ k = 13 ∨ k = 15 ∨ (20 ≤ k ∧ k ≤ 36)) → tk_ok k = true := by decide +kernel
  exact H k (by omega) h
theorem tz_okk {n : Nat} {B : Nat → Nat} {p : Nat} : tk_ok (tz_k n B p) = true := by
  rcases Nat.lt_or_ge p n with q | q
  · exact tk_ok_of (Or.inr (tz_k_v q))
  · exact tk_ok_of (Or.inl (tz_k_n q))
theorem tz_k_36 {n : Nat} {B : Nat → Nat} {p : Nat} : tz_k n B p ≤ 36 := by have := tk_lt (tz_okk (n := n) (B := B) (p := p)); omega
theorem tz_nm {n : Nat} {B : Nat → Nat} {p : Nat} (h : tz_k n B p = 1) : p < n ∧ tz_le (B p) = true ∧ nm_ok (tz_w B p (tz_to tz_le n B p)) := by
  have hp : p < n := tz_k_0 (B := B) (by rw [h]; decide)
  by_cases q : tz_le (B p) = true
  · rw [tz_k_l hp q] at h
    by_cases q8 : 8 < tz_to tz_le n B p - p
    · rw [if_pos q8] at h
      omega
    · exact ⟨hp, q, tz_w_ok (by omega) (fun j h1 h2 => tz_in h1 h2)⟩
  · by_cases q2 : tz_di (B p) = true
    · rw [tz_k_d hp q q2] at h
      split at h <;> omega
    · rw [tz_k_s hp q q2] at h
      rcases tz_sg_v (B p) with z | z | z | z <;> omega
theorem tz_vm {n : Nat} {B : Nat → Nat} {p : Nat} (h : tz_k n B p = 2) : p < n ∧ ¬ tz_le (B p) = true ∧ tz_di (B p) = true ∧ tz_to tz_di n B p - p ≤ 4 ∧ tz_v B p (tz_to tz_di n B p - p) ≤ 9999 := by
  have hp : p < n := tz_k_0 (B := B) (by rw [h]; decide)
  by_cases q : tz_le (B p) = true
  · rw [tz_k_l hp q] at h
    split at h
    · omega
    · rcases tz_ki_le (x := tz_w B p (tz_to tz_le n B p)) 17 (Nat.le_refl _) with z | z <;> omega
  · by_cases q2 : tz_di (B p) = true
    · rw [tz_k_d hp q q2] at h
      by_cases q4 : 4 < tz_to tz_di n B p - p
      · rw [if_pos q4] at h
        omega
      · have h1 := tz_v_lt (B := B) (p := p) (tz_to tz_di n B p - p) (fun j h1 h2 => tz_in (n := n) h1 (by have := tz_ge (P := tz_di) (n := n) (B := B) (p := p); omega))
        have h2 : 10 ^ (tz_to tz_di n B p - p) ≤ 10 ^ 4 := Nat.pow_le_pow_right (by decide) (by omega)
        have h3 : (10 : Nat) ^ 4 = 10000 := by decide
        exact ⟨hp, q, q2, by omega, by omega⟩
    · rw [tz_k_s hp q q2] at h
      rcases tz_sg_v (B p) with z | z | z | z <;> omega
theorem tz_inc {n : Nat} {B : Nat → Nat} {m : Nat} (h : ∀ i, i < m → ¬ tz_k n B (tz_p n B i) = 0) : q_inc (tz_K n B) m := by
  have step : ∀ i, i < m → tz_p n B i < tz_p n B (i + 1) := fun i hi => by
    have := (tz_e_r (B := B) (tz_k_0 (h i hi))).1
    have h2 : tz_e n B (tz_p n B i) ≤ tz_p n B (i + 1) := tz_ge
    omega
  have key : ∀ k i, i + (k + 1) ≤ m → tz_p n B i < tz_p n B (i + (k + 1)) := by
    intro k
    induction k with
    | zero => intro i hi; exact step i (by omega)
    | succ k ih => intro i hi; exact Nat.lt_trans (ih i (by omega)) (step (i + (k + 1)) (by omega))
  intro i j h1 h2
  have := key (j - i - 1) i (by omega)
  rw [show i + (j - i - 1 + 1) = j by omega] at this
  exact this
