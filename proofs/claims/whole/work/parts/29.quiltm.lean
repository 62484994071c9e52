/-! the quilt: numbers that both sides come to -/
/-- the sum of f over the first n bits of s -/
def q_sb (f : Nat → Nat) (s : Nat) : Nat → Nat
  | 0 => 0
  | n + 1 => q_sb f s n + (if s.testBit n then f n else 0)
theorem q_sb_y {f : Nat → Nat} {s n : Nat} (h : s.testBit n = true) : q_sb f s (n + 1) = q_sb f s n + f n := congrArg (q_sb f s n + ·) (if_pos h)
theorem q_sb_n {f : Nat → Nat} {s n : Nat} (h : ¬ s.testBit n = true) : q_sb f s (n + 1) = q_sb f s n := congrArg (q_sb f s n + ·) (if_neg h)
theorem q_sb_le {f : Nat → Nat} {s c : Nat} : ∀ n, (∀ d, d < n → f d ≤ c) → q_sb f s n ≤ c * n
  | 0, _ => Nat.zero_le _
  | n + 1, h => by
    have ih := q_sb_le (s := s) n (fun d hd => h d (by omega))
    have h1 := h n (by omega)
    unfold q_sb
    rw [Nat.mul_succ]
    split <;> omega
theorem q_tb_f : ∀ (s : Fin 256) (d : Fin 8), decide (nI s.1 >>> (nI d.1 &&& 31) &&& nI 1 = nI 1) = s.1.testBit d.1 := by decide +kernel
theorem q_tb {s d : Nat} (hs : s < 256) (hd : d < 8) : (nI s >>> (nI d &&& 31) &&& nI 1 = nI 1) ↔ s.testBit d = true := by
  have := q_tb_f ⟨s, hs⟩ ⟨d, hd⟩
  rw [← this, decide_eq_true_iff]
def q_mn (f : Nat → Nat) : Nat → Nat
  | 0 => 1000000
  | n + 1 => if f n < q_mn f n then f n else q_mn f n
theorem q_mn_le (f : Nat → Nat) : ∀ n, q_mn f n ≤ 1000000
  | 0 => Nat.le_refl _
  | n + 1 => by
    have := q_mn_le f n
    unfold q_mn
    split <;> omega
theorem q_mn_ex (f : Nat → Nat) : ∀ n, q_mn f n < 1000000 → ∃ s, s < n ∧ f s = q_mn f n
  | 0, h => absurd h (by unfold q_mn; omega)
  | n + 1, h => by
    by_cases h1 : f n < q_mn f n
    · exact ⟨n, by omega, (if_pos h1).symm⟩
    · have e : q_mn f (n + 1) = q_mn f n := if_neg h1
      rw [e] at h
      obtain ⟨s, h2, h3⟩ := q_mn_ex f n h
      exact ⟨s, by omega, h3.trans e.symm⟩
/-- the least guilt by which the last j of nm men give k or more -/
def q_lg (nm K : Nat) (gs : Nat → Nat) (cm : Nat → Nat → Nat) : Nat → Nat → Nat
  | 0, k => if k = 0 then 0 else 1000000
  | j + 1, k => q_mn (fun s => gs s + q_lg nm K gs cm j (k - cm (nm - 1 - j) s)) K
theorem q_lg_le (nm K : Nat) (gs : Nat → Nat) (cm : Nat → Nat → Nat) : ∀ j k, q_lg nm K gs cm j k ≤ 1000000
  | 0, k => by
    unfold q_lg
    split <;> omega
  | j + 1, k => q_mn_le _ _
/-- the first of n that is so, else n -/
def q_fst (P : Nat → Bool) : Nat → Nat
  | 0 => 0
  | n + 1 => if q_fst P n < n then q_fst P n else if P n then n else n + 1
theorem q_fst_le (P : Nat → Bool) : ∀ n, q_fst P n ≤ n
  | 0 => Nat.le_refl _
  | n + 1 => by
    have := q_fst_le P n
    unfold q_fst
    split
    · omega
    · split <;> omega
theorem q_fst_no (P : Nat → Bool) : ∀ n i, i < q_fst P n → P i = false
  | 0, i, h => absurd h (Nat.not_lt_zero _)
  | n + 1, i, h => by
    have h1 := q_fst_le P n
    unfold q_fst at h
    by_cases h2 : q_fst P n < n
    · rw [if_pos h2] at h
      exact q_fst_no P n i h
    · rw [if_neg h2] at h
      have h3 : q_fst P n = n := by omega
      by_cases h4 : P n = true
      · rw [if_pos h4] at h
        exact q_fst_no P n i (by omega)
      · rw [if_neg h4] at h
        rcases Nat.lt_or_ge i n with q | q
        · exact q_fst_no P n i (by omega)
        · rw [show i = n by omega]
          exact Bool.eq_false_iff.mpr h4
theorem q_fst_yes (P : Nat → Bool) : ∀ n, q_fst P n < n → P (q_fst P n) = true
  | 0, h => absurd h (Nat.not_lt_zero _)
  | n + 1, h => by
    have h1 := q_fst_le P n
    by_cases h2 : q_fst P n < n
    · have e : q_fst P (n + 1) = q_fst P n := if_pos h2
      rw [e]
      exact q_fst_yes P n h2
    · have e : q_fst P (n + 1) = if P n then n else n + 1 := if_neg h2
      by_cases h4 : P n = true
      · rw [e, if_pos h4]
        exact h4
      · rw [e, if_neg h4] at h
        omega
theorem q_fst_lt {P : Nat → Bool} {n i : Nat} (hi : i < n) (h : P i = true) : q_fst P n < n := by
  rcases Nat.lt_or_ge (q_fst P n) n with q | q
  · exact q
  · have := q_fst_no P n i (by omega)
    rw [h] at this
    cases this
/-- a set of deeds by which the least is come to -/
def q_lgp (nm K : Nat) (gs : Nat → Nat) (cm : Nat → Nat → Nat) (m k : Nat) (s : Nat) : Bool := decide (gs s + q_lg nm K gs cm (nm - (m + 1)) (k - cm m s) = q_lg nm K gs cm (nm - m) k)
/-- how many are still wanted ahead of man m; for which deeds he is fined -/
def q_lft (nm K : Nat) (gs : Nat → Nat) (cm : Nat → Nat → Nat) (n : Nat) : Nat → Nat
  | 0 => n
  | m + 1 => q_lft nm K gs cm n m - cm m (q_fst (q_lgp nm K gs cm m (q_lft nm K gs cm n m)) K)
def q_chs (nm K : Nat) (gs : Nat → Nat) (cm : Nat → Nat → Nat) (n m : Nat) : Nat := q_fst (q_lgp nm K gs cm m (q_lft nm K gs cm n m)) K
theorem q_lft_le (nm K : Nat) (gs : Nat → Nat) (cm : Nat → Nat → Nat) (n : Nat) : ∀ m, q_lft nm K gs cm n m ≤ n
  | 0 => Nat.le_refl _
  | m + 1 => by
    have := q_lft_le nm K gs cm n m
    unfold q_lft
    omega
theorem q_lgp_ex {nm K : Nat} {gs : Nat → Nat} {cm : Nat → Nat → Nat} {m k : Nat} (hm : m < nm) (h : q_lg nm K gs cm (nm - m) k < 1000000) : ∃ s, s < K ∧ q_lgp nm K gs cm m k s = true := by
  obtain ⟨j, hj⟩ : ∃ j, nm - m = j + 1 := ⟨nm - m - 1, by omega⟩
  have e2 : nm - (m + 1) = j := by omega
  have e3 : nm - 1 - j = m := by omega
  rw [hj] at h
  unfold q_lg at h
  obtain ⟨s, h1, h2⟩ := q_mn_ex _ _ h
  refine ⟨s, h1, ?_⟩
  unfold q_lgp
  rw [decide_eq_true_iff, e2, hj]
  rw [e3] at h2
  show _ = q_mn (fun s => gs s + q_lg nm K gs cm j (k - cm (nm - 1 - j) s)) K
  rw [e3]
  exact h2
theorem q_lft_ok {nm K : Nat} {gs : Nat → Nat} {cm : Nat → Nat → Nat} {n : Nat} (h : q_lg nm K gs cm nm n < 1000000) : ∀ m, m ≤ nm → q_lg nm K gs cm (nm - m) (q_lft nm K gs cm n m) < 1000000
  | 0, _ => h
  | m + 1, hm => by
    have ih := q_lft_ok h m (by omega)
    obtain ⟨s, h1, h2⟩ := q_lgp_ex (by omega : m < nm) ih
    have h3 := q_fst_yes _ _ (q_fst_lt h1 h2)
    unfold q_lgp at h3
    rw [decide_eq_true_iff] at h3
    show q_lg nm K gs cm (nm - (m + 1)) (q_lft nm K gs cm n m - cm m (q_fst (q_lgp nm K gs cm m (q_lft nm K gs cm n m)) K)) < 1000000
    have h4 : ∀ (a b c : Nat), a + b = c → c < 1000000 → b < 1000000 := fun a b c _ _ => by omega
    exact h4 _ _ _ h3 ih
theorem q_chs_lt {nm K : Nat} {gs : Nat → Nat} {cm : Nat → Nat → Nat} {n m : Nat} (hm : m < nm) (h : q_lg nm K gs cm nm n < 1000000) : q_chs nm K gs cm n m < K := by
  obtain ⟨s, h1, h2⟩ := q_lgp_ex hm (q_lft_ok h m (by omega))
  exact q_fst_lt h1 h2
theorem q_chs_eq {nm K : Nat} {gs : Nat → Nat} {cm : Nat → Nat → Nat} {n m : Nat} (hm : m < nm) (h : q_lg nm K gs cm nm n < 1000000) : gs (q_chs nm K gs cm n m) + q_lg nm K gs cm (nm - (m + 1)) (q_lft nm K gs cm n m - cm m (q_chs nm K gs cm n m)) = q_lg nm K gs cm (nm - m) (q_lft nm K gs cm n m) := by
  have h3 := q_fst_yes _ _ (q_chs_lt hm h)
  exact of_decide_eq_true h3
theorem q_chs_no {nm K : Nat} {gs : Nat → Nat} {cm : Nat → Nat → Nat} {n m s : Nat} (h : s < q_chs nm K gs cm n m) : ¬ gs s + q_lg nm K gs cm (nm - (m + 1)) (q_lft nm K gs cm n m - cm m s) = q_lg nm K gs cm (nm - m) (q_lft nm K gs cm n m) := of_decide_eq_false (q_fst_no _ _ _ h)
/-- a held number -/
theorem q_held_n (v : Int32) : ∃ k, k ≤ 999 ∧ q_held v = nI k := by
  unfold q_held
  split
  · next h =>
    split
    · next h2 =>
      obtain ⟨k, hk, rfl⟩ := nI_of (x := v) (Int32.not_lt.mpr h)
      exact ⟨k, (nI_leI hk (by decide)).mp h2, rfl⟩
    · exact ⟨999, Nat.le_refl _, rfl⟩
  · exact ⟨0, by decide, rfl⟩
def q_fi (R C : Nat → Int32) (LW : q_LW) (lv nc w m d : Nat) : Nat := (q_fin R C LW lv nc w m d).toNatClampNeg
theorem q_fi_eq (R C : Nat → Int32) (LW : q_LW) (lv nc w m d : Nat) : q_fin R C LW lv nc w m d = nI (q_fi R C LW lv nc w m d) ∧ q_fi R C LW lv nc w m d ≤ 999 := by
  unfold q_fi
  obtain ⟨k, hk, e⟩ := q_held_n (q_tel (q_see R C lv nc w m (q_s8 R (8 * m)) (R (136 + 8 * m + d))) (LW d) (nI 10))
  have e2 : q_fin R C LW lv nc w m d = nI k := e
  rw [e2, nI_clamp (by omega)]
  exact ⟨rfl, hk⟩
def q_cm (fi : Nat → Nat) (hv nd s : Nat) : Nat := if hv ≤ q_sb fi s nd then hv else q_sb fi s nd
theorem q_sb_co {f f' : Nat → Nat} {s : Nat} : ∀ {n : Nat}, (∀ d, d < n → f d = f' d) → q_sb f s n = q_sb f' s n
  | 0, _ => rfl
  | n + 1, h => by
    unfold q_sb
    rw [h n (by omega), q_sb_co (fun d hd => h d (by omega))]
theorem q_cm_co {f f' : Nat → Nat} {hv nd s : Nat} (h : ∀ d, d < nd → f d = f' d) : q_cm f hv nd s = q_cm f' hv nd s := by
  unfold q_cm
  rw [q_sb_co h]
theorem q_updw {f : Nat → Int32} {k j : Nat} {v x : Int32} (h : j = k → v = x) (h2 : j ≠ k → f j = x) : upd f k v j = x := by
  unfold upd
  split
  · next e => exact h e
  · next e => exact h2 e
