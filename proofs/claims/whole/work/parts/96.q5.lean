/-! payments: both sides alike -/
theorem gpR_lo {G f : Nat → Int32} {nm s : Nat} : ∀ n, s < n → q_gpR G f nm n s = q_gpR G f nm (s + 1) s
  | 0, h => absurd h (Nat.not_lt_zero _)
  | n + 1, h => by
    by_cases q : s = n
    · rw [q]
    · have e : q_gpR G f nm (n + 1) s = q_gpR G f nm n s := pk_un q
      rw [e]
      exact gpR_lo n (by omega)
theorem bit_t {s k : Nat} (hs : s < 256) (hk : k < 8) : q_bit (nI s) k = s.testBit k := q_tb_f ⟨s, hs⟩ ⟨k, hk⟩
theorem sm_00 {G : Nat → Int32} : ∀ n, n ≤ 8 → q_sm G 0 n = nI 0
  | 0, _ => rfl
  | n + 1, h => by
    rw [q_sm_n (by rw [bit_t (by decide) (by omega), Nat.zero_testBit]; decide)]
    exact sm_00 n (by omega)
theorem gpR_ok (G f : Nat → Int32) {nm : Nat} (hnm : nm ≤ 8) : q_gok f nm (q_gpR G f nm 256) 256 := by
  refine ⟨?_, fun s h0 hs => ?_⟩
  · rw [gpR_lo 256 (by decide)]
    show upd _ 0 (if 0 < 0 ∧ _ then _ else q_sm (q_gpR G f nm 0) 0 nm) 0 = _
    rw [pk_us, if_neg (fun q => absurd q.1 (Nat.lt_irrefl 0))]
    exact sm_00 nm hnm
  · have e : q_sm (q_gpR G f nm 256) s nm = q_sm (q_gpR G f nm s) s nm := q_sm_co hs nm hnm (fun t ht => by rw [gpR_lo 256 (by omega), gpR_lo s ht])
    rw [e, gpR_lo 256 hs]
    show upd _ s (if 0 < s ∧ q_ss f s nm = 0 then q_sm (q_gpR G f nm s) s nm + nI 1 else q_sm (q_gpR G f nm s) s nm) s = _
    rw [pk_us]
    by_cases q : q_ss f s nm = 0
    · rw [if_pos ⟨h0, q⟩, if_pos q]
    · rw [if_neg (fun z => q z.2), if_neg q]
      exact (Int32.add_zero _).symm
theorem ss_co {f g : Nat → Int32} {s : Nat} : ∀ n, (∀ k, k < n → f k = g k) → q_ss f s n = q_ss g s n
  | 0, _ => rfl
  | n + 1, h => by
    unfold q_ss
    rw [ss_co n (fun k hk => h k (by omega)), h n (by omega)]
theorem gok_co {f g : Nat → Int32} {nm n : Nat} {G : Nat → Int32} (h : ∀ k, k < nm → f k = g k) (a : q_gok f nm G n) : q_gok g nm G n := ⟨a.1, fun s h1 h2 => by rw [← ss_co nm h]; exact a.2 s h1 h2⟩
theorem gok_mo {f : Nat → Int32} {nm n n' : Nat} {G : Nat → Int32} (h : n' ≤ n) (a : q_gok f nm G n) : q_gok f nm G n' := ⟨a.1, fun s h1 h2 => a.2 s h1 (by omega)⟩
theorem gok_un {f : Nat → Int32} {nm n : Nat} {G G' : Nat → Int32} (hnm : nm ≤ 8) (hn : n ≤ 256) (a : q_gok f nm G n) (b : q_gok f nm G' n) : ∀ s, s < n → G s = G' s := by
  intro s
  induction s using Nat.strongRecOn with
  | ind s ih =>
    intro hs
    by_cases h0 : s = 0
    · rw [h0, a.1, b.1]
    · rw [a.2 s (by omega) hs, b.2 s (by omega) hs, q_sm_co (by omega) nm hnm (fun t ht => ih t ht (by omega))]
def py_m (N : Nat → Nat) (s : Nat) : Nat → Nat
  | 0 => 0
  | k + 1 => if s.testBit k = true ∧ py_m N s k < N (q_del s k) then N (q_del s k) else py_m N s k
theorem py_mS (N : Nat → Nat) (s k : Nat) : py_m N s (k + 1) = if s.testBit k = true ∧ py_m N s k < N (q_del s k) then N (q_del s k) else py_m N s k := rfl
theorem sm_py {G : Nat → Int32} {N : Nat → Nat} {s : Nat} (hs : s < 256) (h : ∀ t, t < s → G t = nI (N t) ∧ N t ≤ t) : ∀ n, n ≤ 8 → q_sm G s n = nI (py_m N s n) ∧ py_m N s n ≤ s ∧ (0 < s → py_m N s n < s)
  | 0, _ => ⟨rfl, Nat.zero_le _, fun q => q⟩
  | n + 1, hn => by
    obtain ⟨a, b, c⟩ := sm_py hs h n (by omega)
    by_cases hb : s.testBit n = true
    · have hq : q_bit (nI s) n = true := (bit_t hs (by omega)).trans hb
      have hd := (q_xor hs (by omega) hq).2
      obtain ⟨g1, g2⟩ := h _ hd
      rw [q_sm_y hq, a, g1]
      rw [py_mS]
      by_cases z : py_m N s n < N (q_del s n)
      · rw [if_pos ((nI_ltI (by omega) (by omega)).mpr z), if_pos ⟨hb, z⟩]
        exact ⟨rfl, by omega, fun _ => by omega⟩
      · rw [if_neg (fun q => z ((nI_ltI (by omega) (by omega)).mp q)), if_neg (fun q => z q.2)]
        exact ⟨rfl, b, c⟩
    · have hq : ¬ q_bit (nI s) n = true := by rw [bit_t hs (by omega)]; exact hb
      rw [q_sm_n hq, a]
      rw [py_mS]
      rw [if_neg (fun q => hb q.1)]
      exact ⟨rfl, b, c⟩
theorem py_le {N : Nat → Nat} {s B : Nat} : ∀ n, (∀ k, k < n → s.testBit k = true → N (q_del s k) ≤ B) → py_m N s n ≤ B
  | 0, _ => Nat.zero_le _
  | n + 1, h => by
    have ih := py_le (N := N) (s := s) n (fun k hk => h k (by omega))
    rw [py_mS]
    split
    · next q => exact h n (by omega) q.1
    · exact ih
theorem py_ge {N : Nat → Nat} {s k : Nat} : ∀ n, k < n → s.testBit k = true → N (q_del s k) ≤ py_m N s n
  | 0, h, _ => absurd h (Nat.not_lt_zero _)
  | n + 1, h, hb => by
    rw [py_mS]
    by_cases q : k = n
    · subst q
      by_cases z : py_m N s k < N (q_del s k)
      · rw [if_pos ⟨hb, z⟩]
        exact Nat.le_refl _
      · rw [if_neg (fun y => z y.2)]
        omega
    · have ih := py_ge (N := N) n (by omega) hb
      split
      · next y => omega
      · exact ih
theorem py_ex {N : Nat → Nat} {s : Nat} : ∀ n, py_m N s n = 0 ∨ ∃ k, k < n ∧ s.testBit k = true ∧ N (q_del s k) = py_m N s n
  | 0 => Or.inl rfl
  | n + 1 => by
    rw [py_mS]
    split
    · next q => exact Or.inr ⟨n, by omega, q.1, rfl⟩
    · rcases py_ex (N := N) (s := s) n with q | ⟨k, h1, h2, h3⟩
      · exact Or.inl q
      · exact Or.inr ⟨k, by omega, h2, h3⟩
/-- the groups as numbers -/
theorem gok_N {f : Nat → Int32} {nm n : Nat} {G : Nat → Int32} (hnm : nm ≤ 8) (hn : n ≤ 256) (a : q_gok f nm G n) : ∃ N : Nat → Nat, N 0 = 0 ∧ (∀ s, s < n → G s = nI (N s) ∧ N s ≤ s) ∧ ∀ s, 0 < s → s < n → N s = if q_ss f s nm = 0 then py_m N s nm + 1 else py_m N s nm := by
  have key : ∀ s, s < n → G s = nI (G s).toNatClampNeg ∧ (G s).toNatClampNeg ≤ s := by
    intro s
    induction s using Nat.strongRecOn with
    | ind s ih =>
      intro hs
      by_cases h0 : s = 0
      · subst h0
        rw [a.1, nI_clamp (by decide)]
        exact ⟨rfl, Nat.le_refl _⟩
      · obtain ⟨m1, m2, m3⟩ := sm_py (G := G) (N := fun t => (G t).toNatClampNeg) (s := s) (by omega) (fun t ht => ih t ht (by omega)) nm hnm
        have hlt := m3 (by omega)
        have e := a.2 s (by omega) hs
        rw [m1] at e
        have e2 : ∃ v, v ≤ s ∧ G s = nI v := by
          rw [e]
          split
          · exact ⟨_, by omega, nI_add _ 1⟩
          · exact ⟨_, by omega, nI_add _ 0⟩
        obtain ⟨v, hv, e3⟩ := e2
        rw [e3, nI_clamp (by omega)]
        exact ⟨rfl, hv⟩
  refine ⟨fun s => (G s).toNatClampNeg, ?_, key, fun s h0 hs => ?_⟩
  · show (G 0).toNatClampNeg = 0
    rw [a.1, nI_clamp (by decide)]
  · obtain ⟨m1, m2, m3⟩ := sm_py (G := G) (N := fun t => (G t).toNatClampNeg) (s := s) (by omega) (fun t ht => key t (by omega)) nm hnm
    show (G s).toNatClampNeg = _
    rw [a.2 s h0 hs, m1]
    split
    · rw [nI_add, nI_clamp (by omega)]
    · rw [nI_add, nI_clamp (by omega)]
      rfl
theorem bw_f : ∀ (s : Fin 256) (z : Fin 8), s.1.testBit z.1 = false → (s.1 + 2 ^ z.1).testBit z.1 = true ∧ s.1 + 2 ^ z.1 < 256 ∧ ∀ k : Fin 8, k.1 ≠ z.1 → (s.1 + 2 ^ z.1).testBit k.1 = s.1.testBit k.1 ∧ (s.1.testBit k.1 = true → 2 ^ k.1 ≤ s.1 ∧ (s.1 - 2 ^ k.1).testBit z.1 = false) := by decide +kernel
theorem bw {s z : Nat} (hs : s < 256) (hz : z < 8) (h : s.testBit z = false) : (s + 2 ^ z).testBit z = true ∧ s + 2 ^ z < 256 ∧ ∀ k, k < 8 → k ≠ z → (s + 2 ^ z).testBit k = s.testBit k ∧ (s.testBit k = true → 2 ^ k ≤ s ∧ (s - 2 ^ k).testBit z = false) := by
  obtain ⟨a, b, c⟩ := bw_f ⟨s, hs⟩ ⟨z, hz⟩ h
  exact ⟨a, b, fun k hk => c ⟨k, hk⟩⟩
theorem ss_z {f : Nat → Int32} {s z : Nat} (hs : s < 256) (hz : z < 8) (h : s.testBit z = false) (hf : f z = 0) : ∀ n, n ≤ 8 → q_ss f (s + 2 ^ z) n = q_ss f s n
  | 0, _ => rfl
  | n + 1, hn => by
    obtain ⟨b1, b2, b3⟩ := bw hs hz h
    have ih := ss_z hs hz h hf n (by omega)
    unfold q_ss
    rw [ih, bit_t b2 (by omega), bit_t hs (by omega)]
    by_cases q : n = z
    · rw [q, b1, h, hf]
      exact Int32.add_zero _
    · rw [(b3 n (by omega) q).1]
theorem some_bit : ∀ n s, 0 < s → s < 2 ^ n → ∃ k, k < n ∧ s.testBit k = true
  | 0, s, h0, h => by
    rw [Nat.pow_zero] at h
    omega
  | n + 1, s, h0, h => by
    by_cases q : s.testBit n = true
    · exact ⟨n, by omega, q⟩
    · have hlt : s < 2 ^ n := by
        refine Nat.lt_pow_two_of_testBit s (fun i hi => ?_)
        by_cases z : i = n
        · rw [z]
          exact eq_false_of_ne_true q
        · exact Nat.testBit_lt_two_pow (Nat.lt_of_lt_of_le h (Nat.pow_le_pow_right (by decide) (by omega)))
      obtain ⟨k, h1, h2⟩ := some_bit n s h0 hlt
      exact ⟨k, by omega, h2⟩
theorem N_z {f : Nat → Int32} {nm n : Nat} {N : Nat → Nat} (hnm : nm ≤ 8) (hn : n ≤ 256) (h0 : N 0 = 0) (hN : ∀ s, 0 < s → s < n → N s = if q_ss f s nm = 0 then py_m N s nm + 1 else py_m N s nm) {z : Nat} (hz : z < nm) (hf : f z = 0) : ∀ s, s < 2 ^ nm → s.testBit z = false → s + 2 ^ z < n → N (s + 2 ^ z) = N s + 1 := by
  intro s
  have h256 : 2 ^ nm ≤ 256 := q_pow_le hnm
  induction s using Nat.strongRecOn with
  | ind s ih =>
    intro hs hb hsn
    obtain ⟨b1, b2, b3⟩ := bw (by omega) (by omega) hb
    have hz0 : 0 < 2 ^ z := Nat.pow_pos (by decide)
    have dz : q_del (s + 2 ^ z) z = s := by unfold q_del; omega
    have dk : ∀ k, k < nm → k ≠ z → s.testBit k = true → q_del (s + 2 ^ z) k = q_del s k + 2 ^ z ∧ N (q_del s k + 2 ^ z) = N (q_del s k) + 1 := fun k hk hne hbk => by
      obtain ⟨c1, c2⟩ := (b3 k (by omega) hne).2 hbk
      have hk0 : 0 < 2 ^ k := Nat.pow_pos (by decide)
      unfold q_del
      exact ⟨by omega, ih (s - 2 ^ k) (by omega) (by omega) c2 (by omega)⟩
    have e1 := hN (s + 2 ^ z) (by omega) hsn
    rw [ss_z (by omega) (by omega) hb hf nm hnm] at e1
    by_cases hs0 : s = 0
    · subst hs0
      have e2 : py_m N (0 + 2 ^ z) nm ≤ 0 := py_le nm (fun k hk hbk => by
        by_cases q : k = z
        · rw [q, dz, h0]
          exact Nat.le_refl _
        · rw [(b3 k (by omega) q).1, Nat.zero_testBit] at hbk
          cases hbk)
      have e3 : q_ss f 0 nm = 0 := by
        have key : ∀ n, n ≤ 8 → q_ss f 0 n = 0 := by
          intro n
          induction n with
          | zero => intro _; rfl
          | succ n ih2 =>
            intro hn
            unfold q_ss
            rw [bit_t (by decide) (by omega), Nat.zero_testBit]
            exact ih2 (by omega)
        exact key nm hnm
      rw [if_pos e3] at e1
      rw [e1, h0]
      omega
    · have e2 := hN s (by omega) (by omega)
      have hle : N s ≤ py_m N s nm + 1 := by
        rw [e2]
        split <;> omega
      have up : py_m N (s + 2 ^ z) nm ≤ py_m N s nm + 1 := py_le nm (fun k hk hbk => by
        by_cases q : k = z
        · rw [q, dz]
          exact hle
        · rw [(b3 k (by omega) q).1] at hbk
          rw [(dk k hk q hbk).1, (dk k hk q hbk).2]
          have := py_ge (N := N) nm hk hbk
          omega)
      have lo : py_m N s nm + 1 ≤ py_m N (s + 2 ^ z) nm := by
        have key : ∃ k, k < nm ∧ s.testBit k = true ∧ py_m N s nm ≤ N (q_del s k) := by
          rcases py_ex (N := N) (s := s) nm with q | ⟨k, k1, k2, k3⟩
          · obtain ⟨k, k1, k2⟩ := some_bit nm s (by omega) hs
            exact ⟨k, k1, k2, by omega⟩
          · exact ⟨k, k1, k2, by omega⟩
        obtain ⟨k, k1, k2, k3⟩ := key
        have hne : k ≠ z := fun q => by
          rw [q, hb] at k2
          cases k2
        have := py_ge (N := N) (s := s + 2 ^ z) (k := k) nm k1 (by rw [(b3 k (by omega) hne).1]; exact k2)
        rw [(dk k k1 hne k2).1, (dk k k1 hne k2).2] at this
        omega
      rw [e1, e2]
      split <;> omega
def py_s (P : Nat → Bool) : Nat → Nat
  | 0 => 0
  | n + 1 => if P n then py_s P n + 2 ^ n else py_s P n
theorem py_lt (P : Nat → Bool) : ∀ n, py_s P n < 2 ^ n
  | 0 => by
    show (0 : Nat) < 2 ^ 0
    decide
  | n + 1 => by
    have := py_lt P n
    have hp : (2 : Nat) ^ (n + 1) = 2 ^ n + 2 ^ n := by rw [Nat.pow_succ]; omega
    unfold py_s
    split <;> omega
theorem py_tb (P : Nat → Bool) (k : Nat) : ∀ n, (py_s P n).testBit k = (decide (k < n) && P k)
  | 0 => by
    rw [show py_s P 0 = 0 from rfl, Nat.zero_testBit]
    rfl
  | n + 1 => by
    have ih := py_tb P k n
    have hl := py_lt P n
    unfold py_s
    rcases Nat.lt_trichotomy k n with q | q | q
    · rw [decide_eq_true q] at ih
      rw [decide_eq_true (show k < n + 1 by omega)]
      split
      · rw [Nat.add_comm, Nat.testBit_two_pow_add_gt q]
        exact ih
      · exact ih
    · subst q
      rw [decide_eq_true (show k < k + 1 by omega)]
      by_cases hP : P k = true
      · rw [if_pos hP, hP, Nat.add_comm, Nat.testBit_two_pow_add_eq, Nat.testBit_lt_two_pow hl]
        rfl
      · rw [if_neg hP, Nat.testBit_lt_two_pow hl, eq_false_of_ne_true hP]
        rfl
    · rw [decide_eq_false (show ¬ k < n + 1 by omega), Bool.false_and]
      have := py_lt P (n + 1)
      unfold py_s at this
      exact Nat.testBit_lt_two_pow (Nat.lt_of_lt_of_le this (Nat.pow_le_pow_right (by decide) (by omega)))
theorem set_py (P : Nat → Bool) : ∀ n, n ≤ 8 → q_set P n = nI (py_s P n)
  | 0, _ => rfl
  | n + 1, h => by
    unfold q_set py_s
    rw [set_py P n (by omega)]
    split
    · exact q_or (by omega) (py_lt P n)
    · rfl
theorem py_co {P P' : Nat → Bool} : ∀ n, (∀ k, k < n → P k = P' k) → py_s P n = py_s P' n
  | 0, _ => rfl
  | n + 1, h => by
    unfold py_s
    rw [py_co n (fun k hk => h k (by omega)), h n (by omega)]
theorem py_p1 {P P' : Nat → Bool} {i : Nat} (h1 : P i = false) (h2 : P' i = true) (h3 : ∀ k, k ≠ i → P k = P' k) : ∀ n, i < n → py_s P' n = py_s P n + 2 ^ i
  | 0, h => absurd h (Nat.not_lt_zero _)
  | n + 1, h => by
    unfold py_s
    by_cases q : i = n
    · subst q
      rw [h1, h2, py_co i (fun k hk => (h3 k (by omega)).symm)]
      rfl
    · rw [py_p1 h1 h2 h3 n (by omega), h3 n (by omega)]
      split <;> omega
theorem py_all : ∀ n, py_s (fun _ => true) n + 1 = 2 ^ n
  | 0 => rfl
  | n + 1 => by
    have := py_all n
    have hp : (2 : Nat) ^ (n + 1) = 2 ^ n + 2 ^ n := by rw [Nat.pow_succ]; omega
    show py_s (fun _ => true) n + 2 ^ n + 1 = _
    omega
theorem py_N {f : Nat → Int32} {nm : Nat} {N : Nat → Nat} (hnm : nm ≤ 8) (h0 : N 0 = 0) (hN : ∀ s, 0 < s → s < 2 ^ nm → N s = if q_ss f s nm = 0 then py_m N s nm + 1 else py_m N s nm) : ∀ i, i ≤ nm → N (py_s (fun k => decide (k < i) || !(decide (f k = 0))) nm) = N (py_s (fun k => !(decide (f k = 0))) nm) + q_ns (fun k => if f k = 0 then 1 else 0) i
  | 0, _ => by
    rw [py_co (P' := fun k => !(decide (f k = 0))) nm (fun k hk => by rw [decide_eq_false (Nat.not_lt_zero k), Bool.false_or])]
    rfl
  | i + 1, hi => by
    have ih := py_N hnm h0 hN i (by omega)
    show _ = _ + (q_ns (fun k => if f k = 0 then 1 else 0) i + if f i = 0 then 1 else 0)
    rw [← Nat.add_assoc, ← ih]
    by_cases hf : f i = 0
    · rw [if_pos hf]
      have e := py_p1 (P := fun k => decide (k < i) || !(decide (f k = 0))) (P' := fun k => decide (k < i + 1) || !(decide (f k = 0))) (i := i) (by simp [hf]) (by simp) (fun k hk => by
        have : (decide (k < i)) = decide (k < i + 1) := decide_eq_decide.mpr ⟨fun _ => by omega, fun _ => by omega⟩
        simp only [this]) nm (by omega)
      have hl := py_lt (fun k => decide (k < i + 1) || !(decide (f k = 0))) nm
      rw [e] at hl ⊢
      exact N_z hnm (q_pow_le hnm) h0 hN (show i < nm by omega) hf _ (py_lt _ _) (by rw [py_tb]; simp [hf]) hl
    · rw [if_neg hf, Nat.add_zero]
      refine congrArg N (py_co nm (fun k hk => ?_))
      by_cases q : k = i
      · subst q
        simp [hf]
      · have : (decide (k < i + 1)) = decide (k < i) := decide_eq_decide.mpr ⟨fun _ => by omega, fun _ => by omega⟩
        simp only [this]
theorem pb_f : ∀ (s : Fin 256) (k : Fin 8), nI s.1 >>> (nI k.1 &&& 31) &&& nI 1 = nI (if s.1.testBit k.1 then 1 else 0) := by decide +kernel
theorem py_bits {P : Nat → Bool} {nm : Nat} (hnm : nm ≤ 8) : q_sum (fun k => nI (py_s P nm) >>> (nI k &&& 31) &&& nI 1) 8 = nI (q_ns (fun k => if P k then 1 else 0) nm) := by
  have hl := py_lt P nm
  have h256 : 2 ^ nm ≤ 256 := q_pow_le hnm
  rw [q_sum_ns (f := fun k => if (py_s P nm).testBit k then 1 else 0) (fun k hk => pb_f ⟨py_s P nm, by omega⟩ ⟨k, hk⟩)]
  refine congrArg nI ?_
  have e := q_ns_add (fun k => if (py_s P nm).testBit k then 1 else 0) nm (8 - nm)
  rw [show nm + (8 - nm) = 8 by omega] at e
  rw [e]
  have z : ∀ n, q_ns (fun k => if (py_s P nm).testBit (nm + k) then 1 else 0) n = 0 := by
    intro n
    induction n with
    | zero => rfl
    | succ n ih =>
      show q_ns _ n + (if (py_s P nm).testBit (nm + n) then 1 else 0) = 0
      rw [ih, py_tb, decide_eq_false (show ¬ nm + n < nm by omega)]
      rfl
  rw [z, Nat.add_zero]
  exact q_ns_co (fun k hk => by rw [py_tb, decide_eq_true hk, Bool.true_and])
theorem py_cc (f : Nat → Int32) : ∀ n, q_ns (fun k => if (!(decide (f k = 0))) = true then 1 else 0) n + q_ns (fun k => if f k = 0 then 1 else 0) n = n
  | 0 => rfl
  | n + 1 => by
    have ih := py_cc f n
    show q_ns _ n + (if (!(decide (f n = 0))) = true then 1 else 0) + (q_ns _ n + if f n = 0 then 1 else 0) = n + 1
    by_cases h : f n = 0
    · rw [if_pos h, if_neg (by simp [h])]
      omega
    · rw [if_neg h, if_pos (by simp [h])]
      omega
theorem i32_ac (a b c : Int32) : (a + c) - (b + c) = a - b := by
  rw [Int32.sub_eq_iff_eq_add, ← Int32.add_assoc, Int32.sub_add_cancel]
/-- payments of both sides -/
theorem pay_RC {f g : Nat → Int32} {nm : Nat} (hnm : nm ≤ 8) (hfg : ∀ k, k < nm → f k = g k) {G : Nat → Int32} (a : q_gok f nm G (2 ^ nm)) (G0 : Nat → Int32) : q_payV G0 g nm = nI nm - G (2 ^ nm - 1) := by
  have h256 : 2 ^ nm ≤ 256 := q_pow_le hnm
  have h1 : 0 < 2 ^ nm := Nat.pow_pos (by decide)
  have b := gok_mo h256 (gpR_ok G0 g hnm)
  have un := gok_un hnm h256 (gok_co hfg a) b
  obtain ⟨N, n0, n1, n2⟩ := gok_N hnm h256 b
  have hc := py_N hnm n0 n2 nm (Nat.le_refl _)
  have ef : py_s (fun k => decide (k < nm) || !(decide (g k = 0))) nm = 2 ^ nm - 1 := by
    rw [py_co (P' := fun _ => true) nm (fun k hk => by rw [decide_eq_true hk]; rfl)]
    have := py_all nm
    omega
  rw [ef] at hc
  have hl := py_lt (fun k => !(decide (g k = 0))) nm
  have ecc := py_cc g nm
  rw [un _ (by omega), (n1 _ (by omega)).1, hc]
  unfold q_payV q_nz
  rw [set_py _ nm hnm, py_bits hnm, nI_clamp (by omega), (n1 _ hl).1]
  generalize N (py_s (fun k => !(decide (g k = 0))) nm) = A at *
  rw [← nI_add, show nI nm = nI (q_ns (fun k => if (!(decide (g k = 0))) = true then 1 else 0) nm) + nI (q_ns (fun k => if g k = 0 then 1 else 0) nm) by rw [nI_add, ecc], i32_ac]
theorem st_payments (l : Launch) (g : q_GP) {i : Nat} {h : q_H} (hi : i ≤ 512) (hR : RR i h) : q_2 l g i h mX9_payments [.ref 0] mX10_payments [.ref 124] := by
  obtain ⟨aS, aT, aP, aW, aZ, p, nm, nd, nc, mo, n, lv, LW, gu, aL, aN, aU, aH, aD⟩ := id hR
  have hs := aS.1
  obtain ⟨hp, hLk, hm, hLm, aP3, aG, aC, aV⟩ := id aL
  have hnm : nm ≤ 8 := hp.2.2.2.2.2.1
  have hnd : nd ≤ 8 := hp.2.2.2.2.2.2.2.1
  have hq := rel_req aN
  have hC := sC_of aC
  obtain ⟨w, E, em, ed, ew, ep, ea, f, rw_, sv, tm⟩ := id aN
  have hwc : q_I h 34 6 = nI w := sv.1
  have hwr : q_I h 154 200 = nI w := rw_.1
  have hw2 : w < 2 ^ 19 := by have := rw_.2.1; omega
  have hw3 : w < 2 ^ 20 := by omega
  have hE1 : q_I h 34 5 = nI E := sv.2.1
  have hEr : q_I h 154 201 = nI E := rw_.2.2.1
  have hE2 : E ≤ 300 := rw_.2.2.2.1
  have hEE := rel_E (by omega) hnm rw_ sv
  have hrn := rw_.2.2.2.2.2.2.1
  have hns : q_ns f 72 < 2 ^ 30 := by have := rw_.2.2.2.2.2.2.2.1; omega
  have hs8 : ∀ k, k < 9 → q_s8 (q_cr h) (8 * k) = q_s8 (q_I h 154) (8 * k) := fun k hk => q_s8_rq hq (by omega)
  have hhv : ∀ k, k < 9 → q_s8 (q_I h 154) (8 * k) = nI (q_hv f k) ∧ q_hv f k < 2 ^ 30 := fun k hk => ⟨q_rn_s8 hrn hk, by have := q_hv_le f hk; omega⟩
  refine ⟨2, _, by decide, c_X9_payments l g h hs hp aZ.2.2.1 aZ.2.2.2, fun r h1 q => ?_⟩
  obtain ⟨G, qG, rfl, hk⟩ := q
  obtain ⟨hs1, aL1, er⟩ := rel_1 hk hs aL
  have ev := pay_RC (g := q_net (q_I h 154)) hnm (fun k hk => q_sum_co (fun j hj => by rw [hq (72 + 8 * j + k) (by omega), hq (72 + 8 * k + j) (by omega)])) qG (q_I h 160)
  have c := c_X10_payments l g h1 hs1 aL1.2.2.1
  rw [er 154 (by decide), er 160 (by decide), ev] at c
  exact ⟨_, 1, by decide, rfl, hs1, q_Ct_post (fun r2 h2 q2 => ⟨q2.1, RR_sme (sme_of hk (by rw [q2.2]; exact q_mag_w (q_mag_w (q_mag_r h1) _ rfl (by decide)) _ rfl (by decide))) hR⟩) c⟩
