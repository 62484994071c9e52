/-! the class: the offers of a man, and what is sewn -/
/-- the least guilt of the first n sets by which c comes -/
def q_og (gs ce : Nat → Nat) : Nat → Nat → Nat
  | 0, _ => 1000000
  | n + 1, c => if ce n = c ∧ gs n < q_og gs ce n c then gs n else q_og gs ce n c
theorem q_og_le (gs ce : Nat → Nat) : ∀ n c, q_og gs ce n c ≤ 1000000
  | 0, _ => Nat.le_refl _
  | n + 1, c => by
    have := q_og_le gs ce n c
    unfold q_og
    split
    · next h => omega
    · exact this
/-- the least of f from c to n -/
def q_sx (f : Nat → Nat) (n : Nat) : Nat → Nat
  | 0 => f n
  | j + 1 => if q_sx f n j < f (n - (j + 1)) then q_sx f n j else f (n - (j + 1))
theorem q_og_s {gs ce : Nat → Nat} : ∀ n c, q_og gs ce n c < 1000000 → ∃ s, s < n ∧ ce s = c ∧ gs s = q_og gs ce n c
  | 0, c, h => absurd h (by unfold q_og; omega)
  | n + 1, c, h => by
    by_cases q : ce n = c ∧ gs n < q_og gs ce n c
    · exact ⟨n, by omega, q.1, (if_pos q).symm⟩
    · have e : q_og gs ce (n + 1) c = q_og gs ce n c := if_neg q
      rw [e] at h
      obtain ⟨s, h1, h2, h3⟩ := q_og_s n c h
      exact ⟨s, by omega, h2, h3.trans e.symm⟩
theorem q_og_c {gs ce : Nat → Nat} : ∀ n s, s < n → q_og gs ce n (ce s) ≤ gs s
  | 0, s, h => absurd h (Nat.not_lt_zero _)
  | n + 1, s, h => by
    by_cases q : ce n = ce s ∧ gs n < q_og gs ce n (ce s)
    · have e : q_og gs ce (n + 1) (ce s) = gs n := if_pos q
      rw [e]
      rcases Nat.lt_or_ge s n with h2 | h2
      · have := q_og_c (gs := gs) (ce := ce) n s h2
        omega
      · rw [show s = n by omega]
        exact Nat.le_refl _
    · have e : q_og gs ce (n + 1) (ce s) = q_og gs ce n (ce s) := if_neg q
      rw [e]
      rcases Nat.lt_or_ge s n with h2 | h2
      · exact q_og_c n s h2
      · have e2 : s = n := by omega
        subst e2
        have : ¬ gs s < q_og gs ce s (ce s) := fun h3 => q ⟨rfl, h3⟩
        omega
/-- the least guilt by which c or more comes -/
def q_bo (gs ce : Nat → Nat) (n K c : Nat) : Nat := q_sx (q_og gs ce K) n (n - c)
theorem q_sx_le {f : Nat → Nat} {n : Nat} : ∀ j i, i ≤ j → j ≤ n → q_sx f n j ≤ f (n - i)
  | 0, i, h, _ => by
    rw [Nat.le_zero.mp h]
    exact Nat.le_refl _
  | j + 1, i, h, hn => by
    have e : q_sx f n (j + 1) = if q_sx f n j < f (n - (j + 1)) then q_sx f n j else f (n - (j + 1)) := rfl
    rcases Nat.lt_or_ge i (j + 1) with q | q
    · have := q_sx_le (f := f) (n := n) j i (by omega) (by omega)
      rw [e]
      split <;> omega
    · rw [show i = j + 1 by omega, e]
      split <;> omega
theorem q_sx_ex {f : Nat → Nat} {n : Nat} : ∀ j, j ≤ n → ∃ i, i ≤ j ∧ q_sx f n j = f (n - i)
  | 0, _ => ⟨0, Nat.le_refl _, rfl⟩
  | j + 1, hn => by
    obtain ⟨i, h1, h2⟩ := q_sx_ex (f := f) (n := n) j (by omega)
    have e : q_sx f n (j + 1) = if q_sx f n j < f (n - (j + 1)) then q_sx f n j else f (n - (j + 1)) := rfl
    rw [e]
    split
    · exact ⟨i, by omega, h2⟩
    · exact ⟨j + 1, Nat.le_refl _, rfl⟩
theorem q_sx_mono {f : Nat → Nat} {n j : Nat} : q_sx f n (j + 1) ≤ q_sx f n j := by
  have e : q_sx f n (j + 1) = if q_sx f n j < f (n - (j + 1)) then q_sx f n j else f (n - (j + 1)) := rfl
  rw [e]
  split <;> omega
theorem q_bo_le (gs ce : Nat → Nat) (n K c : Nat) : q_bo gs ce n K c ≤ 1000000 := by
  obtain ⟨i, h1, h2⟩ := q_sx_ex (f := q_og gs ce K) (n := n) (n - c) (by omega)
  unfold q_bo
  rw [h2]
  exact q_og_le _ _ _ _
theorem q_bo_s {gs ce : Nat → Nat} {n K c : Nat} (hc : c ≤ n) (h : q_bo gs ce n K c < 1000000) : ∃ s, s < K ∧ c ≤ ce s ∧ gs s = q_bo gs ce n K c := by
  obtain ⟨i, h1, h2⟩ := q_sx_ex (f := q_og gs ce K) (n := n) (n - c) (by omega)
  unfold q_bo at h ⊢
  rw [h2] at h ⊢
  obtain ⟨s, h3, h4, h5⟩ := q_og_s _ _ h
  exact ⟨s, h3, by omega, h5⟩
theorem q_bo_c {gs ce : Nat → Nat} {n K s : Nat} (hs : s < K) (hc : ce s ≤ n) : q_bo gs ce n K (ce s) ≤ gs s := by
  have h1 := q_sx_le (f := q_og gs ce K) (n := n) (n - ce s) (n - ce s) (Nat.le_refl _) (by omega)
  rw [show n - (n - ce s) = ce s by omega] at h1
  exact Nat.le_trans h1 (q_og_c K s hs)
theorem q_bo_up {gs ce : Nat → Nat} {n K c : Nat} (hc : c < n) : q_bo gs ce n K c ≤ q_bo gs ce n K (c + 1) := by
  unfold q_bo
  rw [show n - c = n - (c + 1) + 1 by omega]
  exact q_sx_mono
/-- the last place that has no more guilt -/
theorem q_bo_last {gs ce : Nat → Nat} {n K : Nat} : ∀ j c, c + j = n → ∃ c', c ≤ c' ∧ c' ≤ n ∧ q_bo gs ce n K c' = q_bo gs ce n K c ∧ (c' = n ∨ q_bo gs ce n K c' < q_bo gs ce n K (c' + 1))
  | 0, c, h => ⟨c, Nat.le_refl _, by omega, rfl, Or.inl (by omega)⟩
  | j + 1, c, h => by
    have h1 := q_bo_up (gs := gs) (ce := ce) (K := K) (show c < n by omega)
    by_cases q : q_bo gs ce n K c < q_bo gs ce n K (c + 1)
    · exact ⟨c, Nat.le_refl _, by omega, rfl, Or.inr q⟩
    · obtain ⟨c', a1, a2, a3, a4⟩ := q_bo_last (gs := gs) (ce := ce) (n := n) (K := K) j (c + 1) (by omega)
      exact ⟨c', by omega, a2, a3.trans (by omega), a4⟩
/-- offers: of each what comes and its guilt; they are what the sets come to -/
def q_off (gs ce : Nat → Nat) (n K M : Nat) (oc ob : Nat → Nat) : Prop := (∀ i, i < M → oc i ≤ n ∧ ob i ≤ 1000000 ∧ (ob i < 1000000 → ∃ s, s < K ∧ oc i ≤ ce s ∧ gs s = ob i)) ∧ ∀ s, s < K → ∃ i, i < M ∧ ce s ≤ oc i ∧ ob i ≤ gs s
theorem q_mn_lb {f : Nat → Nat} {c : Nat} : ∀ n, (∀ i, i < n → c ≤ f i) → c ≤ 1000000 → c ≤ q_mn f n
  | 0, _, h => h
  | n + 1, h, h2 => by
    have ih := q_mn_lb n (fun i hi => h i (by omega)) h2
    have := h n (by omega)
    unfold q_mn
    split <;> omega
theorem q_mn_ub {f : Nat → Nat} : ∀ n i, i < n → q_mn f n ≤ f i
  | 0, i, h => absurd h (Nat.not_lt_zero _)
  | n + 1, i, h => by
    have e : q_mn f (n + 1) = if f n < q_mn f n then f n else q_mn f n := rfl
    rw [e]
    rcases Nat.lt_or_ge i n with q | q
    · have := q_mn_ub (f := f) n i q
      split <;> omega
    · rw [show i = n by omega]
      split <;> omega
theorem q_off_mn {gs cm L : Nat → Nat} {n K M k : Nat} {oc ob : Nat → Nat} (ho : q_off gs (fun s => if cm s < n then cm s else n) n K M oc ob) (hk : k ≤ n) (hL : ∀ a b, a ≤ b → L a ≤ L b) : q_mn (fun i => ob i + L (k - oc i)) M = q_mn (fun s => gs s + L (k - cm s)) K := by
  refine Nat.le_antisymm ?_ ?_
  · refine q_mn_lb K (fun s hs => ?_) (q_mn_le _ _)
    obtain ⟨i, h1, h2, h3⟩ := ho.2 s hs
    refine Nat.le_trans (q_mn_ub M i h1) ?_
    have : L (k - oc i) ≤ L (k - cm s) := hL _ _ (by
      have h2 : (if cm s < n then cm s else n) ≤ oc i := h2
      split at h2 <;> omega)
    show ob i + L (k - oc i) ≤ gs s + L (k - cm s)
    omega
  · refine q_mn_lb M (fun i hi => ?_) (q_mn_le _ _)
    obtain ⟨h1, h2, h3⟩ := ho.1 i hi
    by_cases q : ob i < 1000000
    · obtain ⟨s, h4, h5, h6⟩ := h3 q
      refine Nat.le_trans (q_mn_ub K s h4) ?_
      have : L (k - cm s) ≤ L (k - oc i) := hL _ _ (by
        have h5 : oc i ≤ (if cm s < n then cm s else n) := h5
        split at h5 <;> omega)
      show gs s + L (k - cm s) ≤ ob i + L (k - oc i)
      omega
    · have := q_mn_le (fun s => gs s + L (k - cm s)) K
      show _ ≤ ob i + L (k - oc i)
      omega
theorem q_lg_up (nm K : Nat) (gs : Nat → Nat) (cm : Nat → Nat → Nat) : ∀ j a b, a ≤ b → q_lg nm K gs cm j a ≤ q_lg nm K gs cm j b
  | 0, a, b, h => by
    unfold q_lg
    split
    · exact Nat.zero_le _
    · rw [if_neg (by omega)]
      exact Nat.le_refl _
  | j + 1, a, b, h => by
    refine q_mn_lb K (fun s hs => ?_) (q_mn_le _ _)
    refine Nat.le_trans (q_mn_ub K s hs) ?_
    have := q_lg_up nm K gs cm j (a - cm (nm - 1 - j) s) (b - cm (nm - 1 - j) s) (by omega)
    show gs s + q_lg nm K gs cm j (a - cm (nm - 1 - j) s) ≤ gs s + q_lg nm K gs cm j (b - cm (nm - 1 - j) s)
    omega
theorem q_og_st (gs ce : Nat → Nat) (s : Nat) : q_og gs ce (s + 1) (ce s) = if gs s < q_og gs ce s (ce s) then gs s else q_og gs ce s (ce s) := by
  show (if ce s = ce s ∧ gs s < q_og gs ce s (ce s) then _ else _) = _
  by_cases h : gs s < q_og gs ce s (ce s)
  · rw [if_pos ⟨rfl, h⟩, if_pos h]
  · rw [if_neg (fun q => h q.2), if_neg h]
theorem q_bo_0 {gs ce : Nat → Nat} {n K c : Nat} (hc : c ≤ n) : nI (q_og gs ce K c) = nI (if n - 0 ≤ c then q_bo gs ce n K c else q_og gs ce K c) := by
  by_cases q : n - 0 ≤ c
  · rw [if_pos q, show c = n by omega]
    unfold q_bo
    rw [Nat.sub_self]
    rfl
  · rw [if_neg q]
theorem q_bo_st1 {gs ce : Nat → Nat} {n K j : Nat} (hj : j < n) : nI (if q_bo gs ce n K (n - 1 - j + 1) < q_og gs ce K (n - 1 - j) then q_bo gs ce n K (n - 1 - j + 1) else q_og gs ce K (n - 1 - j)) = nI (if n - (j + 1) ≤ n - 1 - j then q_bo gs ce n K (n - 1 - j) else q_og gs ce K (n - 1 - j)) := by
  rw [if_pos (show n - (j + 1) ≤ n - 1 - j by omega)]
  refine congrArg nI ?_
  unfold q_bo
  have e1 : n - (n - 1 - j + 1) = j := by omega
  have e2 : n - (n - 1 - j) = j + 1 := by omega
  have e3 : n - (j + 1) = n - 1 - j := by omega
  rw [e1, e2]
  show _ = if q_sx _ n j < q_og gs ce K (n - (j + 1)) then q_sx _ n j else q_og gs ce K (n - (j + 1))
  rw [e3]
theorem q_bo_st2 {gs ce : Nat → Nat} {n K j c : Nat} (hj : j < n) (e : c ≠ n - 1 - j) : nI (if n - j ≤ c then q_bo gs ce n K c else q_og gs ce K c) = nI (if n - (j + 1) ≤ c then q_bo gs ce n K c else q_og gs ce K c) := by
  by_cases q : n - j ≤ c
  · rw [if_pos q, if_pos (by omega)]
  · rw [if_neg q, if_neg (by omega)]
theorem q_off_a {B : Nat → Nat} {A1 A2 : Nat → Int32} {oc ob : Nat → Nat} {i M : Nat} (ha : ∀ j, j < M → A1 j = nI (oc j) ∧ A2 j = nI (ob j) ∧ oc j < i ∧ ob j = B (oc j)) (_ : M ≤ i) : ∀ j, j < M + 1 → upd A1 M (nI i) j = nI (if j = M then i else oc j) ∧ upd A2 M (nI (B i)) j = nI (if j = M then B i else ob j) ∧ (if j = M then i else oc j) < i + 1 ∧ (if j = M then B i else ob j) = B (if j = M then i else oc j) := by
  intro j hj
  by_cases q : j = M
  · rw [q, pk_us, pk_us, if_pos rfl, if_pos rfl]
    exact ⟨rfl, rfl, by omega, rfl⟩
  · obtain ⟨a1, a2, a3, a4⟩ := ha j (by omega)
    rw [pk_un q, pk_un q, if_neg q, if_neg q]
    exact ⟨a1, a2, by omega, a4⟩
theorem q_off_b {P : Nat → Prop} {oc : Nat → Nat} {i M : Nat} (hb : ∀ c, c < i → P c → ∃ j, j < M ∧ oc j = c) : ∀ c, c < i + 1 → P c → ∃ j, j < M + 1 ∧ (if j = M then i else oc j) = c := by
  intro c hc hp
  by_cases q : c < i
  · obtain ⟨j, h1, h2⟩ := hb c q hp
    exact ⟨j, by omega, by rw [if_neg (by omega)]; exact h2⟩
  · exact ⟨M, by omega, by rw [if_pos rfl]; omega⟩
theorem q_off_of {gs ce : Nat → Nat} {n K M : Nat} {A1 A2 : Nat → Int32} {oc ob : Nat → Nat} (ha : ∀ j, j < M → A1 j = nI (oc j) ∧ A2 j = nI (ob j) ∧ oc j < n + 1 ∧ ob j = q_bo gs ce n K (oc j)) (hb : ∀ c, c < n + 1 → (c = n ∨ q_bo gs ce n K c < q_bo gs ce n K (c + 1)) → ∃ j, j < M ∧ oc j = c) (hce : ∀ s, s < K → ce s ≤ n) : q_off gs ce n K M oc ob := by
  refine ⟨fun i hi => ?_, fun s hs => ?_⟩
  · obtain ⟨a1, a2, a3, a4⟩ := ha i hi
    rw [a4]
    refine ⟨by omega, q_bo_le _ _ _ _ _, fun q => ?_⟩
    obtain ⟨s, h1, h2, h3⟩ := q_bo_s (by omega) q
    exact ⟨s, h1, h2, h3⟩
  · have h1 := hce s hs
    obtain ⟨c, b1, b2, b3, b4⟩ := q_bo_last (gs := gs) (ce := ce) (n := n) (K := K) (n - ce s) (ce s) (by omega)
    obtain ⟨j, h2, h3⟩ := hb c (by omega) b4
    refine ⟨j, h2, by omega, ?_⟩
    rw [(ha j h2).2.2.2, h3, b3]
    exact q_bo_c hs h1
theorem c_X4_gatherOffers (l : Launch) (g : q_GP) (h : q_H) (hs : q_Stat h) {n K : Nat} (hn1 : 1 ≤ n) (hn : n ≤ 400) (hK : K ≤ 256) {gs cm : Nat → Nat} (ho : ∀ s, s < K → q_I h 111 s = nI (gs s) ∧ gs s ≤ 1000000 ∧ q_I h 112 s = nI (cm s) ∧ cm s < 2 ^ 30) : q_Ct l g 1 mX4_gatherOffers [.ref 98, .int (nI n), .int (nI K)] h (fun r h1 => ∃ M oc ob OC OG, r = some (.int (nI M)) ∧ M ≤ n + 1 ∧ q_off gs (fun s => if cm s < n then cm s else n) n K M oc ob ∧ (∀ i, i < M → OC i = nI (oc i) ∧ OG i = nI (ob i)) ∧ h1 = q_wI (q_wI h 113 OC) 114 OG) := by
  refine q_CtV mvX4_gatherOffers (Nat.le_of_ble_eq_true rfl) ?_
  refine xe_iconst dX4_gatherOffers_0 kc_0 ?_
  refine xe_istore_n (i := 3) dX4_gatherOffers_1 rfl (by decide) rfl ?_
  refine xe_fin (L' := (fun (i_ : Nat) (s1 : (Nat → Int32)) => [(0, .ref 98), (1, .int (nI n)), (2, .int (nI K)), (3, .int (nI i_))]) 0 (q_I h 114)) (h' := (fun (i_ : Nat) (s1 : (Nat → Int32)) => (q_wI h 114 s1)) 0 (q_I h 114)) ?_ (And.intro rfl (And.intro rfl (And.intro rfl (And.intro rfl trivial)))) (q_heq [114] (H := h) (by repeat (first | exact q_out_r | refine q_out_w rfl ?_)) (by repeat (first | exact q_out_r | refine q_out_w rfl ?_)) (And.intro rfl trivial))
  refine xe_loopI (σ := (Nat → Int32)) (n + 1) (fun i s => ∀ c, c < i → s c = nI 1000000) (fun (i_ : Nat) (s1 : (Nat → Int32)) => [(0, .ref 98), (1, .int (nI n)), (2, .int (nI K)), (3, .int (nI i_))]) (fun (i_ : Nat) (s1 : (Nat → Int32)) => (q_wI h 114 s1)) (q_I h 114) (fun _ q => absurd q (Nat.not_lt_zero _)) (fun i_ hi_ s1 e1 K1 => ?_) (fun s1 e1 => ?_)
  · refine xe_iload_n dX4_gatherOffers_2 rfl ?_
    refine xe_iload_n dX4_gatherOffers_3 rfl ?_
    refine xn_icmp_gt (tgt := 21) dX4_gatherOffers_4 rfl (by omega) (by omega) (fun c2 => ?_) (fun c2 => ?_)
    · omega
    · refine xe_aload_n dX4_gatherOffers_7 rfl ?_
      refine xe_getP dX4_gatherOffers_8 flX4_32 (st98 hs) (by decide) rfl (sp98_6 hs) ?_
      refine xe_iload_n dX4_gatherOffers_11 rfl ?_
      refine xe_ldc dX4_gatherOffers_12 coX4_48 ?_
      refine xe_top (v' := nI 1000000) (by decide +kernel) ?_
      refine xn_iast dX4_gatherOffers_14 (st114 hs) (by omega) (by decide) ?_
      refine xn_iinc dX4_gatherOffers_15 rfl kc_1 ?_
      refine xe_goto (tgt := 2) dX4_gatherOffers_18 rfl ?_
      exact xe_fin (K1 (upd s1 i_ (nI 1000000)) (fun c q => q_updw (fun _ => rfl) (fun e => e1 c (by omega)))) (And.intro rfl (And.intro rfl (And.intro rfl (And.intro rfl trivial)))) (q_heq [114] (H := h) (by repeat (first | exact q_out_r | refine q_out_w rfl ?_)) (by repeat (first | exact q_out_r | refine q_out_w rfl ?_)) (And.intro rfl trivial))
  · refine xe_iload_n dX4_gatherOffers_2 rfl ?_
    refine xe_iload_n dX4_gatherOffers_3 rfl ?_
    refine xn_icmp_gt (tgt := 21) dX4_gatherOffers_4 rfl (by omega) (by omega) (fun c3 => ?_) (fun c3 => ?_)
    · refine xe_iconst dX4_gatherOffers_21 kc_0 ?_
      refine xe_istore_n (i := 3) dX4_gatherOffers_22 rfl (by decide) rfl ?_
      refine xe_fin (L' := (fun (s_ : Nat) (s4 : (Nat → Int32)) => [(0, .ref 98), (1, .int (nI n)), (2, .int (nI K)), (3, .int (nI s_))]) 0 s1) (h' := (fun (s_ : Nat) (s4 : (Nat → Int32)) => (q_wI h 114 s4)) 0 s1) ?_ (And.intro rfl (And.intro rfl (And.intro rfl (And.intro rfl trivial)))) (q_heq [114] (H := h) (by repeat (first | exact q_out_r | refine q_out_w rfl ?_)) (by repeat (first | exact q_out_r | refine q_out_w rfl ?_)) (And.intro rfl trivial))
      refine xe_loopI (σ := (Nat → Int32)) (K) (fun i s => ∀ c, c ≤ n → s c = nI (q_og gs (fun s => if cm s < n then cm s else n) i c)) (fun (s_ : Nat) (s4 : (Nat → Int32)) => [(0, .ref 98), (1, .int (nI n)), (2, .int (nI K)), (3, .int (nI s_))]) (fun (s_ : Nat) (s4 : (Nat → Int32)) => (q_wI h 114 s4)) s1 (fun c hc => e1 c (by omega)) (fun s_ hs_ s4 e4 K4 => ?_) (fun s4 e4 => ?_)
      · obtain ⟨o1, o2, o3, o4⟩ := ho s_ hs_
        have hce : (fun s => if cm s < n then cm s else n) s_ ≤ n := (by show (if _ then _ else _) ≤ n; split <;> omega)
        have hogl := q_og_le gs (fun s => if cm s < n then cm s else n) s_ ((fun s => if cm s < n then cm s else n) s_)
        refine xe_iload_n dX4_gatherOffers_23 rfl ?_
        refine xe_iload_n dX4_gatherOffers_24 rfl ?_
        refine xn_icmp_ge (tgt := 69) dX4_gatherOffers_25 rfl (by omega) (by omega) (fun c5 => ?_) (fun c5 => ?_)
        · omega
        · refine xe_iload_n dX4_gatherOffers_28 rfl ?_
          refine xe_aload_n dX4_gatherOffers_29 rfl ?_
          refine xe_getP dX4_gatherOffers_30 flX4_26 (st98 hs) (by decide) rfl (sp98_4 hs) ?_
          refine xe_iload_n dX4_gatherOffers_33 rfl ?_
          refine xn_ialdv dX4_gatherOffers_34 (st112 hs) (by omega) (by decide) (v := nI (cm s_)) (o3) ?_
          refine xe_min dX4_gatherOffers_35 mlX4_84 q_mmin (by decide) (Nat.le_of_ble_eq_true rfl) ?_
          refine xe_top (v' := nI ((fun s => if cm s < n then cm s else n) s_)) (q_minN (by omega) (by omega)) ?_
          refine xe_istore dX4_gatherOffers_38 (by decide) rfl ?_
          refine xe_aload_n dX4_gatherOffers_40 rfl ?_
          refine xe_getP dX4_gatherOffers_41 flX4_32 (st98 hs) (by decide) rfl (sp98_6 hs) ?_
          refine xe_iload dX4_gatherOffers_44 rfl ?_
          refine xe_aload_n dX4_gatherOffers_46 rfl ?_
          refine xe_getP dX4_gatherOffers_47 flX4_32 (st98 hs) (by decide) rfl (sp98_6 hs) ?_
          refine xe_iload dX4_gatherOffers_50 rfl ?_
          refine xn_ialdv dX4_gatherOffers_52 (st114 hs) (by omega) (by decide) (v := nI (q_og gs (fun s => if cm s < n then cm s else n) s_ ((fun s => if cm s < n then cm s else n) s_))) (e4 _ hce) ?_
          refine xe_aload_n dX4_gatherOffers_53 rfl ?_
          refine xe_getP dX4_gatherOffers_54 flX4_23 (st98 hs) (by decide) rfl (sp98_3 hs) ?_
          refine xe_iload_n dX4_gatherOffers_57 rfl ?_
          refine xn_ialdv dX4_gatherOffers_58 (st111 hs) (by omega) (by decide) (v := nI (gs s_)) (o1) ?_
          refine xe_min dX4_gatherOffers_59 mlX4_84 q_mmin (by decide) (Nat.le_of_ble_eq_true rfl) ?_
          refine xe_top (v' := nI (if gs s_ < q_og gs (fun s => if cm s < n then cm s else n) s_ ((fun s => if cm s < n then cm s else n) s_) then gs s_ else q_og gs (fun s => if cm s < n then cm s else n) s_ ((fun s => if cm s < n then cm s else n) s_))) (q_minN (by omega) (by omega)) ?_
          refine xn_iast dX4_gatherOffers_62 (st114 hs) (by omega) (by decide) ?_
          refine xn_iinc dX4_gatherOffers_63 rfl kc_1 ?_
          refine xe_goto (tgt := 23) dX4_gatherOffers_66 rfl ?_
          exact xe_fin (K4 (upd s4 ((fun s => if cm s < n then cm s else n) s_) (nI (if gs s_ < q_og gs (fun s => if cm s < n then cm s else n) s_ ((fun s => if cm s < n then cm s else n) s_) then gs s_ else q_og gs (fun s => if cm s < n then cm s else n) s_ ((fun s => if cm s < n then cm s else n) s_)))) (fun c hc => q_updw (fun e => by rw [e]; exact congrArg nI (q_og_st _ _ _).symm) (fun e => (e4 c hc).trans (congrArg nI (if_neg (fun q => e q.1.symm)).symm)))) (And.intro rfl (And.intro rfl (And.intro rfl (And.intro rfl trivial)))) (q_heq [114] (H := h) (by repeat (first | exact q_out_r | refine q_out_w rfl ?_)) (by repeat (first | exact q_out_r | refine q_out_w rfl ?_)) (And.intro rfl trivial))
      · refine xe_iload_n dX4_gatherOffers_23 rfl ?_
        refine xe_iload_n dX4_gatherOffers_24 rfl ?_
        refine xn_icmp_ge (tgt := 69) dX4_gatherOffers_25 rfl (by omega) (by omega) (fun c6 => ?_) (fun c6 => ?_)
        · refine xe_iload_n dX4_gatherOffers_69 rfl ?_
          refine xe_iconst dX4_gatherOffers_70 kc_1 ?_
          refine xn_isub dX4_gatherOffers_71 (by omega) ?_
          refine xe_istore_n (i := 3) dX4_gatherOffers_72 rfl (by decide) rfl ?_
          refine xe_fin (L' := (fun (j_ : Nat) (s7 : (Nat → Int32)) => [(0, .ref 98), (1, .int (nI n)), (2, .int (nI K)), (3, .int (nI (n - j_) - nI 1))]) 0 s4) (h' := (fun (j_ : Nat) (s7 : (Nat → Int32)) => (q_wI h 114 s7)) 0 s4) ?_ (And.intro rfl (And.intro rfl (And.intro rfl (And.intro (by exact congrArg (fun v => some (Value.int v)) (pk_sub (by omega)).symm) trivial)))) (q_heq [114] (H := h) (by repeat (first | exact q_out_r | refine q_out_w rfl ?_)) (by repeat (first | exact q_out_r | refine q_out_w rfl ?_)) (And.intro rfl trivial))
          refine xe_loopI (σ := (Nat → Int32)) (n) (fun j s => ∀ c, c ≤ n → s c = nI (if n - j ≤ c then q_bo gs (fun s => if cm s < n then cm s else n) n K c else q_og gs (fun s => if cm s < n then cm s else n) K c)) (fun (j_ : Nat) (s7 : (Nat → Int32)) => [(0, .ref 98), (1, .int (nI n)), (2, .int (nI K)), (3, .int (nI (n - j_) - nI 1))]) (fun (j_ : Nat) (s7 : (Nat → Int32)) => (q_wI h 114 s7)) s4 (fun c hc => (e4 c hc).trans (q_bo_0 hc)) (fun j_ hj_ s7 e7 K7 => ?_) (fun s7 e7 => ?_)
          · refine xe_locals (L' := [(0, .ref 98), (1, .int (nI n)), (2, .int (nI K)), (3, .int (nI (n - 1 - j_)))]) (And.intro rfl (And.intro rfl (And.intro rfl (And.intro (congrArg (fun v => some (Value.int v)) ((pk_sub (by omega)).trans (congrArg nI (by omega)))) trivial)))) ?_
            refine xe_iload_n dX4_gatherOffers_73 rfl ?_
            refine xn_if_lt (tgt := 106) dX4_gatherOffers_74 rfl (by omega) ?_
            refine xe_aload_n dX4_gatherOffers_77 rfl ?_
            refine xe_getP dX4_gatherOffers_78 flX4_32 (st98 hs) (by decide) rfl (sp98_6 hs) ?_
            refine xe_iload_n dX4_gatherOffers_81 rfl ?_
            refine xe_aload_n dX4_gatherOffers_82 rfl ?_
            refine xe_getP dX4_gatherOffers_83 flX4_32 (st98 hs) (by decide) rfl (sp98_6 hs) ?_
            refine xe_iload_n dX4_gatherOffers_86 rfl ?_
            refine xn_ialdv dX4_gatherOffers_87 (st114 hs) (by omega) (by decide) (v := nI (q_og gs (fun s => if cm s < n then cm s else n) K (n - 1 - j_))) ((e7 _ (by omega)).trans (congrArg nI (if_neg (by omega)))) ?_
            refine xe_aload_n dX4_gatherOffers_88 rfl ?_
            refine xe_getP dX4_gatherOffers_89 flX4_32 (st98 hs) (by decide) rfl (sp98_6 hs) ?_
            refine xe_iload_n dX4_gatherOffers_92 rfl ?_
            refine xe_iconst dX4_gatherOffers_93 kc_1 ?_
            refine xn_iadd dX4_gatherOffers_94 ?_
            refine xn_ialdv dX4_gatherOffers_95 (st114 hs) (by omega) (by decide) (v := nI (q_bo gs (fun s => if cm s < n then cm s else n) n K (n - 1 - j_ + 1))) ((e7 _ (by omega)).trans (congrArg nI (if_pos (by omega)))) ?_
            have b1_ := q_og_le gs (fun s => if cm s < n then cm s else n) K (n - 1 - j_)
            have b2_ := q_bo_le gs (fun s => if cm s < n then cm s else n) n K (n - 1 - j_ + 1)
            refine xe_min dX4_gatherOffers_96 mlX4_84 q_mmin (by decide) (Nat.le_of_ble_eq_true rfl) ?_
            refine xe_top (v' := nI (if q_bo gs (fun s => if cm s < n then cm s else n) n K (n - 1 - j_ + 1) < q_og gs (fun s => if cm s < n then cm s else n) K (n - 1 - j_) then q_bo gs (fun s => if cm s < n then cm s else n) n K (n - 1 - j_ + 1) else q_og gs (fun s => if cm s < n then cm s else n) K (n - 1 - j_))) (q_minN (by omega) (by omega)) ?_
            refine xn_iast dX4_gatherOffers_99 (st114 hs) (by omega) (by decide) ?_
            refine xe_iinc dX4_gatherOffers_100 rfl (v := (nI (n - (j_ + 1)) - nI 1)) (by rw [show n - (j_ + 1) = n - 1 - j_ by omega]; exact q_decm _) ?_
            refine xe_goto (tgt := 73) dX4_gatherOffers_103 rfl ?_
            exact xe_fin (K7 (upd s7 (n - 1 - j_) (nI (if q_bo gs (fun s => if cm s < n then cm s else n) n K (n - 1 - j_ + 1) < q_og gs (fun s => if cm s < n then cm s else n) K (n - 1 - j_) then q_bo gs (fun s => if cm s < n then cm s else n) n K (n - 1 - j_ + 1) else q_og gs (fun s => if cm s < n then cm s else n) K (n - 1 - j_)))) (fun c hc => q_updw (fun e => by rw [e]; exact q_bo_st1 hj_) (fun e => (e7 c hc).trans (q_bo_st2 hj_ e)))) (And.intro rfl (And.intro rfl (And.intro rfl (And.intro rfl trivial)))) (q_heq [114] (H := h) (by repeat (first | exact q_out_r | refine q_out_w rfl ?_)) (by repeat (first | exact q_out_r | refine q_out_w rfl ?_)) (And.intro rfl trivial))
          · refine xe_iload_n dX4_gatherOffers_73 rfl ?_
            refine xe_if_lt (tgt := 106) dX4_gatherOffers_74 rfl (fun c9 => ?_) (fun c9 => ?_)
            · refine xe_iconst dX4_gatherOffers_106 kc_0 ?_
              refine xe_istore_n (i := 3) dX4_gatherOffers_107 rfl (by decide) rfl ?_
              refine xe_iconst dX4_gatherOffers_108 kc_0 ?_
              refine xe_istore dX4_gatherOffers_109 (by decide) rfl ?_
              refine xe_fin (L' := (fun (c_ : Nat) (s10 : Nat × (Nat → Int32) × (Nat → Int32)) => [(0, .ref 98), (1, .int (nI n)), (2, .int (nI K)), (3, .int (nI s10.1)), (4, .int (nI c_))]) 0 (0, q_I h 113, s7)) (h' := (fun (c_ : Nat) (s10 : Nat × (Nat → Int32) × (Nat → Int32)) => (q_wI (q_wI h 113 s10.2.1) 114 s10.2.2)) 0 (0, q_I h 113, s7)) ?_ (And.intro rfl (And.intro rfl (And.intro rfl (And.intro rfl (And.intro rfl trivial))))) (q_heq [113, 114] (H := h) (by repeat (first | exact q_out_r | refine q_out_w rfl ?_)) (by repeat (first | exact q_out_r | refine q_out_w rfl ?_)) (And.intro rfl (And.intro rfl trivial)))
              refine xe_loopI (σ := Nat × (Nat → Int32) × (Nat → Int32)) (n + 1) (fun i s => s.1 ≤ i ∧ (∀ c, i ≤ c → c ≤ n → s.2.2 c = nI (q_bo gs (fun s => if cm s < n then cm s else n) n K c)) ∧ ∃ oc ob : Nat → Nat, (∀ j, j < s.1 → s.2.1 j = nI (oc j) ∧ s.2.2 j = nI (ob j) ∧ oc j < i ∧ ob j = q_bo gs (fun s => if cm s < n then cm s else n) n K (oc j)) ∧ ∀ c, c < i → (c = n ∨ q_bo gs (fun s => if cm s < n then cm s else n) n K c < q_bo gs (fun s => if cm s < n then cm s else n) n K (c + 1)) → ∃ j, j < s.1 ∧ oc j = c) (fun (c_ : Nat) (s10 : Nat × (Nat → Int32) × (Nat → Int32)) => [(0, .ref 98), (1, .int (nI n)), (2, .int (nI K)), (3, .int (nI s10.1)), (4, .int (nI c_))]) (fun (c_ : Nat) (s10 : Nat × (Nat → Int32) × (Nat → Int32)) => (q_wI (q_wI h 113 s10.2.1) 114 s10.2.2)) (0, q_I h 113, s7) (⟨Nat.le_refl _, fun c _ hc => (e7 c hc).trans (congrArg nI (if_pos (by omega))), fun _ => 0, fun _ => 0, fun _ q => absurd q (Nat.not_lt_zero _), fun _ q => absurd q (Nat.not_lt_zero _)⟩) (fun c_ hc_ s10 e10 K10 => ?_) (fun s10 e10 => ?_)
              · have hs1 := e10.1
                obtain ⟨oc, ob, ha, hb⟩ := e10.2.2
                refine xe_iload dX4_gatherOffers_111 rfl ?_
                refine xe_iload_n dX4_gatherOffers_113 rfl ?_
                refine xn_icmp_gt (tgt := 172) dX4_gatherOffers_114 rfl (by omega) (by omega) (fun c11 => ?_) (fun c11 => ?_)
                · omega
                · refine xe_iload dX4_gatherOffers_117 rfl ?_
                  refine xe_iload_n dX4_gatherOffers_119 rfl ?_
                  refine xn_icmp_eq (tgt := 142) dX4_gatherOffers_120 rfl (by omega) (by omega) (fun c12 => ?_) (fun c12 => ?_)
                  · have hyes : c_ = n ∨ q_bo gs (fun s => if cm s < n then cm s else n) n K c_ < q_bo gs (fun s => if cm s < n then cm s else n) n K (c_ + 1) := Or.inl c12
                    refine xe_aload_n dX4_gatherOffers_142 rfl ?_
                    refine xe_getP dX4_gatherOffers_143 flX4_29 (st98 hs) (by decide) rfl (sp98_5 hs) ?_
                    refine xe_iload_n dX4_gatherOffers_146 rfl ?_
                    refine xe_iload dX4_gatherOffers_147 rfl ?_
                    refine xn_iast dX4_gatherOffers_149 (st113 hs) (by omega) (by decide) ?_
                    refine xe_aload_n dX4_gatherOffers_150 rfl ?_
                    refine xe_getP dX4_gatherOffers_151 flX4_32 (st98 hs) (by decide) rfl (sp98_6 hs) ?_
                    refine xe_iload_n dX4_gatherOffers_154 rfl ?_
                    refine xe_aload_n dX4_gatherOffers_155 rfl ?_
                    refine xe_getP dX4_gatherOffers_156 flX4_32 (st98 hs) (by decide) rfl (sp98_6 hs) ?_
                    refine xe_iload dX4_gatherOffers_159 rfl ?_
                    refine xn_ialdv dX4_gatherOffers_161 (st114 hs) (by omega) (by decide) (v := nI (q_bo gs (fun s => if cm s < n then cm s else n) n K c_)) (e10.2.1 _ (Nat.le_refl _) (by omega)) ?_
                    refine xn_iast dX4_gatherOffers_162 (st114 hs) (by omega) (by decide) ?_
                    refine xn_iinc dX4_gatherOffers_163 rfl kc_1 ?_
                    refine xn_iinc dX4_gatherOffers_166 rfl kc_1 ?_
                    refine xe_goto (tgt := 111) dX4_gatherOffers_169 rfl ?_
                    exact xe_fin (K10 (s10.1 + 1, upd s10.2.1 s10.1 (nI c_), upd s10.2.2 s10.1 (nI (q_bo gs (fun s => if cm s < n then cm s else n) n K c_))) (⟨by omega, fun c h1 h2 => (pk_un (by omega)).trans (e10.2.1 c (by omega) h2), fun j => if j = s10.1 then c_ else oc j, fun j => if j = s10.1 then q_bo gs (fun s => if cm s < n then cm s else n) n K c_ else ob j, q_off_a ha hs1, q_off_b hb⟩)) (And.intro rfl (And.intro rfl (And.intro rfl (And.intro rfl (And.intro rfl trivial))))) (q_heq [113, 114] (H := h) (by repeat (first | exact q_out_r | refine q_out_w rfl ?_)) (by repeat (first | exact q_out_r | refine q_out_w rfl ?_)) (And.intro rfl (And.intro rfl trivial)))
                  · have hnn : ¬ c_ = n := c12
                    refine xe_aload_n dX4_gatherOffers_123 rfl ?_
                    refine xe_getP dX4_gatherOffers_124 flX4_32 (st98 hs) (by decide) rfl (sp98_6 hs) ?_
                    refine xe_iload dX4_gatherOffers_127 rfl ?_
                    refine xn_ialdv dX4_gatherOffers_129 (st114 hs) (by omega) (by decide) (v := nI (q_bo gs (fun s => if cm s < n then cm s else n) n K c_)) (e10.2.1 _ (Nat.le_refl _) (by omega)) ?_
                    refine xe_aload_n dX4_gatherOffers_130 rfl ?_
                    refine xe_getP dX4_gatherOffers_131 flX4_32 (st98 hs) (by decide) rfl (sp98_6 hs) ?_
                    refine xe_iload dX4_gatherOffers_134 rfl ?_
                    refine xe_iconst dX4_gatherOffers_136 kc_1 ?_
                    refine xn_iadd dX4_gatherOffers_137 ?_
                    refine xn_ialdv dX4_gatherOffers_138 (st114 hs) (by omega) (by decide) (v := nI (q_bo gs (fun s => if cm s < n then cm s else n) n K (c_ + 1))) (e10.2.1 _ (by omega) (by omega)) ?_
                    have b3_ := q_bo_le gs (fun s => if cm s < n then cm s else n) n K c_
                    have b4_ := q_bo_le gs (fun s => if cm s < n then cm s else n) n K (c_ + 1)
                    refine xn_icmp_ge (tgt := 166) dX4_gatherOffers_139 rfl (by omega) (by omega) (fun c13 => ?_) (fun c13 => ?_)
                    · have hno : ¬ (c_ = n ∨ q_bo gs (fun s => if cm s < n then cm s else n) n K c_ < q_bo gs (fun s => if cm s < n then cm s else n) n K (c_ + 1)) := fun q => q.elim hnn (by omega)
                      refine xn_iinc dX4_gatherOffers_166 rfl kc_1 ?_
                      refine xe_goto (tgt := 111) dX4_gatherOffers_169 rfl ?_
                      exact xe_fin (K10 (s10.1, s10.2.1, s10.2.2) (⟨by omega, fun c h1 h2 => e10.2.1 c (by omega) h2, oc, ob, fun j q => ⟨(ha j q).1, (ha j q).2.1, by have := (ha j q).2.2.1; omega, (ha j q).2.2.2⟩, fun c h1 h2 => if q : c < c_ then hb c q h2 else absurd h2 (by obtain rfl : c = c_ := (by omega); exact hno)⟩)) (And.intro rfl (And.intro rfl (And.intro rfl (And.intro rfl (And.intro rfl trivial))))) (q_heq [113, 114] (H := h) (by repeat (first | exact q_out_r | refine q_out_w rfl ?_)) (by repeat (first | exact q_out_r | refine q_out_w rfl ?_)) (And.intro rfl (And.intro rfl trivial)))
                    · have hyes : c_ = n ∨ q_bo gs (fun s => if cm s < n then cm s else n) n K c_ < q_bo gs (fun s => if cm s < n then cm s else n) n K (c_ + 1) := Or.inr (by omega)
                      refine xe_aload_n dX4_gatherOffers_142 rfl ?_
                      refine xe_getP dX4_gatherOffers_143 flX4_29 (st98 hs) (by decide) rfl (sp98_5 hs) ?_
                      refine xe_iload_n dX4_gatherOffers_146 rfl ?_
                      refine xe_iload dX4_gatherOffers_147 rfl ?_
                      refine xn_iast dX4_gatherOffers_149 (st113 hs) (by omega) (by decide) ?_
                      refine xe_aload_n dX4_gatherOffers_150 rfl ?_
                      refine xe_getP dX4_gatherOffers_151 flX4_32 (st98 hs) (by decide) rfl (sp98_6 hs) ?_
                      refine xe_iload_n dX4_gatherOffers_154 rfl ?_
                      refine xe_aload_n dX4_gatherOffers_155 rfl ?_
                      refine xe_getP dX4_gatherOffers_156 flX4_32 (st98 hs) (by decide) rfl (sp98_6 hs) ?_
                      refine xe_iload dX4_gatherOffers_159 rfl ?_
                      refine xn_ialdv dX4_gatherOffers_161 (st114 hs) (by omega) (by decide) (v := nI (q_bo gs (fun s => if cm s < n then cm s else n) n K c_)) (e10.2.1 _ (Nat.le_refl _) (by omega)) ?_
                      refine xn_iast dX4_gatherOffers_162 (st114 hs) (by omega) (by decide) ?_
                      refine xn_iinc dX4_gatherOffers_163 rfl kc_1 ?_
                      refine xn_iinc dX4_gatherOffers_166 rfl kc_1 ?_
                      refine xe_goto (tgt := 111) dX4_gatherOffers_169 rfl ?_
                      exact xe_fin (K10 (s10.1 + 1, upd s10.2.1 s10.1 (nI c_), upd s10.2.2 s10.1 (nI (q_bo gs (fun s => if cm s < n then cm s else n) n K c_))) (⟨by omega, fun c h1 h2 => (pk_un (by omega)).trans (e10.2.1 c (by omega) h2), fun j => if j = s10.1 then c_ else oc j, fun j => if j = s10.1 then q_bo gs (fun s => if cm s < n then cm s else n) n K c_ else ob j, q_off_a ha hs1, q_off_b hb⟩)) (And.intro rfl (And.intro rfl (And.intro rfl (And.intro rfl (And.intro rfl trivial))))) (q_heq [113, 114] (H := h) (by repeat (first | exact q_out_r | refine q_out_w rfl ?_)) (by repeat (first | exact q_out_r | refine q_out_w rfl ?_)) (And.intro rfl (And.intro rfl trivial)))
              · refine xe_iload dX4_gatherOffers_111 rfl ?_
                refine xe_iload_n dX4_gatherOffers_113 rfl ?_
                refine xn_icmp_gt (tgt := 172) dX4_gatherOffers_114 rfl (by omega) (by omega) (fun c14 => ?_) (fun c14 => ?_)
                · refine xe_iload_n dX4_gatherOffers_172 rfl ?_
                  refine xe_ireturn dX4_gatherOffers_173 rfl (by first | rfl | decide +kernel) ?_
                  obtain ⟨oc, ob, ha, hb⟩ := e10.2.2
                  exact ⟨s10.1, oc, ob, _, _, rfl, e10.1, q_off_of ha hb (fun s hs => by show (if _ then _ else _) ≤ n; split <;> omega), fun j q => ⟨(ha j q).1, (ha j q).2.1⟩, rfl⟩
                · omega
            · exact absurd (by rw [Nat.sub_self]; decide) c9
        · omega
    · omega
