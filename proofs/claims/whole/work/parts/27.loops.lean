/-! loops with a state, heaps that are compared cell by cell -/
def q_it {σ : Type} (F : Nat → σ → σ) (s : σ) : Nat → σ
  | 0 => s
  | n + 1 => F n (q_it F s n)
def q_noF {σ : Type} (_ : Nat) (s : σ) : σ := s
def q_out (ks : List Nat) (H h1 : q_H) : Prop := (∀ r, ks.contains r = false → q_I h1 r = q_I H r) ∧ h1.2 = H.2
theorem q_out_r {ks : List Nat} {H : q_H} : q_out ks H H := ⟨fun _ _ => rfl, rfl⟩
theorem q_out_w {ks : List Nat} {H h1 : q_H} {r : Nat} {f : Nat → Int32} (hr : ks.contains r = true) (a : q_out ks H h1) : q_out ks H (q_wI h1 r f) := by
  refine ⟨fun r' h' => ?_, a.2⟩
  have hne : r' ≠ r := fun q => by rw [q, hr] at h'; cases h'
  rw [q_IwI, if_neg hne]
  exact a.1 r' h'
def q_rows (h1 h2 : q_H) : List Nat → Prop
  | [] => True
  | k :: ks => q_I h1 k = q_I h2 k ∧ q_rows h1 h2 ks
theorem q_rows_in {h1 h2 : q_H} : ∀ {ks : List Nat}, q_rows h1 h2 ks → ∀ r ∈ ks, q_I h1 r = q_I h2 r
  | [], _, _, h => absurd h List.not_mem_nil
  | k :: ks, a, r, h => by
    rcases List.mem_cons.mp h with rfl | h
    · exact a.1
    · exact q_rows_in a.2 r h
theorem q_heq (ks : List Nat) {H h1 h2 : q_H} (a : q_out ks H h1) (b : q_out ks H h2) (c : q_rows h1 h2 ks) : h1 = h2 := by
  refine Prod.ext ?_ (a.2.trans b.2.symm)
  funext r
  by_cases hr : r ∈ ks
  · exact q_rows_in c r hr
  · have h0 : ks.contains r = false := by
      rw [← Bool.not_eq_true]
      intro q
      exact hr (List.contains_iff_mem.mp q)
    exact (a.1 r h0).trans (b.1 r h0).symm
def q_outJ (ks js : List Nat) (H h1 : q_H) : Prop := (∀ r, ks.contains r = false → q_I h1 r = q_I H r) ∧ (∀ r, js.contains r = false → q_J h1 r = q_J H r) ∧ h1.2.2 = H.2.2
theorem q_outJ_r {ks js : List Nat} {H : q_H} : q_outJ ks js H H := ⟨fun _ _ => rfl, fun _ _ => rfl, rfl⟩
theorem q_outJ_w {ks js : List Nat} {H h1 : q_H} {r : Nat} {f : Nat → Int32} (hr : ks.contains r = true) (a : q_outJ ks js H h1) : q_outJ ks js H (q_wI h1 r f) := by
  refine ⟨fun r' h' => ?_, a.2.1, a.2.2⟩
  have hne : r' ≠ r := fun q => by rw [q, hr] at h'; cases h'
  rw [q_IwI, if_neg hne]
  exact a.1 r' h'
theorem q_outJ_j {ks js : List Nat} {H h1 : q_H} {r : Nat} {f : Nat → Int64} (hr : js.contains r = true) (a : q_outJ ks js H h1) : q_outJ ks js H (q_wJ h1 r f) := by
  refine ⟨a.1, fun r' h' => ?_, a.2.2⟩
  have hne : r' ≠ r := fun q => by rw [q, hr] at h'; cases h'
  rw [q_JwJ, if_neg hne]
  exact a.2.1 r' h'
def q_rowsJ (h1 h2 : q_H) : List Nat → Prop
  | [] => True
  | k :: ks => q_J h1 k = q_J h2 k ∧ q_rowsJ h1 h2 ks
theorem q_rowsJ_in {h1 h2 : q_H} : ∀ {ks : List Nat}, q_rowsJ h1 h2 ks → ∀ r ∈ ks, q_J h1 r = q_J h2 r
  | [], _, _, h => absurd h List.not_mem_nil
  | k :: ks, a, r, h => by
    rcases List.mem_cons.mp h with rfl | h
    · exact a.1
    · exact q_rowsJ_in a.2 r h
theorem q_heqJ (ks js : List Nat) {H h1 h2 : q_H} (a : q_outJ ks js H h1) (b : q_outJ ks js H h2) (c : q_rows h1 h2 ks) (c2 : q_rowsJ h1 h2 js) : h1 = h2 := by
  have h0 : ∀ (ks : List Nat) r, ¬ r ∈ ks → ks.contains r = false := fun ks r hr => by
    rw [← Bool.not_eq_true]
    intro q
    exact hr (List.contains_iff_mem.mp q)
  refine Prod.ext ?_ (Prod.ext ?_ (a.2.2.trans b.2.2.symm))
  · funext r
    by_cases hr : r ∈ ks
    · exact q_rows_in c r hr
    · exact (a.1 r (h0 ks r hr)).trans (b.1 r (h0 ks r hr)).symm
  · funext r
    by_cases hr : r ∈ js
    · exact q_rowsJ_in c2 r hr
    · exact (a.2.1 r (h0 js r hr)).trans (b.2.1 r (h0 js r hr)).symm
/-! fields of an object, one by one -/
def q_fout (ks : List Nat) (f f1 : Nat → Int32) : Prop := ∀ k, ks.contains k = false → f1 k = f k
theorem q_fout_r {ks : List Nat} {f : Nat → Int32} : q_fout ks f f := fun _ _ => rfl
theorem q_fout_w {ks : List Nat} {f f1 : Nat → Int32} {k : Nat} {v : Int32} (hk : ks.contains k = true) (a : q_fout ks f f1) : q_fout ks f (upd f1 k v) := by
  intro j hj
  have hne : j ≠ k := fun q => by rw [q, hk] at hj; cases hj
  rw [pk_un hne]
  exact a j hj
def q_fvs (f1 f2 : Nat → Int32) : List Nat → Prop
  | [] => True
  | k :: ks => f1 k = f2 k ∧ q_fvs f1 f2 ks
theorem q_fvs_in {f1 f2 : Nat → Int32} : ∀ {ks : List Nat}, q_fvs f1 f2 ks → ∀ r ∈ ks, f1 r = f2 r
  | [], _, _, h => absurd h List.not_mem_nil
  | k :: ks, a, r, h => by
    rcases List.mem_cons.mp h with rfl | h
    · exact a.1
    · exact q_fvs_in a.2 r h
theorem q_feq (ks : List Nat) {f f1 f2 : Nat → Int32} (a : q_fout ks f f1) (b : q_fout ks f f2) (c : q_fvs f1 f2 ks) : f1 = f2 := by
  funext r
  by_cases hr : r ∈ ks
  · exact q_fvs_in c r hr
  · have h0 : ks.contains r = false := by
      rw [← Bool.not_eq_true]
      intro q
      exact hr (List.contains_iff_mem.mp q)
    exact (a r h0).trans (b r h0).symm
theorem q_iincm {a b : Nat} {c : Int32} (h : b ≤ a) (hc : c = 0 - nI b) : nI a + c = nI (a - b) := by
  rw [hc, ← pk_sub h, Int32.sub_eq_add_neg, Int32.zero_add, ← Int32.sub_eq_add_neg]
theorem q_decm (x : Int32) : x + Int32.ofInt (-1) = x - nI 1 := by
  rw [Int32.sub_eq_add_neg, show Int32.ofInt (-1) = -(nI 1) by decide +kernel]
section QL
variable {l : Launch} {g : q_GP} {d : Nat} {y : q_MI} {pc : Nat} {L : List (Nat × Value)} {S : List Value} {h : q_H} {Q : Option Value → q_H → Prop}
theorem xe_fin {L' : List (Nat × Value)} {h' : q_H} (K : q_Ex l g d y pc L' S h' Q) (hL : q_sub L L') (e : h = h') : q_Ex l g d y pc L S h Q := by
  subst e
  exact xe_locals hL K
theorem xe_2nd {w : Value} {v v' : Int32} (e : v = v') (K : q_Ex l g d y pc L (w :: .int v' :: S) h Q) : q_Ex l g d y pc L (w :: .int v :: S) h Q := e ▸ K
theorem xe_topJ {v v' : Int64} (e : v = v') (K : q_Ex l g d y pc L (.long v' :: S) h Q) : q_Ex l g d y pc L (.long v :: S) h Q := e ▸ K
/-- a loop that counts to n; its state is what the step makes of it -/
theorem xe_loop {σ : Type} (n : Nat) (F : Nat → σ → σ) (s0 : σ) (Lf : Nat → σ → List (Nat × Value)) (hf : Nat → σ → q_H) (body : ∀ i, i < n → ∀ s, s = q_it F s0 i → q_Ex l g d y pc (Lf (i + 1) (F i s)) S (hf (i + 1) (F i s)) Q → q_Ex l g d y pc (Lf i s) S (hf i s) Q) (ex : q_Ex l g d y pc (Lf n (q_it F s0 n)) S (hf n (q_it F s0 n)) Q) : q_Ex l g d y pc (Lf 0 s0) S (hf 0 s0) Q :=
  xe_for n (fun i => Lf i (q_it F s0 i)) (fun i => hf i (q_it F s0 i)) (fun i hi K => body i hi _ rfl K) ex
/-- a loop that counts to n; of its state an invariant is known -/
theorem xe_loopI {σ : Type} (n : Nat) (I : Nat → σ → Prop) (Lf : Nat → σ → List (Nat × Value)) (hf : Nat → σ → q_H) (s0 : σ) (h0 : I 0 s0) (body : ∀ i, i < n → ∀ s, I i s → (∀ s', I (i + 1) s' → q_Ex l g d y pc (Lf (i + 1) s') S (hf (i + 1) s') Q) → q_Ex l g d y pc (Lf i s) S (hf i s) Q) (ex : ∀ s, I n s → q_Ex l g d y pc (Lf n s) S (hf n s) Q) : q_Ex l g d y pc (Lf 0 s0) S (hf 0 s0) Q := by
  have key : ∀ k, k ≤ n → ∀ s, I (n - k) s → q_Ex l g d y pc (Lf (n - k) s) S (hf (n - k) s) Q := by
    intro k
    induction k with
    | zero => intro _ s hs; exact ex s hs
    | succ k ih =>
      intro hk s hI
      refine body (n - (k + 1)) (by omega) s hI ?_
      rw [show n - (k + 1) + 1 = n - k by omega]
      exact ih (by omega)
  have := key n (Nat.le_refl n)
  rw [Nat.sub_self] at this
  exact this s0 h0
end QL
theorem q_it_co {σ : Type} {F G : Nat → σ → σ} {s : σ} : ∀ {n : Nat}, (∀ i, i < n → ∀ s, F i s = G i s) → q_it F s n = q_it G s n
  | 0, _ => rfl
  | n + 1, h => by
    unfold q_it
    rw [h n (by omega), q_it_co (fun i hi => h i (by omega))]
