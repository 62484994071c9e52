/-! loops that may be left at any round -/
section QLW
variable {l : Launch} {g : q_GP} {d : Nat} {y : q_MI} {pc : Nat} {L : List (Nat × Value)} {S : List Value} {h : q_H} {Q : Option Value → q_H → Prop}
theorem xe_loopW {σ : Type} (N : Nat) (I : Nat → σ → Prop) (Lf : Nat → σ → List (Nat × Value)) (hf : Nat → σ → q_H) (s0 : σ) (h0 : I 0 s0) (body : ∀ i, i ≤ N → ∀ s, I i s → (i < N → ∀ s', I (i + 1) s' → q_Ex l g d y pc (Lf (i + 1) s') S (hf (i + 1) s') Q) → q_Ex l g d y pc (Lf i s) S (hf i s) Q) : q_Ex l g d y pc (Lf 0 s0) S (hf 0 s0) Q := by
  have key : ∀ k i, i + k = N → ∀ s, I i s → q_Ex l g d y pc (Lf i s) S (hf i s) Q := by
    intro k
    induction k with
    | zero => intro i hi s hI; exact body i (by omega) s hI (fun q => absurd q (by omega))
    | succ k ih => intro i hi s hI; exact body i (by omega) s hI (fun _ s' h' => ih (i + 1) (by omega) s' h')
  exact key N 0 (by omega) s0 h0
end QLW
