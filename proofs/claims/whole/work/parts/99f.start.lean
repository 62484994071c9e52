/-! where both sides begin -/
theorem hc_Pp {I : Nat → Nat → Int32} {J : Nat → Nat → Int64} {i j r k : Nat} : q_P (q_hc I J i j) r k = hc_p j r k := rfl
theorem hn0 (s : Nat) : hc_p 168 40 s = none := hc_no_p (i := 40) (j := 168) (by decide +kernel) s
theorem RR_0 : RR 0 (q_hc z_I1 (z_JK 17) 170 168) := by
  have hz : ∀ r, r ≠ 124 → q_I (q_hc z_I1 (z_JK 17) 170 168) r = fun _ => 0 := fun r hr => by
    show (if r = 124 then _ else z_I r) = _
    rw [if_neg hr]
    rfl
  have h124 : ∀ k, k ≠ 17 → q_I (q_hc z_I1 (z_JK 17) 170 168) 124 k = nI 0 := fun k hk => by
    show upd (q_I (q_hc z_I z_J1 132 130) 124) 17 (-1) k = nI 0
    rw [pk_un hk]
    rfl
  have zz : ∀ r k, r ≠ 124 → q_I (q_hc z_I1 (z_JK 17) 170 168) r k = nI 0 := fun r k hr => by
    rw [hz r hr]
    rfl
  have hR : rw_ok 0 0 0 (q_I (q_hc z_I1 (z_JK 17) 170 168) 154) 0 0 (fun _ => 0) (fun _ => 0) (fun _ => 0) (fun _ => 0) (fun _ => 0) (fun _ => 0) :=
    ⟨zz 154 _ (by decide), Nat.zero_le _, zz 154 _ (by decide), Nat.zero_le _, fun k _ _ => zz 154 k (by decide), fun j hj => absurd hj (Nat.not_lt_zero _), fun k _ => zz 154 k (by decide), by decide, fun _ _ _ => rfl, fun k _ => zz 154 _ (by decide)⟩
  refine ⟨⟨hc_Stat, by decide, ?_⟩, ⟨0, by decide, zz 1 1 (by decide), h124 2 (by decide), fun k hk => absurd hk (Nat.not_lt_zero _)⟩, ?_, ⟨fun w hw => tw_85 w hw, fun w hw => z_kw w hw⟩, ⟨zz 111 0 (by decide), zz 112 0 (by decide), zz 122 0 (by decide), zz 123 0 (by decide)⟩, 10, 0, 0, 0, 0, 0, 0, fun _ => none, fun _ => 0, ?_, ?_, ?_, ?_, ?_⟩
  · show hc_s 170 ≤ 81053 + 807 * 0
    decide +kernel
  · unfold RP
    rw [zz 7 7 (by decide), if_pos (show (nI 0 : Int32) = 0 from rfl)]
    exact (pk_us : upd (q_I (q_hc z_I z_J1 132 130) 124) 17 (-1) 17 = -1).symm
  · refine ⟨⟨hc_get (by decide +kernel), Or.inl rfl, zz 10 2 (by decide), by decide, zz 10 3 (by decide), by decide, zz 10 4 (by decide), by decide, zz 10 5 (by decide), by decide, zz 10 6 (by decide), by decide⟩, fun q => absurd q (Nat.lt_irrefl 0), ⟨h124 18 (by decide), by decide, zz 135 0 (by decide), by decide, zz 137 0 (by decide), by decide, zz 139 0 (by decide), by decide, zz 141 0 (by decide), by decide⟩, fun k hk => ⟨zz 142 _ (by decide), zz 143 _ (by decide)⟩, hc_get (by decide +kernel), fun d hd => absurd hd (Nat.not_lt_zero _), fun k hk => absurd hk (Nat.not_lt_zero _), fun k hk => ⟨zz 142 _ (by decide), zz 143 _ (by decide)⟩⟩
  · exact ⟨0, 0, _, _, _, _, _, _, hR, ⟨zz 34 6 (by decide), zz 34 5 (by decide), fun j hj => absurd hj (Nat.not_lt_zero _), fun k _ => (zz 35 k (by decide)).trans (zz 154 k (by decide)).symm, fun k _ => (zz 36 k (by decide)).trans (zz 154 _ (by decide)).symm⟩, fun k _ => (zz 37 k (by decide)).trans (zz 154 _ (by decide)).symm⟩
  · exact ⟨0, 0, by decide, by decide, h124 51 (by decide), zz 42 2 (by decide), zz 42 1 (by decide), fun _ => q_I (q_hc z_I1 (z_JK 17) 170 168) 154, fun _ _ => rfl, fun j hj => absurd hj (Nat.not_lt_zero _)⟩
  · have hn : ∀ s, q_P (q_hc z_I1 (z_JK 17) 170 168) 40 s = none := fun s => hc_Pp.trans (hn0 s)
    exact ⟨fun s _ => ⟨Or.inl (hn s), Or.inl ⟨zz 41 s (by decide), zz 168 s (by decide)⟩⟩, fun s s' b b' _ _ _ hb => by
      rw [hn s] at hb
      cases hb⟩
  · exact ⟨0, by decide, zz 94 3 (by decide), h124 62 (by decide), fun j hj => absurd hj (Nat.not_lt_zero _)⟩
