/-! the class: what its laws tell; what would be -/
/-- the class's state as a row of the reference -/
def q_cr (h : q_H) : Nat → Int32 := fun k => if k < 72 then q_I h 35 k else if k < 136 then q_I h 36 (k - 72) else if k < 200 then q_I h 37 (k - 136) else if k = 200 then q_I h 34 6 else if k = 201 then q_I h 34 5 else 0
theorem q_cr_in (h : q_H) {m : Nat} (hm : m < 9) : q_sum (fun k => q_I h 35 (m * 8 + k)) 8 = q_s8 (q_cr h) (8 * m) := q_sum_co (fun k hk => by
  show _ = q_cr h (8 * m + k)
  unfold q_cr
  rw [if_pos (by omega), Nat.mul_comm])
theorem q_cr_tm (h : q_H) {m : Nat} (hm : m < 8) : q_sum (fun k => q_I h 37 (m * 8 + k)) 8 = q_s8 (q_cr h) (136 + 8 * m) := q_sum_co (fun k hk => by
  show _ = q_cr h (136 + 8 * m + k)
  unfold q_cr
  rw [if_neg (by omega), if_neg (by omega), if_pos (by omega), show 136 + 8 * m + k - 136 = m * 8 + k by omega])
theorem q_cr_t1 (h : q_H) {m d : Nat} (hm : m < 8) (hd : d < 8) : q_I h 37 (m * 8 + d) = q_cr h (136 + 8 * m + d) := by
  unfold q_cr
  rw [if_neg (by omega), if_neg (by omega), if_pos (by omega), show 136 + 8 * m + d - 136 = m * 8 + d by omega]
abbrev q_lawT : Type := List (List (Nat × Int32) × List (Nat × Int32) × List (Nat × Int32)) × List (Nat × Int32)
/-- the law that holds if none is told -/
def q_dfl (k : Nat) : q_lawT := if k < 8 then ([], [(0, nI 10)]) else if k < 16 then ([], [(1, nI 0)]) else if k = 16 then ([], [(0, nI 0)]) else ([], [(1, nI 0), (1, nI 3), (3, nI 0)])
def q_lw (LW : q_LW) (k : Nat) : q_lawT := (LW k).getD (q_dfl k)
def rk_at (h : q_H) (p n r k : Nat) (o : q_lawT) : Prop := ∃ a, q_I h r k = nI a ∧ q_cd (q_I h (p + 1)) (q_I h (p + 2)) n a o.1 o.2
def rk_L (h : q_H) (p n : Nat) (LW : q_LW) : Prop := (∀ k, k < 8 → rk_at h p n (p + 6) k (q_lw LW k)) ∧ (∀ k, k < 8 → rk_at h p n (p + 7) k (q_lw LW (8 + k))) ∧ rk_at h p n (p + 8) 0 (q_lw LW 16) ∧ rk_at h p n (p + 9) 0 (q_lw LW 17)
def rk_P (h : q_H) (p nm nd nc mo n : Nat) : Prop := q_P h 0 2 = some p ∧ (p = 10 ∨ p = 22) ∧ q_I h p 2 = nI n ∧ n ≤ 416 ∧ q_I h p 3 = nI nm ∧ nm ≤ 8 ∧ q_I h p 4 = nI nd ∧ nd ≤ 8 ∧ q_I h p 5 = nI nc ∧ nc ≤ 12 ∧ q_I h p 6 = nI mo ∧ mo ≤ 99
theorem q_cd_co {S W V V' : Nat → Int32} {n : Nat} (hV : ∀ i, i < 6 → V i = V' i) (e : List (Nat × Int32)) : ∀ (r : List (List (Nat × Int32) × List (Nat × Int32) × List (Nat × Int32))) (a : Nat), q_cd S W n a r e → q_law V r e = q_law V' r e
  | [], a, h => q_val_co hV h.2.1
  | (x, y, z) :: r, a, h => by
    obtain ⟨c1, c2, c3, c4, c5, c6, c7, c8, c9, c10, c11⟩ := h
    unfold q_law
    rw [q_val_co hV c2, q_val_co hV c4, q_val_co hV c8, q_cd_co hV e r _ c11]
/-- the plain answer of a law that is not told, out of what is seen -/
def q_pln (k : Nat) (V : Nat → Int32) : Int32 := if k < 8 then nI 10 else if k < 16 then V 0 else if k = 16 then nI 0 else V 0 - V 3
theorem q_lw_tel (LW : q_LW) (k : Nat) (V : Nat → Int32) : (q_law V (q_lw LW k).1 (q_lw LW k).2).getD (nI 0) = q_tel V (LW k) (q_pln k V) := by
  unfold q_lw q_tel
  cases LW k with
  | some o => rfl
  | none =>
    show (q_law V (q_dfl k).1 (q_dfl k).2).getD (nI 0) = q_pln k V
    unfold q_dfl q_pln
    split
    · rfl
    · split
      · show (V (nI 0).toNatClampNeg : Int32) = V 0
        rw [nI_clamp (by decide)]
      · split
        · rfl
        · show (V (nI 0).toNatClampNeg - V (nI 3).toNatClampNeg : Int32) = V 0 - V 3
          rw [nI_clamp (by decide), nI_clamp (by decide)]
theorem q_within (v : Int32) : (if nI 0 < (if v < nI 999 then v else nI 999) then (if v < nI 999 then v else nI 999) else nI 0) = q_held v := by
  unfold q_held
  by_cases h1 : v < nI 999
  · rw [if_pos h1]
    by_cases h2 : nI 0 < v
    · rw [if_pos h2, if_pos (show (0 : Int32) ≤ v from Int32.le_of_lt h2), if_pos (Int32.le_of_lt h1)]
    · rw [if_neg h2]
      by_cases h3 : 0 ≤ v
      · rw [if_pos h3, if_pos (Int32.le_of_lt h1)]
        exact Int32.le_antisymm h3 (Int32.not_lt.mp h2)
      · rw [if_neg h3]
  · rw [if_neg h1, if_pos (by decide)]
    have h2 := Int32.not_lt.mp h1
    rw [if_pos (Int32.le_trans (show (0 : Int32) ≤ nI 999 by decide) h2)]
    by_cases h4 : v ≤ nI 999
    · rw [if_pos h4]
      exact Int32.le_antisymm h2 h4
    · rw [if_neg h4]
theorem q_see_law {S W V : Nat → Int32} {n ad lv nc w m : Nat} (LW : q_LW) (k : Nat) (f R C : Nat → Int32) (a b : Int32) (hc : q_cd S W n ad (q_lw LW k).1 (q_lw LW k).2) (hV : V = q_v6 f a b (nI w) (q_wind C (12 * lv) nc w) (q_s8 R 64) (nI m)) : (q_law V (q_lw LW k).1 (q_lw LW k).2).getD (nI 0) = q_tel (q_see R C lv nc w m a b) (LW k) (q_pln k (q_see R C lv nc w m a b)) := by
  subst hV
  rw [← q_lw_tel]
  rw [q_cd_co (q_v6_co _ _ _ _ _ _ _ _) _ _ _ hc]
  rfl
theorem c_X9_withinLaw (l : Launch) (g : q_GP) (h : q_H) (v : Int32) : q_Cd l g 1 mX9_withinLaw [.int v] h (some (.int (q_held v))) h := by
  refine q_CdS msX9_withinLaw (Nat.le_of_ble_eq_true rfl) ?_
  refine xe_iconst dX9_withinLaw_0 kc_0 ?_
  refine xe_sipush dX9_withinLaw_1 ks_999 ?_
  refine xe_iload_n dX9_withinLaw_4 rfl ?_
  refine xe_min dX9_withinLaw_5 mlX9_197 q_mmin (by decide) (Nat.le_of_ble_eq_true rfl) ?_
  refine xe_max dX9_withinLaw_8 mlX9_202 q_mmax (by decide) (Nat.le_of_ble_eq_true rfl) ?_
  refine xe_ireturn dX9_withinLaw_11 rfl (by first | rfl | decide +kernel) ?_
  exact ⟨congrArg (fun v => some (Value.int v)) (q_within v), rfl⟩
theorem c_X9_isMan_t (l : Launch) (g : q_GP) (h : q_H) (hs : q_Stat h) {p nm nd nc mo n : Nat} (hp : rk_P h p nm nd nc mo n) {k : Nat} (hk : k < nm) : q_Cd l g 0 mX9_isMan [.ref 0, .int (nI k)] h (some (.int (nI 1))) h := by
  obtain ⟨P0, P1, P2, P2b, P3, P3b, P4, P4b, P5, P5b, P6, P6b⟩ := id hp
  rcases P1 with rfl | rfl
  · refine q_CdV mvX9_isMan (Nat.le_of_ble_eq_true rfl) ?_
    refine xe_iload_n dX9_isMan_0 rfl ?_
    refine xn_if_lt (tgt := 19) dX9_isMan_1 rfl (by omega) ?_
    refine xe_iload_n dX9_isMan_4 rfl ?_
    refine xe_aload_n dX9_isMan_5 rfl ?_
    refine xe_getP dX9_isMan_6 flX9_26 (st0 hs) (by decide) rfl P0 ?_
    refine xe_getIv dX9_isMan_9 flX9_117 (st10 hs) (by decide) rfl (v := nI nm) (P3) ?_
    refine xn_icmp_ge (tgt := 19) dX9_isMan_12 rfl (by omega) (by omega) (fun c2 => ?_) (fun c2 => ?_)
    · omega
    · refine xe_iconst dX9_isMan_15 kc_1 ?_
      refine xe_goto (tgt := 20) dX9_isMan_16 rfl ?_
      refine xe_ireturn dX9_isMan_20 rfl (by first | rfl | decide +kernel) ?_
      exact ⟨rfl, rfl⟩
  · refine q_CdV mvX9_isMan (Nat.le_of_ble_eq_true rfl) ?_
    refine xe_iload_n dX9_isMan_0 rfl ?_
    refine xn_if_lt (tgt := 19) dX9_isMan_1 rfl (by omega) ?_
    refine xe_iload_n dX9_isMan_4 rfl ?_
    refine xe_aload_n dX9_isMan_5 rfl ?_
    refine xe_getP dX9_isMan_6 flX9_26 (st0 hs) (by decide) rfl P0 ?_
    refine xe_getIv dX9_isMan_9 flX9_117 (st22 hs) (by decide) rfl (v := nI nm) (P3) ?_
    refine xn_icmp_ge (tgt := 19) dX9_isMan_12 rfl (by omega) (by omega) (fun c2 => ?_) (fun c2 => ?_)
    · omega
    · refine xe_iconst dX9_isMan_15 kc_1 ?_
      refine xe_goto (tgt := 20) dX9_isMan_16 rfl ?_
      refine xe_ireturn dX9_isMan_20 rfl (by first | rfl | decide +kernel) ?_
      exact ⟨rfl, rfl⟩
theorem c_X9_isMan_f (l : Launch) (g : q_GP) (h : q_H) (hs : q_Stat h) {p nm nd nc mo n : Nat} (hp : rk_P h p nm nd nc mo n) {x : Int32} (hx : ¬ q_isN x nm) : q_Cd l g 0 mX9_isMan [.ref 0, .int x] h (some (.int (nI 0))) h := by
  obtain ⟨P0, P1, P2, P2b, P3, P3b, P4, P4b, P5, P5b, P6, P6b⟩ := id hp
  rcases P1 with rfl | rfl
  · refine q_CdV mvX9_isMan (Nat.le_of_ble_eq_true rfl) ?_
    refine xe_iload_n dX9_isMan_0 rfl ?_
    refine xe_if_lt (tgt := 19) dX9_isMan_1 rfl (fun c1 => ?_) (fun c1 => ?_)
    · refine xe_iconst dX9_isMan_19 kc_0 ?_
      refine xe_ireturn dX9_isMan_20 rfl (by first | rfl | decide +kernel) ?_
      exact ⟨rfl, rfl⟩
    · have c_a := Int32.not_lt.mp c1
      refine xe_iload_n dX9_isMan_4 rfl ?_
      refine xe_aload_n dX9_isMan_5 rfl ?_
      refine xe_getP dX9_isMan_6 flX9_26 (st0 hs) (by decide) rfl P0 ?_
      refine xe_getIv dX9_isMan_9 flX9_117 (st10 hs) (by decide) rfl (v := nI nm) (P3) ?_
      refine xe_icmp_ge (tgt := 19) dX9_isMan_12 rfl (fun c2 => ?_) (fun c2 => ?_)
      · refine xe_iconst dX9_isMan_19 kc_0 ?_
        refine xe_ireturn dX9_isMan_20 rfl (by first | rfl | decide +kernel) ?_
        exact ⟨rfl, rfl⟩
      · exact absurd ⟨c_a, Int32.not_le.mp c2⟩ hx
  · refine q_CdV mvX9_isMan (Nat.le_of_ble_eq_true rfl) ?_
    refine xe_iload_n dX9_isMan_0 rfl ?_
    refine xe_if_lt (tgt := 19) dX9_isMan_1 rfl (fun c1 => ?_) (fun c1 => ?_)
    · refine xe_iconst dX9_isMan_19 kc_0 ?_
      refine xe_ireturn dX9_isMan_20 rfl (by first | rfl | decide +kernel) ?_
      exact ⟨rfl, rfl⟩
    · have c_a := Int32.not_lt.mp c1
      refine xe_iload_n dX9_isMan_4 rfl ?_
      refine xe_aload_n dX9_isMan_5 rfl ?_
      refine xe_getP dX9_isMan_6 flX9_26 (st0 hs) (by decide) rfl P0 ?_
      refine xe_getIv dX9_isMan_9 flX9_117 (st22 hs) (by decide) rfl (v := nI nm) (P3) ?_
      refine xe_icmp_ge (tgt := 19) dX9_isMan_12 rfl (fun c2 => ?_) (fun c2 => ?_)
      · refine xe_iconst dX9_isMan_19 kc_0 ?_
        refine xe_ireturn dX9_isMan_20 rfl (by first | rfl | decide +kernel) ?_
        exact ⟨rfl, rfl⟩
      · exact absurd ⟨c_a, Int32.not_le.mp c2⟩ hx
theorem c_X9_isDeed_t (l : Launch) (g : q_GP) (h : q_H) (hs : q_Stat h) {p nm nd nc mo n : Nat} (hp : rk_P h p nm nd nc mo n) {k : Nat} (hk : k < nd) : q_Cd l g 0 mX9_isDeed [.ref 0, .int (nI k)] h (some (.int (nI 1))) h := by
  obtain ⟨P0, P1, P2, P2b, P3, P3b, P4, P4b, P5, P5b, P6, P6b⟩ := id hp
  rcases P1 with rfl | rfl
  · refine q_CdV mvX9_isDeed (Nat.le_of_ble_eq_true rfl) ?_
    refine xe_iload_n dX9_isDeed_0 rfl ?_
    refine xn_if_lt (tgt := 19) dX9_isDeed_1 rfl (by omega) ?_
    refine xe_iload_n dX9_isDeed_4 rfl ?_
    refine xe_aload_n dX9_isDeed_5 rfl ?_
    refine xe_getP dX9_isDeed_6 flX9_26 (st0 hs) (by decide) rfl P0 ?_
    refine xe_getIv dX9_isDeed_9 flX9_131 (st10 hs) (by decide) rfl (v := nI nd) (P4) ?_
    refine xn_icmp_ge (tgt := 19) dX9_isDeed_12 rfl (by omega) (by omega) (fun c2 => ?_) (fun c2 => ?_)
    · omega
    · refine xe_iconst dX9_isDeed_15 kc_1 ?_
      refine xe_goto (tgt := 20) dX9_isDeed_16 rfl ?_
      refine xe_ireturn dX9_isDeed_20 rfl (by first | rfl | decide +kernel) ?_
      exact ⟨rfl, rfl⟩
  · refine q_CdV mvX9_isDeed (Nat.le_of_ble_eq_true rfl) ?_
    refine xe_iload_n dX9_isDeed_0 rfl ?_
    refine xn_if_lt (tgt := 19) dX9_isDeed_1 rfl (by omega) ?_
    refine xe_iload_n dX9_isDeed_4 rfl ?_
    refine xe_aload_n dX9_isDeed_5 rfl ?_
    refine xe_getP dX9_isDeed_6 flX9_26 (st0 hs) (by decide) rfl P0 ?_
    refine xe_getIv dX9_isDeed_9 flX9_131 (st22 hs) (by decide) rfl (v := nI nd) (P4) ?_
    refine xn_icmp_ge (tgt := 19) dX9_isDeed_12 rfl (by omega) (by omega) (fun c2 => ?_) (fun c2 => ?_)
    · omega
    · refine xe_iconst dX9_isDeed_15 kc_1 ?_
      refine xe_goto (tgt := 20) dX9_isDeed_16 rfl ?_
      refine xe_ireturn dX9_isDeed_20 rfl (by first | rfl | decide +kernel) ?_
      exact ⟨rfl, rfl⟩
theorem c_X9_isDeed_f (l : Launch) (g : q_GP) (h : q_H) (hs : q_Stat h) {p nm nd nc mo n : Nat} (hp : rk_P h p nm nd nc mo n) {x : Int32} (hx : ¬ q_isN x nd) : q_Cd l g 0 mX9_isDeed [.ref 0, .int x] h (some (.int (nI 0))) h := by
  obtain ⟨P0, P1, P2, P2b, P3, P3b, P4, P4b, P5, P5b, P6, P6b⟩ := id hp
  rcases P1 with rfl | rfl
  · refine q_CdV mvX9_isDeed (Nat.le_of_ble_eq_true rfl) ?_
    refine xe_iload_n dX9_isDeed_0 rfl ?_
    refine xe_if_lt (tgt := 19) dX9_isDeed_1 rfl (fun c1 => ?_) (fun c1 => ?_)
    · refine xe_iconst dX9_isDeed_19 kc_0 ?_
      refine xe_ireturn dX9_isDeed_20 rfl (by first | rfl | decide +kernel) ?_
      exact ⟨rfl, rfl⟩
    · have c_a := Int32.not_lt.mp c1
      refine xe_iload_n dX9_isDeed_4 rfl ?_
      refine xe_aload_n dX9_isDeed_5 rfl ?_
      refine xe_getP dX9_isDeed_6 flX9_26 (st0 hs) (by decide) rfl P0 ?_
      refine xe_getIv dX9_isDeed_9 flX9_131 (st10 hs) (by decide) rfl (v := nI nd) (P4) ?_
      refine xe_icmp_ge (tgt := 19) dX9_isDeed_12 rfl (fun c2 => ?_) (fun c2 => ?_)
      · refine xe_iconst dX9_isDeed_19 kc_0 ?_
        refine xe_ireturn dX9_isDeed_20 rfl (by first | rfl | decide +kernel) ?_
        exact ⟨rfl, rfl⟩
      · exact absurd ⟨c_a, Int32.not_le.mp c2⟩ hx
  · refine q_CdV mvX9_isDeed (Nat.le_of_ble_eq_true rfl) ?_
    refine xe_iload_n dX9_isDeed_0 rfl ?_
    refine xe_if_lt (tgt := 19) dX9_isDeed_1 rfl (fun c1 => ?_) (fun c1 => ?_)
    · refine xe_iconst dX9_isDeed_19 kc_0 ?_
      refine xe_ireturn dX9_isDeed_20 rfl (by first | rfl | decide +kernel) ?_
      exact ⟨rfl, rfl⟩
    · have c_a := Int32.not_lt.mp c1
      refine xe_iload_n dX9_isDeed_4 rfl ?_
      refine xe_aload_n dX9_isDeed_5 rfl ?_
      refine xe_getP dX9_isDeed_6 flX9_26 (st0 hs) (by decide) rfl P0 ?_
      refine xe_getIv dX9_isDeed_9 flX9_131 (st22 hs) (by decide) rfl (v := nI nd) (P4) ?_
      refine xe_icmp_ge (tgt := 19) dX9_isDeed_12 rfl (fun c2 => ?_) (fun c2 => ?_)
      · refine xe_iconst dX9_isDeed_19 kc_0 ?_
        refine xe_ireturn dX9_isDeed_20 rfl (by first | rfl | decide +kernel) ?_
        exact ⟨rfl, rfl⟩
      · exact absurd ⟨c_a, Int32.not_le.mp c2⟩ hx
theorem c_X9_areTwoMen_t (l : Launch) (g : q_GP) (h : q_H) (hs : q_Stat h) {p nm nd nc mo n : Nat} (hp : rk_P h p nm nd nc mo n) {a b : Nat} (ha : a < nm) (hb : b < nm) (hab : ¬ a = b) : q_Cd l g 1 mX9_areTwoMen [.ref 0, .int (nI a), .int (nI b)] h (some (.int (nI 1))) h := by
  obtain ⟨P0, P1, P2, P2b, P3, P3b, P4, P4b, P5, P5b, P6, P6b⟩ := id hp
  rcases P1 with rfl | rfl
  · refine q_CdV mvX9_areTwoMen (Nat.le_of_ble_eq_true rfl) ?_
    refine xe_aload_n dX9_areTwoMen_0 rfl ?_
    refine xe_iload_n dX9_areTwoMen_1 rfl ?_
    refine xe_callVI (d' := 0) (y' := mX9_isMan) dX9_areTwoMen_2 mlX9_134 mvX9_isMan rfl (st0 hs) (by decide) rfl (by decide) (by decide) (Nat.le_of_ble_eq_true rfl) (c_X9_isMan_t l g _ (by exact hs) (by exact hp) (by omega)) rfl ?_
    refine xn_if_eq (tgt := 25) dX9_areTwoMen_5 rfl (by omega) (fun c1 => ?_) (fun c1 => ?_)
    · omega
    · refine xe_aload_n dX9_areTwoMen_8 rfl ?_
      refine xe_iload_n dX9_areTwoMen_9 rfl ?_
      refine xe_callVI (d' := 0) (y' := mX9_isMan) dX9_areTwoMen_10 mlX9_134 mvX9_isMan rfl (st0 hs) (by decide) rfl (by decide) (by decide) (Nat.le_of_ble_eq_true rfl) (c_X9_isMan_t l g _ (by exact hs) (by exact hp) (by omega)) rfl ?_
      refine xn_if_eq (tgt := 25) dX9_areTwoMen_13 rfl (by omega) (fun c2 => ?_) (fun c2 => ?_)
      · omega
      · refine xe_iload_n dX9_areTwoMen_16 rfl ?_
        refine xe_iload_n dX9_areTwoMen_17 rfl ?_
        refine xn_icmp_eq (tgt := 25) dX9_areTwoMen_18 rfl (by omega) (by omega) (fun c3 => ?_) (fun c3 => ?_)
        · omega
        · refine xe_iconst dX9_areTwoMen_21 kc_1 ?_
          refine xe_goto (tgt := 26) dX9_areTwoMen_22 rfl ?_
          refine xe_ireturn dX9_areTwoMen_26 rfl (by first | rfl | decide +kernel) ?_
          exact ⟨rfl, rfl⟩
  · refine q_CdV mvX9_areTwoMen (Nat.le_of_ble_eq_true rfl) ?_
    refine xe_aload_n dX9_areTwoMen_0 rfl ?_
    refine xe_iload_n dX9_areTwoMen_1 rfl ?_
    refine xe_callVI (d' := 0) (y' := mX9_isMan) dX9_areTwoMen_2 mlX9_134 mvX9_isMan rfl (st0 hs) (by decide) rfl (by decide) (by decide) (Nat.le_of_ble_eq_true rfl) (c_X9_isMan_t l g _ (by exact hs) (by exact hp) (by omega)) rfl ?_
    refine xn_if_eq (tgt := 25) dX9_areTwoMen_5 rfl (by omega) (fun c1 => ?_) (fun c1 => ?_)
    · omega
    · refine xe_aload_n dX9_areTwoMen_8 rfl ?_
      refine xe_iload_n dX9_areTwoMen_9 rfl ?_
      refine xe_callVI (d' := 0) (y' := mX9_isMan) dX9_areTwoMen_10 mlX9_134 mvX9_isMan rfl (st0 hs) (by decide) rfl (by decide) (by decide) (Nat.le_of_ble_eq_true rfl) (c_X9_isMan_t l g _ (by exact hs) (by exact hp) (by omega)) rfl ?_
      refine xn_if_eq (tgt := 25) dX9_areTwoMen_13 rfl (by omega) (fun c2 => ?_) (fun c2 => ?_)
      · omega
      · refine xe_iload_n dX9_areTwoMen_16 rfl ?_
        refine xe_iload_n dX9_areTwoMen_17 rfl ?_
        refine xn_icmp_eq (tgt := 25) dX9_areTwoMen_18 rfl (by omega) (by omega) (fun c3 => ?_) (fun c3 => ?_)
        · omega
        · refine xe_iconst dX9_areTwoMen_21 kc_1 ?_
          refine xe_goto (tgt := 26) dX9_areTwoMen_22 rfl ?_
          refine xe_ireturn dX9_areTwoMen_26 rfl (by first | rfl | decide +kernel) ?_
          exact ⟨rfl, rfl⟩
theorem c_X9_areTwoMen_f (l : Launch) (g : q_GP) (h : q_H) (hs : q_Stat h) {p nm nd nc mo n : Nat} (hp : rk_P h p nm nd nc mo n) (x z : Int32) (hxz : ¬ q_two x z nm) : q_Cd l g 1 mX9_areTwoMen [.ref 0, .int x, .int z] h (some (.int (nI 0))) h := by
  obtain ⟨P0, P1, P2, P2b, P3, P3b, P4, P4b, P5, P5b, P6, P6b⟩ := id hp
  rcases P1 with rfl | rfl
  · by_cases h1 : q_isN x nm
    · obtain ⟨a, ha, rfl⟩ := q_isN_of (by omega) h1
      by_cases h2 : q_isN z nm
      · obtain ⟨b, hb, rfl⟩ := q_isN_of (by omega) h2
        have h3 : nI a = nI b := Classical.not_not.mp (fun q => hxz ⟨h1, h2, q⟩)
        refine q_CdV mvX9_areTwoMen (Nat.le_of_ble_eq_true rfl) ?_
        refine xe_aload_n dX9_areTwoMen_0 rfl ?_
        refine xe_iload_n dX9_areTwoMen_1 rfl ?_
        refine xe_callVI (d' := 0) (y' := mX9_isMan) dX9_areTwoMen_2 mlX9_134 mvX9_isMan rfl (st0 hs) (by decide) rfl (by decide) (by decide) (Nat.le_of_ble_eq_true rfl) (c_X9_isMan_t l g _ (by exact hs) (by exact hp) (by omega)) rfl ?_
        refine xn_if_eq (tgt := 25) dX9_areTwoMen_5 rfl (by omega) (fun c1 => ?_) (fun c1 => ?_)
        · omega
        · refine xe_aload_n dX9_areTwoMen_8 rfl ?_
          refine xe_iload_n dX9_areTwoMen_9 rfl ?_
          refine xe_callVI (d' := 0) (y' := mX9_isMan) dX9_areTwoMen_10 mlX9_134 mvX9_isMan rfl (st0 hs) (by decide) rfl (by decide) (by decide) (Nat.le_of_ble_eq_true rfl) (c_X9_isMan_t l g _ (by exact hs) (by exact hp) (by omega)) rfl ?_
          refine xn_if_eq (tgt := 25) dX9_areTwoMen_13 rfl (by omega) (fun c2 => ?_) (fun c2 => ?_)
          · omega
          · refine xe_iload_n dX9_areTwoMen_16 rfl ?_
            refine xe_iload_n dX9_areTwoMen_17 rfl ?_
            refine xe_icmp_eq (tgt := 25) dX9_areTwoMen_18 rfl (fun c3 => ?_) (fun c3 => ?_)
            · refine xe_iconst dX9_areTwoMen_25 kc_0 ?_
              refine xe_ireturn dX9_areTwoMen_26 rfl (by first | rfl | decide +kernel) ?_
              exact ⟨rfl, rfl⟩
            · exact absurd h3 c3
      · refine q_CdV mvX9_areTwoMen (Nat.le_of_ble_eq_true rfl) ?_
        refine xe_aload_n dX9_areTwoMen_0 rfl ?_
        refine xe_iload_n dX9_areTwoMen_1 rfl ?_
        refine xe_callVI (d' := 0) (y' := mX9_isMan) dX9_areTwoMen_2 mlX9_134 mvX9_isMan rfl (st0 hs) (by decide) rfl (by decide) (by decide) (Nat.le_of_ble_eq_true rfl) (c_X9_isMan_t l g _ (by exact hs) (by exact hp) (by omega)) rfl ?_
        refine xn_if_eq (tgt := 25) dX9_areTwoMen_5 rfl (by omega) (fun c1 => ?_) (fun c1 => ?_)
        · omega
        · refine xe_aload_n dX9_areTwoMen_8 rfl ?_
          refine xe_iload_n dX9_areTwoMen_9 rfl ?_
          refine xe_callVI (d' := 0) (y' := mX9_isMan) dX9_areTwoMen_10 mlX9_134 mvX9_isMan rfl (st0 hs) (by decide) rfl (by decide) (by decide) (Nat.le_of_ble_eq_true rfl) (c_X9_isMan_f l g _ (by exact hs) (by exact hp) (h2)) rfl ?_
          refine xn_if_eq (tgt := 25) dX9_areTwoMen_13 rfl (by omega) (fun c2 => ?_) (fun c2 => ?_)
          · refine xe_iconst dX9_areTwoMen_25 kc_0 ?_
            refine xe_ireturn dX9_areTwoMen_26 rfl (by first | rfl | decide +kernel) ?_
            exact ⟨rfl, rfl⟩
          · omega
    · refine q_CdV mvX9_areTwoMen (Nat.le_of_ble_eq_true rfl) ?_
      refine xe_aload_n dX9_areTwoMen_0 rfl ?_
      refine xe_iload_n dX9_areTwoMen_1 rfl ?_
      refine xe_callVI (d' := 0) (y' := mX9_isMan) dX9_areTwoMen_2 mlX9_134 mvX9_isMan rfl (st0 hs) (by decide) rfl (by decide) (by decide) (Nat.le_of_ble_eq_true rfl) (c_X9_isMan_f l g _ (by exact hs) (by exact hp) (h1)) rfl ?_
      refine xn_if_eq (tgt := 25) dX9_areTwoMen_5 rfl (by omega) (fun c1 => ?_) (fun c1 => ?_)
      · refine xe_iconst dX9_areTwoMen_25 kc_0 ?_
        refine xe_ireturn dX9_areTwoMen_26 rfl (by first | rfl | decide +kernel) ?_
        exact ⟨rfl, rfl⟩
      · omega
  · by_cases h1 : q_isN x nm
    · obtain ⟨a, ha, rfl⟩ := q_isN_of (by omega) h1
      by_cases h2 : q_isN z nm
      · obtain ⟨b, hb, rfl⟩ := q_isN_of (by omega) h2
        have h3 : nI a = nI b := Classical.not_not.mp (fun q => hxz ⟨h1, h2, q⟩)
        refine q_CdV mvX9_areTwoMen (Nat.le_of_ble_eq_true rfl) ?_
        refine xe_aload_n dX9_areTwoMen_0 rfl ?_
        refine xe_iload_n dX9_areTwoMen_1 rfl ?_
        refine xe_callVI (d' := 0) (y' := mX9_isMan) dX9_areTwoMen_2 mlX9_134 mvX9_isMan rfl (st0 hs) (by decide) rfl (by decide) (by decide) (Nat.le_of_ble_eq_true rfl) (c_X9_isMan_t l g _ (by exact hs) (by exact hp) (by omega)) rfl ?_
        refine xn_if_eq (tgt := 25) dX9_areTwoMen_5 rfl (by omega) (fun c1 => ?_) (fun c1 => ?_)
        · omega
        · refine xe_aload_n dX9_areTwoMen_8 rfl ?_
          refine xe_iload_n dX9_areTwoMen_9 rfl ?_
          refine xe_callVI (d' := 0) (y' := mX9_isMan) dX9_areTwoMen_10 mlX9_134 mvX9_isMan rfl (st0 hs) (by decide) rfl (by decide) (by decide) (Nat.le_of_ble_eq_true rfl) (c_X9_isMan_t l g _ (by exact hs) (by exact hp) (by omega)) rfl ?_
          refine xn_if_eq (tgt := 25) dX9_areTwoMen_13 rfl (by omega) (fun c2 => ?_) (fun c2 => ?_)
          · omega
          · refine xe_iload_n dX9_areTwoMen_16 rfl ?_
            refine xe_iload_n dX9_areTwoMen_17 rfl ?_
            refine xe_icmp_eq (tgt := 25) dX9_areTwoMen_18 rfl (fun c3 => ?_) (fun c3 => ?_)
            · refine xe_iconst dX9_areTwoMen_25 kc_0 ?_
              refine xe_ireturn dX9_areTwoMen_26 rfl (by first | rfl | decide +kernel) ?_
              exact ⟨rfl, rfl⟩
            · exact absurd h3 c3
      · refine q_CdV mvX9_areTwoMen (Nat.le_of_ble_eq_true rfl) ?_
        refine xe_aload_n dX9_areTwoMen_0 rfl ?_
        refine xe_iload_n dX9_areTwoMen_1 rfl ?_
        refine xe_callVI (d' := 0) (y' := mX9_isMan) dX9_areTwoMen_2 mlX9_134 mvX9_isMan rfl (st0 hs) (by decide) rfl (by decide) (by decide) (Nat.le_of_ble_eq_true rfl) (c_X9_isMan_t l g _ (by exact hs) (by exact hp) (by omega)) rfl ?_
        refine xn_if_eq (tgt := 25) dX9_areTwoMen_5 rfl (by omega) (fun c1 => ?_) (fun c1 => ?_)
        · omega
        · refine xe_aload_n dX9_areTwoMen_8 rfl ?_
          refine xe_iload_n dX9_areTwoMen_9 rfl ?_
          refine xe_callVI (d' := 0) (y' := mX9_isMan) dX9_areTwoMen_10 mlX9_134 mvX9_isMan rfl (st0 hs) (by decide) rfl (by decide) (by decide) (Nat.le_of_ble_eq_true rfl) (c_X9_isMan_f l g _ (by exact hs) (by exact hp) (h2)) rfl ?_
          refine xn_if_eq (tgt := 25) dX9_areTwoMen_13 rfl (by omega) (fun c2 => ?_) (fun c2 => ?_)
          · refine xe_iconst dX9_areTwoMen_25 kc_0 ?_
            refine xe_ireturn dX9_areTwoMen_26 rfl (by first | rfl | decide +kernel) ?_
            exact ⟨rfl, rfl⟩
          · omega
    · refine q_CdV mvX9_areTwoMen (Nat.le_of_ble_eq_true rfl) ?_
      refine xe_aload_n dX9_areTwoMen_0 rfl ?_
      refine xe_iload_n dX9_areTwoMen_1 rfl ?_
      refine xe_callVI (d' := 0) (y' := mX9_isMan) dX9_areTwoMen_2 mlX9_134 mvX9_isMan rfl (st0 hs) (by decide) rfl (by decide) (by decide) (Nat.le_of_ble_eq_true rfl) (c_X9_isMan_f l g _ (by exact hs) (by exact hp) (h1)) rfl ?_
      refine xn_if_eq (tgt := 25) dX9_areTwoMen_5 rfl (by omega) (fun c1 => ?_) (fun c1 => ?_)
      · refine xe_iconst dX9_areTwoMen_25 kc_0 ?_
        refine xe_ireturn dX9_areTwoMen_26 rfl (by first | rfl | decide +kernel) ?_
        exact ⟨rfl, rfl⟩
      · omega
theorem c_X9_isEntry_t (l : Launch) (g : q_GP) (h : q_H) (hs : q_Stat h) {E : Nat} (hE1 : q_I h 34 5 = nI E) (hE2 : E ≤ 300) {k : Nat} (hk : k < E) : q_Cd l g 0 mX9_isEntry [.ref 0, .int (nI k)] h (some (.int (nI 1))) h := by
  refine q_CdV mvX9_isEntry (Nat.le_of_ble_eq_true rfl) ?_
  refine xe_iload_n dX9_isEntry_0 rfl ?_
  refine xn_if_lt (tgt := 19) dX9_isEntry_1 rfl (by omega) ?_
  refine xe_iload_n dX9_isEntry_4 rfl ?_
  refine xe_aload_n dX9_isEntry_5 rfl ?_
  refine xe_getP dX9_isEntry_6 flX9_36 (st0 hs) (by decide) rfl (sp0_4 hs) ?_
  refine xe_getIv dX9_isEntry_9 flX9_137 (st34 hs) (by decide) rfl (v := nI E) (hE1) ?_
  refine xn_icmp_ge (tgt := 19) dX9_isEntry_12 rfl (by omega) (by omega) (fun c2 => ?_) (fun c2 => ?_)
  · omega
  · refine xe_iconst dX9_isEntry_15 kc_1 ?_
    refine xe_goto (tgt := 20) dX9_isEntry_16 rfl ?_
    refine xe_ireturn dX9_isEntry_20 rfl (by first | rfl | decide +kernel) ?_
    exact ⟨rfl, rfl⟩
theorem c_X9_isEntry_f (l : Launch) (g : q_GP) (h : q_H) (hs : q_Stat h) {E : Nat} (hE1 : q_I h 34 5 = nI E) (hE2 : E ≤ 300) {x : Int32} (hx : ¬ q_isN x E) : q_Cd l g 0 mX9_isEntry [.ref 0, .int x] h (some (.int (nI 0))) h := by
  refine q_CdV mvX9_isEntry (Nat.le_of_ble_eq_true rfl) ?_
  refine xe_iload_n dX9_isEntry_0 rfl ?_
  refine xe_if_lt (tgt := 19) dX9_isEntry_1 rfl (fun c1 => ?_) (fun c1 => ?_)
  · refine xe_iconst dX9_isEntry_19 kc_0 ?_
    refine xe_ireturn dX9_isEntry_20 rfl (by first | rfl | decide +kernel) ?_
    exact ⟨rfl, rfl⟩
  · have c_a := Int32.not_lt.mp c1
    refine xe_iload_n dX9_isEntry_4 rfl ?_
    refine xe_aload_n dX9_isEntry_5 rfl ?_
    refine xe_getP dX9_isEntry_6 flX9_36 (st0 hs) (by decide) rfl (sp0_4 hs) ?_
    refine xe_getIv dX9_isEntry_9 flX9_137 (st34 hs) (by decide) rfl (v := nI E) (hE1) ?_
    refine xe_icmp_ge (tgt := 19) dX9_isEntry_12 rfl (fun c2 => ?_) (fun c2 => ?_)
    · refine xe_iconst dX9_isEntry_19 kc_0 ?_
      refine xe_ireturn dX9_isEntry_20 rfl (by first | rfl | decide +kernel) ?_
      exact ⟨rfl, rfl⟩
    · exact absurd ⟨c_a, Int32.not_le.mp c2⟩ hx
theorem c_X9_fineNow (l : Launch) (g : q_GP) (h : q_H) (hs : q_Stat h) {p nm nd nc mo n : Nat} (hp : rk_P h p nm nd nc mo n) {LW : q_LW} (hL : rk_L h p n LW) {w : Nat} (hw : q_I h 34 6 = nI w) (hw2 : w < 2 ^ 20) {m d : Nat} (hm : m < 8) (hd : d < 8) : q_Ct l g 2 mX9_fineNow [.ref 0, .int (nI m), .int (nI d)] h (fun r h1 => r = some (.int (q_fin (q_cr h) (q_I h (p + 5)) LW 0 nc w m d)) ∧ ∃ V S, h1 = q_wI (q_wI h (p + 10) V) (p + 11) S) := by
  obtain ⟨ad, had, hcd⟩ := hL.1 d hd
  obtain ⟨P0, P1, P2, P2b, P3, P3b, P4, P4b, P5, P5b, P6, P6b⟩ := id hp
  rcases P1 with rfl | rfl
  · refine q_CtV mvX9_fineNow (Nat.le_of_ble_eq_true rfl) ?_
    refine xe_aload_n dX9_fineNow_0 rfl ?_
    refine xe_getP dX9_fineNow_1 flX9_26 (st0 hs) (by decide) rfl P0 ?_
    refine xe_aload_n dX9_fineNow_4 rfl ?_
    refine xe_getP dX9_fineNow_5 flX9_36 (st0 hs) (by decide) rfl (sp0_4 hs) ?_
    refine xe_iload_n dX9_fineNow_8 rfl ?_
    refine xe_callVI (d' := 0) (y' := mX6_inRow) dX9_fineNow_9 mlX9_140 mvX6_inRow rfl (st34 hs) (by decide) rfl (by decide) (by decide) (Nat.le_of_ble_eq_true rfl) (c_X6_inRow l g _ (by exact hs) _ (by omega)) rfl ?_
    refine xe_top (v' := q_s8 (q_cr h) (8 * m)) (q_cr_in h (by omega)) ?_
    refine xe_aload_n dX9_fineNow_12 rfl ?_
    refine xe_getP dX9_fineNow_13 flX9_36 (st0 hs) (by decide) rfl (sp0_4 hs) ?_
    refine xe_getP dX9_fineNow_16 flX9_181 (st34 hs) (by decide) rfl (sp34_2 hs) ?_
    refine xe_iload_n dX9_fineNow_19 rfl ?_
    refine xe_bipush dX9_fineNow_20 kb_8 ?_
    refine xn_imul dX9_fineNow_22 ?_
    refine xe_iload_n dX9_fineNow_23 rfl ?_
    refine xn_iadd dX9_fineNow_24 ?_
    refine xn_ialdv dX9_fineNow_25 (st37 hs) (by omega) (by decide) (v := (q_cr h (136 + 8 * m + d))) (q_cr_t1 h (by omega) (by omega)) ?_
    refine xe_aload_n dX9_fineNow_26 rfl ?_
    refine xe_getP dX9_fineNow_27 flX9_36 (st0 hs) (by decide) rfl (sp0_4 hs) ?_
    refine xe_getIv dX9_fineNow_30 flX9_150 (st34 hs) (by decide) rfl (v := nI w) (hw) ?_
    refine xe_aload_n dX9_fineNow_33 rfl ?_
    refine xe_getP dX9_fineNow_34 flX9_36 (st0 hs) (by decide) rfl (sp0_4 hs) ?_
    refine xe_bipush dX9_fineNow_37 kb_8 ?_
    refine xe_callVI (d' := 0) (y' := mX6_inRow) dX9_fineNow_39 mlX9_140 mvX6_inRow rfl (st34 hs) (by decide) rfl (by decide) (by decide) (Nat.le_of_ble_eq_true rfl) (c_X6_inRow l g _ (by exact hs) _ (by omega)) rfl ?_
    refine xe_top (v' := q_s8 (q_cr h) (8 * 8)) (q_cr_in h (by omega)) ?_
    refine xe_iload_n dX9_fineNow_42 rfl ?_
    refine xe_callVV (d' := 0) (y' := mX3_see) dX9_fineNow_43 mlX9_184 mvX3_see rfl (st10 hs) (by decide) rfl (by decide) (by decide) (Nat.le_of_ble_eq_true rfl) (c_X3_see10 l g _ (by exact hs) (by exact P5) P5b (by omega) _ _ _ _) rfl ?_
    refine xe_aload_n dX9_fineNow_46 rfl ?_
    refine xe_getP dX9_fineNow_47 flX9_26 (st0 hs) (by decide) rfl P0 ?_
    refine xe_aload_n dX9_fineNow_50 rfl ?_
    refine xe_getP dX9_fineNow_51 flX9_26 (st0 hs) (by decide) rfl P0 ?_
    refine xe_getP dX9_fineNow_54 flX9_188 (st10 hs) (by decide) rfl (sp10_10 hs) ?_
    refine xe_iload_n dX9_fineNow_57 rfl ?_
    refine xn_ialdv dX9_fineNow_58 (st16 hs) (by omega) (by decide) (v := nI ad) (had) ?_
    refine xe_callVIq (d' := 1) (y' := mX3_worth) dX9_fineNow_59 mlX9_191 mvX3_worth rfl (st10 hs) (by decide) rfl (by decide) (by decide) (Nat.le_of_ble_eq_true rfl) (c_X3_worth10 l g _ (by exact hs) (by exact P2) P2b _ _ _ (by exact hcd)) rfl (fun h1 hq1 => ?_)
    obtain ⟨S1, rfl⟩ := hq1
    refine xe_top (v' := q_tel (q_see (q_cr h) (q_I h 15) 0 nc w m (q_s8 (q_cr h) (8 * m)) (q_cr h (136 + 8 * m + d))) (LW d) (nI 10)) ((q_see_law (lv := 0) LW d (q_I h 20) (q_cr h) (q_I h 15) _ _ hcd rfl).trans (by rw [show q_pln d _ = nI 10 from if_pos (by omega)])) ?_
    refine xe_callSI (d' := 1) (y' := mX9_withinLaw) dX9_fineNow_62 mlX9_194 msX9_withinLaw rfl (by decide) (by decide) (Nat.le_of_ble_eq_true rfl) (c_X9_withinLaw l g _ _) rfl ?_
    refine xe_ireturn dX9_fineNow_65 rfl (by first | rfl | decide +kernel) ?_
    exact ⟨rfl, _, _, rfl⟩
  · refine q_CtV mvX9_fineNow (Nat.le_of_ble_eq_true rfl) ?_
    refine xe_aload_n dX9_fineNow_0 rfl ?_
    refine xe_getP dX9_fineNow_1 flX9_26 (st0 hs) (by decide) rfl P0 ?_
    refine xe_aload_n dX9_fineNow_4 rfl ?_
    refine xe_getP dX9_fineNow_5 flX9_36 (st0 hs) (by decide) rfl (sp0_4 hs) ?_
    refine xe_iload_n dX9_fineNow_8 rfl ?_
    refine xe_callVI (d' := 0) (y' := mX6_inRow) dX9_fineNow_9 mlX9_140 mvX6_inRow rfl (st34 hs) (by decide) rfl (by decide) (by decide) (Nat.le_of_ble_eq_true rfl) (c_X6_inRow l g _ (by exact hs) _ (by omega)) rfl ?_
    refine xe_top (v' := q_s8 (q_cr h) (8 * m)) (q_cr_in h (by omega)) ?_
    refine xe_aload_n dX9_fineNow_12 rfl ?_
    refine xe_getP dX9_fineNow_13 flX9_36 (st0 hs) (by decide) rfl (sp0_4 hs) ?_
    refine xe_getP dX9_fineNow_16 flX9_181 (st34 hs) (by decide) rfl (sp34_2 hs) ?_
    refine xe_iload_n dX9_fineNow_19 rfl ?_
    refine xe_bipush dX9_fineNow_20 kb_8 ?_
    refine xn_imul dX9_fineNow_22 ?_
    refine xe_iload_n dX9_fineNow_23 rfl ?_
    refine xn_iadd dX9_fineNow_24 ?_
    refine xn_ialdv dX9_fineNow_25 (st37 hs) (by omega) (by decide) (v := (q_cr h (136 + 8 * m + d))) (q_cr_t1 h (by omega) (by omega)) ?_
    refine xe_aload_n dX9_fineNow_26 rfl ?_
    refine xe_getP dX9_fineNow_27 flX9_36 (st0 hs) (by decide) rfl (sp0_4 hs) ?_
    refine xe_getIv dX9_fineNow_30 flX9_150 (st34 hs) (by decide) rfl (v := nI w) (hw) ?_
    refine xe_aload_n dX9_fineNow_33 rfl ?_
    refine xe_getP dX9_fineNow_34 flX9_36 (st0 hs) (by decide) rfl (sp0_4 hs) ?_
    refine xe_bipush dX9_fineNow_37 kb_8 ?_
    refine xe_callVI (d' := 0) (y' := mX6_inRow) dX9_fineNow_39 mlX9_140 mvX6_inRow rfl (st34 hs) (by decide) rfl (by decide) (by decide) (Nat.le_of_ble_eq_true rfl) (c_X6_inRow l g _ (by exact hs) _ (by omega)) rfl ?_
    refine xe_top (v' := q_s8 (q_cr h) (8 * 8)) (q_cr_in h (by omega)) ?_
    refine xe_iload_n dX9_fineNow_42 rfl ?_
    refine xe_callVV (d' := 0) (y' := mX3_see) dX9_fineNow_43 mlX9_184 mvX3_see rfl (st22 hs) (by decide) rfl (by decide) (by decide) (Nat.le_of_ble_eq_true rfl) (c_X3_see22 l g _ (by exact hs) (by exact P5) P5b (by omega) _ _ _ _) rfl ?_
    refine xe_aload_n dX9_fineNow_46 rfl ?_
    refine xe_getP dX9_fineNow_47 flX9_26 (st0 hs) (by decide) rfl P0 ?_
    refine xe_aload_n dX9_fineNow_50 rfl ?_
    refine xe_getP dX9_fineNow_51 flX9_26 (st0 hs) (by decide) rfl P0 ?_
    refine xe_getP dX9_fineNow_54 flX9_188 (st22 hs) (by decide) rfl (sp22_10 hs) ?_
    refine xe_iload_n dX9_fineNow_57 rfl ?_
    refine xn_ialdv dX9_fineNow_58 (st28 hs) (by omega) (by decide) (v := nI ad) (had) ?_
    refine xe_callVIq (d' := 1) (y' := mX3_worth) dX9_fineNow_59 mlX9_191 mvX3_worth rfl (st22 hs) (by decide) rfl (by decide) (by decide) (Nat.le_of_ble_eq_true rfl) (c_X3_worth22 l g _ (by exact hs) (by exact P2) P2b _ _ _ (by exact hcd)) rfl (fun h1 hq1 => ?_)
    obtain ⟨S1, rfl⟩ := hq1
    refine xe_top (v' := q_tel (q_see (q_cr h) (q_I h 27) 0 nc w m (q_s8 (q_cr h) (8 * m)) (q_cr h (136 + 8 * m + d))) (LW d) (nI 10)) ((q_see_law (lv := 0) LW d (q_I h 32) (q_cr h) (q_I h 27) _ _ hcd rfl).trans (by rw [show q_pln d _ = nI 10 from if_pos (by omega)])) ?_
    refine xe_callSI (d' := 1) (y' := mX9_withinLaw) dX9_fineNow_62 mlX9_194 msX9_withinLaw rfl (by decide) (by decide) (Nat.le_of_ble_eq_true rfl) (c_X9_withinLaw l g _ _) rfl ?_
    refine xe_ireturn dX9_fineNow_65 rfl (by first | rfl | decide +kernel) ?_
    exact ⟨rfl, _, _, rfl⟩
