/-! rows that agree: numbers that agree -/
def sC (C C' : Nat → Int32) (lv nc : Nat) : Prop := ∀ w, q_wind C (12 * 0) nc w = q_wind C' (12 * lv) nc w
theorem sC_of {C C' : Nat → Int32} {lv nc : Nat} (h : ∀ k, k < nc → C' (12 * lv + k) = C k) : sC C C' lv nc := by
  intro w
  unfold q_wind
  by_cases q : nc = 0
  · rw [if_pos q, if_pos q]
  · rw [if_neg q, if_neg q, h _ (Nat.mod_lt _ (by omega)), Nat.mul_zero, Nat.zero_add]
section
variable {R R' C C' : Nat → Int32} {lv nc nm : Nat} {LW : q_LW}
theorem see_C (hC : sC C C' lv nc) (w m : Nat) (a b : Int32) : q_see R C 0 nc w m a b = q_see R C' lv nc w m a b := by
  unfold q_see
  rw [hC w]
theorem fin_C (hC : sC C C' lv nc) (w m d : Nat) : q_fin R C LW 0 nc w m d = q_fin R C' LW lv nc w m d := by
  unfold q_fin
  rw [see_C hC]
theorem fin_RC (hR : q_req R R') (hC : sC C C' lv nc) (w : Nat) {m d : Nat} (hm : m < 8) (hd : d < 8) : q_fin R C LW 0 nc w m d = q_fin R' C' LW lv nc w m d := (q_fin_rq hR C LW 0 nc w hm hd).trans (fin_C hC w m d)
theorem fi_RC (hR : q_req R R') (hC : sC C C' lv nc) (w : Nat) {m d : Nat} (hm : m < 8) (hd : d < 8) : q_fi R C LW 0 nc w m d = q_fi R' C' LW lv nc w m d := by
  unfold q_fi
  rw [fin_RC hR hC w hm hd]
theorem vv_C (hC : sC C C' lv nc) (H : Nat → Int32) (w m : Nat) : q_vv R C H LW 0 nc w m = q_vv R C' H LW lv nc w m := by
  funext o
  unfold q_vv
  rw [see_C hC]
theorem who_RC (hR : q_req R R') (hC : sC C C' lv nc) {H H' : Nat → Int32} (hn : 0 < nm) (hnm : nm ≤ 8) (w : Nat) (hH : ∀ k, k < 8 → H k = H' k) : q_who R C H LW 0 nm nc w = q_who R' C' H' LW lv nm nc w := by
  refine Eq.trans ?_ (q_who_co hR C' LW lv hn hnm nc w hH (fun _ _ => rfl)).1
  unfold q_who
  simp only [vv_C hC]
theorem vts_RC (hR : q_req R R') (hC : sC C C' lv nc) {H H' : Nat → Int32} (hn : 0 < nm) (hnm : nm ≤ 8) (w : Nat) (hH : ∀ k, k < 8 → H k = H' k) {k : Nat} (hk : k < 8) : q_vts R C H LW 0 nm nc w k = q_vts R' C' H' LW lv nm nc w k := by
  refine Eq.trans ?_ ((q_who_co hR C' LW lv hn hnm nc w hH (fun _ _ => rfl)).2 k hk)
  unfold q_vts
  simp only [vv_C hC]
theorem who_lt {H : Nat → Int32} {w : Nat} (hn : 0 < nm) : q_who R C H LW lv nm nc w < nm := by
  have := q_el_lt (q_vt (fun m => (q_vb (q_vv R C H LW lv nc w m) nm).1) (fun _ => nI 0) nm) H (nm - 1)
  unfold q_who
  omega
theorem vb_RC (hR : q_req R R') (hC : sC C C' lv nc) {H H' : Nat → Int32} (hnm : nm ≤ 8) (w m : Nat) (hH : ∀ k, k < 8 → H k = H' k) : (q_vb (q_vv R C H LW 0 nc w m) nm).1 = (q_vb (q_vv R' C' H' LW lv nc w m) nm).1 := by
  rw [vv_C hC]
  exact congrArg Prod.fst (q_vb_co (fun o ho => q_vv_rq hR C' LW lv nc w m (by omega) (hH o (by omega))))
theorem wrm_C (hC : sC C C' lv nc) (w m : Nat) : q_wrm R C LW 0 nc w m = q_wrm R C' LW lv nc w m := by
  unfold q_wrm
  rw [see_C hC, hC w]
theorem wrm_RC (hR : q_req R R') (hC : sC C C' lv nc) (w : Nat) {m : Nat} (hm : m < 8) : q_wrm R C LW 0 nc w m = q_wrm R' C' LW lv nc w m := (q_wrm_rq hR C LW 0 nc w hm).trans (wrm_C hC w m)
theorem els_rq (hR : q_req R R') {m : Nat} (hm : m < 8) : q_els R m = q_els R' m := by
  unfold q_els
  exact q_sum_co (fun k hk => by rw [hR (8 * k + m) (by omega)])
theorem balP_RC (hR : q_req R R') (hC : sC C C' lv nc) (hn : 0 < nm) (hnm : nm ≤ 8) (w m hv i : Nat) : q_balP R C LW 0 nm nc w m hv i = q_balP R' C' LW lv nm nc w m hv i := by
  unfold q_balP
  rw [who_RC hR hC hn hnm w (H := q_balH R m hv i) (H' := q_balH R' m hv i) (fun k hk => by
    unfold q_balH
    rw [q_s8_rq hR (by omega)])]
end
theorem fst_co {P P' : Nat → Bool} : ∀ {n : Nat}, (∀ i, i < n → P i = P' i) → q_fst P n = q_fst P' n
  | 0, _ => rfl
  | n + 1, h => by
    unfold q_fst
    rw [fst_co (n := n) (fun i hi => h i (by omega)), h n (by omega)]
theorem fnd_at {P : Nat → Bool} : ∀ n k i, i < n → P (k + i) = true → (∀ j, j < i → P (k + j) = false) → q_fnd P n k = some (k + i)
  | 0, _, _, h, _, _ => absurd h (Nat.not_lt_zero _)
  | n + 1, k, 0, _, h1, _ => by
    unfold q_fnd
    rw [if_pos (show P k = true from h1)]
    rfl
  | n + 1, k, i + 1, h, h1, h0 => by
    unfold q_fnd
    rw [if_neg (by rw [show P k = false from h0 0 (by omega)]; decide), fnd_at n (k + 1) i (by omega) (by rw [show k + 1 + i = k + (i + 1) by omega]; exact h1) (fun j hj => by rw [show k + 1 + j = k + (j + 1) by omega]; exact h0 (j + 1) (by omega))]
    exact congrArg some (by omega)
theorem fnd_no {P : Nat → Bool} : ∀ n k, (∀ j, j < n → P (k + j) = false) → q_fnd P n k = none
  | 0, _, _ => rfl
  | n + 1, k, h => by
    unfold q_fnd
    rw [if_neg (by rw [show P k = false from h 0 (by omega)]; decide)]
    exact fnd_no n (k + 1) (fun j hj => by rw [show k + 1 + j = k + (j + 1) by omega]; exact h (j + 1) (by omega))
theorem fnd_fst {P : Nat → Bool} {n : Nat} : q_fndv (q_fnd P n 0) = if q_fst P n < n then nI (q_fst P n) else -2 := by
  by_cases h : q_fst P n < n
  · rw [if_pos h, fnd_at n 0 _ h (by rw [Nat.zero_add]; exact q_fst_yes P n h) (fun j hj => by rw [Nat.zero_add]; exact q_fst_no P n j hj), Nat.zero_add]
    rfl
  · rw [if_neg h, fnd_no n 0 (fun j hj => by
      rw [Nat.zero_add]
      have := q_fst_le P n
      exact q_fst_no P n j (by omega))]
    rfl
theorem lg_co {nm K : Nat} {gs gs' : Nat → Nat} {cm cm' : Nat → Nat → Nat} (hg : ∀ s, gs s = gs' s) (hc : ∀ m, m < nm → cm m = cm' m) : ∀ j k, j ≤ nm → q_lg nm K gs cm j k = q_lg nm K gs' cm' j k
  | 0, _, _ => rfl
  | j + 1, k, hj => by
    unfold q_lg
    have e : (fun s => gs s + q_lg nm K gs cm j (k - cm (nm - 1 - j) s)) = (fun s => gs' s + q_lg nm K gs' cm' j (k - cm' (nm - 1 - j) s)) := by
      funext s
      rw [hg s, hc _ (by omega), lg_co hg hc j _ (by omega)]
    rw [e]
theorem lgp_co {nm K : Nat} {gs gs' : Nat → Nat} {cm cm' : Nat → Nat → Nat} (hg : ∀ s, gs s = gs' s) (hc : ∀ m, m < nm → cm m = cm' m) {m : Nat} (hm : m < nm) (k : Nat) : q_lgp nm K gs cm m k = q_lgp nm K gs' cm' m k := by
  funext s
  unfold q_lgp
  rw [hg s, hc m hm, lg_co hg hc _ _ (by omega), lg_co hg hc _ _ (by omega)]
theorem lft_co {nm K : Nat} {gs gs' : Nat → Nat} {cm cm' : Nat → Nat → Nat} (hg : ∀ s, gs s = gs' s) (hc : ∀ m, m < nm → cm m = cm' m) (n : Nat) : ∀ m, m ≤ nm → q_lft nm K gs cm n m = q_lft nm K gs' cm' n m
  | 0, _ => rfl
  | m + 1, hm => by
    unfold q_lft
    rw [lft_co hg hc n m (by omega), lgp_co hg hc (by omega), hc m (by omega)]
theorem chs_co {nm K : Nat} {gs gs' : Nat → Nat} {cm cm' : Nat → Nat → Nat} (hg : ∀ s, gs s = gs' s) (hc : ∀ m, m < nm → cm m = cm' m) (n : Nat) {m : Nat} (hm : m < nm) : q_chs nm K gs cm n m = q_chs nm K gs' cm' n m := by
  unfold q_chs
  rw [lft_co hg hc n m (by omega), lgp_co hg hc hm]
theorem qsum_co {f g : Nat → Nat} : ∀ {n : Nat}, (∀ k, k < n → f k = g k) → q_qsum f n = q_qsum g n
  | 0, _ => rfl
  | n + 1, h => by
    unfold q_qsum
    rw [qsum_co (fun k hk => h k (by omega)), h n (by omega)]
