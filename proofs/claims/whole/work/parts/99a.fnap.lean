/-! fine, appeal: both sides alike -/
section
variable {R : Nat → Int32} {n : Int32} {m d E w k : Nat}
theorem fnR_lo (h1 : k ≠ 201) (h2 : k < 210 + 5 * E ∨ 210 + 5 * E + 4 < k) (h3 : k ≠ 136 + 8 * m + d) : q_fnR R n m d E w k = (q_mvs m 8 m R n 8).1 k := by
  unfold q_fnR q_fnE q_fnT
  rw [pk_un h1, pk_un (by omega), pk_un (by omega), pk_un (by omega), pk_un (by omega), pk_un (by omega), pk_un h3]
theorem fnR_t (hm : m < 8) (hd : d < 8) : q_fnR R n m d E w (136 + 8 * m + d) = (q_mvs m 8 m R n 8).1 (136 + 8 * m + d) + nI 1 := by
  unfold q_fnR q_fnE q_fnT
  rw [pk_un (by omega), pk_un (by omega), pk_un (by omega), pk_un (by omega), pk_un (by omega), pk_un (by omega), pk_us]
theorem fnR_201 : q_fnR R n m d E w 201 = nI (E + 1) := pk_us
theorem fnR_e : q_fnR R n m d E w (210 + 5 * E) = nI m ∧ q_fnR R n m d E w (210 + 5 * E + 1) = nI d ∧ q_fnR R n m d E w (210 + 5 * E + 2) = nI w ∧ q_fnR R n m d E w (210 + 5 * E + 3) = n ∧ q_fnR R n m d E w (210 + 5 * E + 4) = nI 0 := by
  unfold q_fnR q_fnE
  refine ⟨?_, ?_, ?_, ?_, ?_⟩
  · rw [pk_un (by omega), pk_un (by omega), pk_un (by omega), pk_un (by omega), pk_un (by omega), pk_us]
  · rw [pk_un (by omega), pk_un (by omega), pk_un (by omega), pk_un (by omega), pk_us]
  · rw [pk_un (by omega), pk_un (by omega), pk_un (by omega), pk_us]
  · rw [pk_un (by omega), pk_un (by omega), pk_us]
  · rw [pk_un (by omega), pk_us]
end
theorem cnt_new {em ed ew : Nat → Nat} {s E m d w k : Nat} (hs : s ≤ w) : q_cnt (q_up em E m) (q_up ed E d) (q_up ew E w) s (E + 1) k = if m * 8 + d = k then q_cnt em ed ew s E k + 1 else q_cnt em ed ew s E k := by
  have e : q_cnt (q_up em E m) (q_up ed E d) (q_up ew E w) s E k = q_cnt em ed ew s E k := q_cnt_co (fun i hi => ⟨q_up_n (by omega), q_up_n (by omega), q_up_n (by omega)⟩)
  show (if s ≤ q_up ew E w E ∧ q_up em E m E * 8 + q_up ed E d E = k then _ else _) = _
  rw [q_up_s, q_up_s, q_up_s, e]
  by_cases q : m * 8 + d = k
  · rw [if_pos ⟨hs, q⟩, if_pos q]
  · rw [if_neg (fun z => q z.2), if_neg q]
theorem ch_z {m nm n : Nat} {f : Nat → Nat} (hm : m < nm) (hnm : nm ≤ 8) (z : ∀ k, 8 * nm ≤ k → k < 64 → f k = 0) : (∀ k, 8 * nm ≤ k → k < 64 → (q_mN m 8 m f n 8).1 k = 0) ∧ ∀ k, 8 * nm ≤ k → k < 64 → (q_mN 8 m m f n 8).1 k = 0 :=
  ⟨fun k h1 h2 => (q_mN_ne (by omega) (by omega) (by omega) 8 (Nat.le_refl _)).trans (z k h1 h2), fun k h1 h2 => (q_mN_ne (by omega) (by omega) (by omega) 8 (Nat.le_refl _)).trans (z k h1 h2)⟩
theorem mN_min {F T f0 : Nat} {f : Nat → Nat} {n : Nat} (hFT : F ≠ T) (hf : f0 < 8) : (q_mN F T f0 f n 8).1 = (q_mN F T f0 f (if q_hv f F < n then q_hv f F else n) 8).1 := by
  split
  · exact mN_sat hFT hf (by omega) 8 (Nat.le_refl _)
  · rfl
theorem st_fine (l : Launch) (g : q_GP) {i : Nat} {h : q_H} (hi : i ≤ 512) (hR : RR i h) (x z : Int32) : q_2 l g i h mX9_fine [.ref 0, .int x, .int z] mX10_fine [.ref 124, .int x, .int z] := by
  obtain ⟨aS, aT, aP, aW, aZ, p, nm, nd, nc, mo, n, lv, LW, gu, aL, aN, aU, aH, aD⟩ := id hR
  have hs := aS.1
  obtain ⟨hp, hLk, hm, hLm, aP3, aG, aC, aV⟩ := id aL
  have hnm : nm ≤ 8 := hp.2.2.2.2.2.1
  have hnd : nd ≤ 8 := hp.2.2.2.2.2.2.2.1
  have hq := rel_req aN
  have hC := sC_of aC
  obtain ⟨w, E, em, ed, ew, ep, ea, f, rw_, sv, tm⟩ := id aN
  have hwc : q_I h 34 6 = nI w := sv.1
  have hwr : q_I h 154 200 = nI w := rw_.1
  have hw2 : w < 2 ^ 19 := by have := rw_.2.1; omega
  have hw3 : w < 2 ^ 20 := by omega
  have hE1 : q_I h 34 5 = nI E := sv.2.1
  have hEr : q_I h 154 201 = nI E := rw_.2.2.1
  have hE2 : E ≤ 300 := rw_.2.2.2.1
  have hEE := rel_E (by omega) hnm rw_ sv
  have hrn := rw_.2.2.2.2.2.2.1
  have hns : q_ns f 72 < 2 ^ 30 := by have := rw_.2.2.2.2.2.2.2.1; omega
  have hs8 : ∀ k, k < 9 → q_s8 (q_cr h) (8 * k) = q_s8 (q_I h 154) (8 * k) := fun k hk => q_s8_rq hq (by omega)
  have hhv : ∀ k, k < 9 → q_s8 (q_I h 154) (8 * k) = nI (q_hv f k) ∧ q_hv f k < 2 ^ 30 := fun k hk => ⟨q_rn_s8 hrn hk, by have := q_hv_le f hk; omega⟩
  obtain ⟨u, x0, u1, u2, u3, u4, u5, S, u6, u7⟩ := id aU
  have hR3 : ∀ T : Nat → Int32, q_req (q_cr h) (q_cpy (q_I h 154) T 1720) := fun T k hk => (hq k hk).trans (if_pos (by omega) : q_cpy (q_I h 154) T 1720 k = q_I h 154 k).symm
  have hRr : ∀ T : Nat → Int32, ∀ k, k < 1720 → q_cpy (q_I h 154) T 1720 k = q_I h 154 k := fun T k hk => if_pos hk
  have hvc : ∀ m, m < 9 → q_s8 (q_cr h) (8 * m) = nI (q_hv f m) := fun m hm => (hs8 m hm).trans (hhv m hm).1
  by_cases hx : q_isN x nm ∧ q_isN z nd
  · obtain ⟨m, hm8, rfl⟩ := isN_e (by omega) hx.1
    obtain ⟨d, hd8, rfl⟩ := isN_e (by omega) hx.2
    by_cases h300 : E = 300
    · subst h300
      exact q_2q hR (d2 := 3) (by decide) (by decide) (q_Ct_d (c_X9_fine_n l g h hs hp hm8 hd8 hE1)) rfl (fun h1 hk => by
        obtain ⟨hs1, aL1, er⟩ := rel_1 hk hs aL
        exact q_Ct_m (c_X10_fine_n l g h1 hs1 aL1.2.2.1 hm8 hd8 (by rw [er 154 (by decide)]; exact hEr)))
    · have hf35 : q_rn (q_I h 35) f := fun j hj => (sv.2.2.2.1 j hj).trans (hrn j hj)
      refine ⟨4, _, by decide, c_X9_fine_t l g h hs hp (hLk (by omega)) hwc hw3 u2 u5 u4 u1 hE1 hE2 hEE hf35 hns hm8 hd8 (by omega), fun r h1 q => ?_⟩
      obtain ⟨rfl, D, q35, q36, q37, q38, q39, q34⟩ := q
      obtain ⟨hs1, aL1, er⟩ := did_1 D u2 hs aL
      have c := c_X10_fine_t l g h1 hs1 aL1.2.2.1 aL1.2.2.2.1 (by rw [er 154 (by decide)]; exact hwr) hw3 (u := u) (by rw [er 124 (by decide)]; exact u3) u1 (by rw [er 154 (by decide)]; exact hEr) hE2 hm8 hd8 (by omega)
      rw [er 154 (by decide), er 155 (by decide), er 140 (by decide)] at c
      obtain ⟨fi1, fi2⟩ := fi_n (q_cr h) (q_I h (p + 5)) LW 0 nc w m d
      generalize hfi : q_fi (q_cr h) (q_I h (p + 5)) LW 0 nc w m d = fi at fi1 fi2 q35 q38
      have hvb := (hhv m (by omega)).2
      have ha2 : (if q_hv f m < fi then q_hv f m else fi) ≤ 999 := by split <;> omega
      have ha3 : (q_mN m 8 m f fi 8).1 = (q_mN m 8 m f (if q_hv f m < fi then q_hv f m else fi) 8).1 := mN_min (by omega) (by omega)
      have efn : q_fn (q_cpy (q_I h 154) (q_I h 155) 1720) (q_I h 140) LW lv nc w m d = nI (if q_hv f m < fi then q_hv f m else fi) := by
        unfold q_fn
        rw [← fin_RC (hR3 (q_I h 155)) hC w (by omega) (by omega), fi1, ← q_s8_rq (hR3 (q_I h 155)) (b := 8 * m) (by omega), hvc m (by omega)]
        by_cases q : q_hv f m < fi
        · have c1 : ¬ nI fi ≤ nI (q_hv f m) := fun z => by
            have := (nI_leI (a := fi) (b := q_hv f m) (by omega) (by omega)).mp z
            omega
          rw [if_neg c1, if_pos q]
        · have c1 : nI fi ≤ nI (q_hv f m) := (nI_leI (a := fi) (b := q_hv f m) (by omega) (by omega)).mpr (by omega)
          rw [if_pos c1, if_neg q]
      rw [efn] at c
      generalize (if q_hv f m < fi then q_hv f m else fi) = am at ha2 ha3 c q38
      have hRn : q_rn (q_cpy (q_I h 154) (q_I h 155) 1720) f := fun j hj => (hRr _ j (by omega)).trans (hrn j hj)
      obtain ⟨m1, -, -⟩ := mv_both (A := q_cpy (q_I h 154) (q_I h 155) 1720) (B := q_I h 35) (f := f) (F := m) (T := 8) (f0 := m) (n := am) (by omega) (by omega) (by omega) (by omega) hRn hf35 (by omega) hns
      obtain ⟨-, m2, -⟩ := mv_both (A := q_cpy (q_I h 154) (q_I h 155) 1720) (B := q_I h 35) (f := f) (F := m) (T := 8) (f0 := m) (n := fi) (by omega) (by omega) (by omega) (by omega) hRn hf35 (by omega) hns
      rw [ha3] at m2
      have ne : ∀ j, 72 ≤ j → j < 1720 → (q_mvs m 8 m (q_cpy (q_I h 154) (q_I h 155) 1720) (nI am) 8).1 j = q_I h 154 j := fun j h1 h2 => (q_mvs_ne (by omega) (by omega) (by omega) h1 8 (Nat.le_refl _)).trans (hRr _ j h2)
      have nl : ∀ j, 72 ≤ j → j < 1720 → j ≠ 201 → (j < 210 + 5 * E ∨ 210 + 5 * E + 4 < j) → j ≠ 136 + 8 * m + d → q_fnR (q_cpy (q_I h 154) (q_I h 155) 1720) (nI am) m d E w j = q_I h 154 j := fun j h1 h2 h3 h4 h5 => (fnR_lo h3 h4 h5).trans (ne j h1 h2)
      obtain ⟨e0, e1, e2, e3, e4⟩ := fnR_e (R := q_cpy (q_I h 154) (q_I h 155) 1720) (n := nI am) (m := m) (d := d) (E := E) (w := w)
      have hrt : ∀ k, k < 64 → q_fnR (q_cpy (q_I h 154) (q_I h 155) 1720) (nI am) m d E w (136 + k) = nI (q_cnt (q_up em E m) (q_up ed E d) (q_up ew E w) (if mo = 0 then 0 else w - w % mo) (E + 1) k) := fun k hk => by
        rw [cnt_new (since_le mo w)]
        by_cases q : m * 8 + d = k
        · rw [if_pos q, show 136 + k = 136 + 8 * m + d by omega, fnR_t (by omega) (by omega), ne _ (by omega) (by omega), show 136 + 8 * m + d = 136 + k by omega, rw_.2.2.2.2.2.2.2.2.2 k hk]
          exact nI_add _ _
        · rw [if_neg q, nl _ (by omega) (by omega) (by omega) (by omega) (by omega)]
          exact rw_.2.2.2.2.2.2.2.2.2 k hk
      have hrw : rw_ok (i + 1) mo nm (q_fnR (q_cpy (q_I h 154) (q_I h 155) 1720) (nI am) m d E w) w (E + 1) (q_up em E m) (q_up ed E d) (q_up ew E w) (q_up ep E am) (q_up ea E 0) (q_mN m 8 m f am 8).1 := by
        obtain ⟨r1, r2, r3, r4, r5, r6, r7, r8, r9, r10⟩ := rw_
        refine ⟨(nl _ (by omega) (by omega) (by omega) (by omega) (by omega)).trans r1, by omega, fnR_201, by omega, fun j h1 h2 => (nl _ (by omega) (by omega) (by omega) (by omega) (by omega)).trans (r5 j h1 h2), fun j hj => ?_, fun j hj => (fnR_lo (by omega) (by omega) (by omega)).trans (m1 j hj), by rw [q_mN_tot (by omega) (by omega) (by omega) 8 (Nat.le_refl _)]; omega, (ch_z hm8 hnm r9).1, hrt⟩
        by_cases q : j = E
        · subst q
          rw [q_up_s, q_up_s, q_up_s, q_up_s, q_up_s]
          exact ⟨e0, e1, e2, e3, e4, hm8, by omega, by omega, by omega, by omega⟩
        · rw [q_up_n q, q_up_n q, q_up_n q, q_up_n q, q_up_n q]
          obtain ⟨c1, c2, c3, c4, c5, c6⟩ := r6 j (by omega)
          exact ⟨(nl _ (by omega) (by omega) (by omega) (by omega) (by omega)).trans c1, (nl _ (by omega) (by omega) (by omega) (by omega) (by omega)).trans c2, (nl _ (by omega) (by omega) (by omega) (by omega) (by omega)).trans c3, (nl _ (by omega) (by omega) (by omega) (by omega) (by omega)).trans c4, (nl _ (by omega) (by omega) (by omega) (by omega) (by omega)).trans c5, c6⟩
      have hsv : sv_ok h1 34 35 36 38 39 (q_fnR (q_cpy (q_I h 154) (q_I h 155) 1720) (nI am) m d E w) w (E + 1) (q_up em E m) (q_up ed E d) (q_up ew E w) (q_up ep E am) (q_up ea E 0) := by
        refine ⟨by rw [q34, pk_un (by decide)]; exact sv.1, by rw [q34, pk_us], fun j hj => ?_, fun j hj => by rw [q35, m2 j hj, fnR_lo (by omega) (by omega) (by omega), m1 j hj], fun j hj => by rw [q36, sv.2.2.2.2 j hj, nl _ (by omega) (by omega) (by omega) (by omega) (by omega)]⟩
        rw [q38, q39]
        by_cases q : j = E
        · subst q
          rw [q_up_s, q_up_s, q_up_s, q_up_s, q_up_s, pk_us, pk_us]
          exact ⟨congrArg nI (by omega), rfl⟩
        · rw [q_up_n q, q_up_n q, q_up_n q, q_up_n q, q_up_n q, pk_un q, pk_un q]
          exact sv.2.2.1 j (by omega)
      exact ⟨nI am, 3, by decide, rfl, hs1, q_Ct_post (fun r2 h2 q2 => ⟨q2.1, RR_act aS aT aP aW aZ aL aH aD u1 u2 u6 u7 aN D q2.2 ⟨w, E + 1, _, _, _, _, _, _, hrw, hsv, fun k hk => (q37 k hk).trans (hrt k hk).symm⟩
        (lk_1 D.2.2.2.2 rw_ sv fnR_201 (by omega) (by omega) (fun j hj => (nl _ (by omega) (by omega) (by omega) (by omega) (by omega)).symm) (fun j hj => (nl _ (by omega) (by omega) (by omega) (by omega) (by omega)).symm))⟩) c⟩
  · exact q_2q hR  (d2 := 3) (by decide) (by decide) (q_Ct_d (c_X9_fine_f l g h hs hp x z hx)) (rfl) (fun h1 hk => by
    obtain ⟨hs1, aL1, er⟩ := rel_1 hk hs aL
    have e154 := er 154 (by decide)
    have e140 := er 140 (by decide)
    have e124 := er 124 (by decide)
    have c := c_X10_fine_f l g h1 hs1 aL1.2.2.1 x z hx
    (try simp only [e154, e140, e124] at c)
    exact q_Ct_m c)
theorem st_appeal (l : Launch) (g : q_GP) {i : Nat} {h : q_H} (hi : i ≤ 512) (hR : RR i h) (x : Int32) : q_2 l g i h mX9_appeal [.ref 0, .int x] mX10_appeal [.ref 124, .int x] := by
  obtain ⟨aS, aT, aP, aW, aZ, p, nm, nd, nc, mo, n, lv, LW, gu, aL, aN, aU, aH, aD⟩ := id hR
  have hs := aS.1
  obtain ⟨hp, hLk, hm, hLm, aP3, aG, aC, aV⟩ := id aL
  have hnm : nm ≤ 8 := hp.2.2.2.2.2.1
  have hnd : nd ≤ 8 := hp.2.2.2.2.2.2.2.1
  have hq := rel_req aN
  have hC := sC_of aC
  obtain ⟨w, E, em, ed, ew, ep, ea, f, rw_, sv, tm⟩ := id aN
  have hwc : q_I h 34 6 = nI w := sv.1
  have hwr : q_I h 154 200 = nI w := rw_.1
  have hw2 : w < 2 ^ 19 := by have := rw_.2.1; omega
  have hw3 : w < 2 ^ 20 := by omega
  have hE1 : q_I h 34 5 = nI E := sv.2.1
  have hEr : q_I h 154 201 = nI E := rw_.2.2.1
  have hE2 : E ≤ 300 := rw_.2.2.2.1
  have hEE := rel_E (by omega) hnm rw_ sv
  have hrn := rw_.2.2.2.2.2.2.1
  have hns : q_ns f 72 < 2 ^ 30 := by have := rw_.2.2.2.2.2.2.2.1; omega
  have hs8 : ∀ k, k < 9 → q_s8 (q_cr h) (8 * k) = q_s8 (q_I h 154) (8 * k) := fun k hk => q_s8_rq hq (by omega)
  have hhv : ∀ k, k < 9 → q_s8 (q_I h 154) (8 * k) = nI (q_hv f k) ∧ q_hv f k < 2 ^ 30 := fun k hk => ⟨q_rn_s8 hrn hk, by have := q_hv_le f hk; omega⟩
  obtain ⟨u, x0, u1, u2, u3, u4, u5, S, u6, u7⟩ := id aU
  have hR3 : ∀ T : Nat → Int32, q_req (q_cr h) (q_cpy (q_I h 154) T 1720) := fun T k hk => (hq k hk).trans (if_pos (by omega) : q_cpy (q_I h 154) T 1720 k = q_I h 154 k).symm
  have hRr : ∀ T : Nat → Int32, ∀ k, k < 1720 → q_cpy (q_I h 154) T 1720 k = q_I h 154 k := fun T k hk => if_pos hk
  have hvc : ∀ m, m < 9 → q_s8 (q_cr h) (8 * m) = nI (q_hv f m) := fun m hm => (hs8 m hm).trans (hhv m hm).1
  by_cases hx : q_isN x E
  · obtain ⟨j, hj, rfl⟩ := isN_e (by omega) hx
    obtain ⟨b1, b2, b3, b4, b5, b6, b7, b8, b9, b10⟩ := rw_.2.2.2.2.2.1 j hj
    have hm8 : em j < 8 := by omega
    by_cases ha1 : ea j = 1
    · exact q_2q hR (d2 := 2) (by decide) (by decide) (q_Ct_d (c_X9_appeal_1 l g h hs u2 u5 u4 u1 hE1 hE2 hEE hj ha1)) rfl (fun h1 hk => by
        obtain ⟨hs1, aL1, er⟩ := rel_1 hk hs aL
        exact c_X10_appeal_1 l g h1 hs1 aL1.2.2.1 (u := u) (by rw [er 124 (by decide)]; exact u3) u1 (by rw [er 154 (by decide)]; exact hEr) hE2 hj hm8 (by rw [er 154 (by decide)]; exact b1) (by rw [er 154 (by decide), b5, ha1]))
    · have ha0 : ea j = 0 := by omega
      rw [ha0] at b5
      have es8 : ∀ T : Nat → Int32, q_s8 (q_cpy (q_I h 154) T 1720) (8 * em j) = q_s8 (q_cr h) (8 * em j) := fun T => (q_s8_rq (hR3 T) (by omega)).symm
      by_cases hh : q_s8 (q_cr h) (8 * em j) = 0
      · exact q_2q hR (d2 := 2) (by decide) (by decide) (q_Ct_d (c_X9_appeal_2 l g h hs u2 u5 u4 u1 hE1 hE2 hEE hj ha0 hh)) rfl (fun h1 hk => by
          obtain ⟨hs1, aL1, er⟩ := rel_1 hk hs aL
          exact c_X10_appeal_2 l g h1 hs1 aL1.2.2.1 (u := u) (by rw [er 124 (by decide)]; exact u3) u1 (by rw [er 154 (by decide)]; exact hEr) hE2 hj hm8 (by rw [er 154 (by decide)]; exact b1) (by rw [er 154 (by decide)]; exact b5) (by rw [er 154 (by decide), er 155 (by decide), es8]; exact hh))
      · refine ⟨3, _, by decide, c_X9_appeal_t l g h hs u2 u5 u4 u1 hE1 hE2 hEE hj ha0 hh, fun r h1 q => ?_⟩
        obtain ⟨rfl, D, q35, q38, q34, q36, q37, q39⟩ := q
        obtain ⟨hs1, aL1, er⟩ := did_1 D u2 hs aL
        have c := c_X10_appeal_t l g h1 hs1 aL1.2.2.1 (u := u) (by rw [er 124 (by decide)]; exact u3) u1 (by rw [er 154 (by decide)]; exact hEr) hE2 hj hm8 (by rw [er 154 (by decide)]; exact b1) (by rw [er 154 (by decide)]; exact b5) (by rw [er 154 (by decide), er 155 (by decide), es8]; exact hh)
        rw [er 154 (by decide), er 155 (by decide)] at c
        generalize hem : em j = m at *
        have hf35 : q_rn (q_I h 35) f := fun j hj => (sv.2.2.2.1 j hj).trans (hrn j hj)
        have hRn : q_rn (q_cpy (q_I h 154) (q_I h 155) 1720) f := fun j hj => (hRr _ j (by omega)).trans (hrn j hj)
        obtain ⟨m1, m2, -⟩ := mv_both (A := q_cpy (q_I h 154) (q_I h 155) 1720) (B := q_I h 35) (f := f) (F := m) (T := 8) (f0 := m) (n := 1) (by omega) (by omega) (by omega) (by omega) hRn hf35 (by decide) hns
        have t1 : q_ns (q_mN m 8 m f 1 8).1 72 = q_ns f 72 := q_mN_tot (by omega) (by omega) (by omega) 8 (Nat.le_refl _)
        have z1 := (ch_z (n := 1) b6 hnm rw_.2.2.2.2.2.2.2.2.1).1
        generalize hf1 : (q_mN m 8 m f 1 8).1 = f1 at m1 m2 t1 z1
        have n1 : ∀ j, 72 ≤ j → j < 1720 → (q_mvs m 8 m (q_cpy (q_I h 154) (q_I h 155) 1720) (nI 1) 8).1 j = q_I h 154 j := fun j h1 h2 => (q_mvs_ne (by omega) (by omega) (by omega) h1 8 (Nat.le_refl _)).trans (hRr _ j h2)
        have hdiv : nI (ep j) / nI 2 = nI (ep j / 2) := pk_div (by omega) (by decide) (by decide)
        have hv8 : q_hv f1 8 < 2 ^ 30 := by have := q_hv_le f1 (g := 8) (by decide); omega
        have eB : q_apB (q_cpy (q_I h 154) (q_I h 155) 1720) m j = nI (if q_hv f1 8 < ep j / 2 then q_hv f1 8 else ep j / 2) := by
          unfold q_apB
          rw [n1 _ (by omega) (by omega), b4, hdiv, show q_s8 (q_mvs m 8 m (q_cpy (q_I h 154) (q_I h 155) 1720) (nI 1) 8).1 64 = nI (q_hv f1 8) from q_rn_s8 (g := 8) m1 (by decide)]
          by_cases q : q_hv f1 8 < ep j / 2
          · have c1 : ¬ nI (ep j / 2) ≤ nI (q_hv f1 8) := fun z => by
              have := (nI_leI (a := ep j / 2) (b := q_hv f1 8) (by omega) (by omega)).mp z
              omega
            rw [if_neg c1, if_pos q]
          · have c1 : nI (ep j / 2) ≤ nI (q_hv f1 8) := (nI_leI (a := ep j / 2) (b := q_hv f1 8) (by omega) (by omega)).mpr (by omega)
            rw [if_pos c1, if_neg q]
        rw [eB] at c
        obtain ⟨-, m4, m5⟩ := mv_both (A := (q_mvs m 8 m (q_cpy (q_I h 154) (q_I h 155) 1720) (nI 1) 8).1) (B := (q_mvc m 8 m (q_I h 35) (nI 1) 9).1) (f := f1) (F := 8) (T := m) (f0 := m) (n := ep j / 2) (by omega) (by omega) (by omega) (by omega) m1 m2 (by omega) (by omega)
        have ea_ : nI (ep j / 2) - (q_mvc 8 m m (q_mvc m 8 m (q_I h 35) (nI 1) 9).1 (nI (ep j / 2)) 9).2 = nI (if q_hv f1 8 < ep j / 2 then q_hv f1 8 else ep j / 2) := by
          rw [m5, pk_sub (by omega)]
          refine congrArg nI ?_
          split <;> omega
        rw [mN_min (by omega) (by omega)] at m4
        have hb2 : (if q_hv f1 8 < ep j / 2 then q_hv f1 8 else ep j / 2) < 2 ^ 30 := by split <;> omega
        generalize (if q_hv f1 8 < ep j / 2 then q_hv f1 8 else ep j / 2) = bk at c m4 ea_ hb2
        obtain ⟨m3, -, -⟩ := mv_both (A := (q_mvs m 8 m (q_cpy (q_I h 154) (q_I h 155) 1720) (nI 1) 8).1) (B := (q_mvc m 8 m (q_I h 35) (nI 1) 9).1) (f := f1) (F := 8) (T := m) (f0 := m) (n := bk) (by omega) (by omega) (by omega) (by omega) m1 m2 hb2 (by omega)
        have t2 : q_ns (q_mN 8 m m f1 bk 8).1 72 = q_ns f1 72 := q_mN_tot (by omega) (by omega) (by omega) 8 (Nat.le_refl _)
        have z2 := (ch_z (n := bk) b6 hnm z1).2
        have n2 : ∀ k, 72 ≤ k → k < 1720 → k ≠ 210 + 5 * j + 4 → q_apR (q_cpy (q_I h 154) (q_I h 155) 1720) m j (nI bk) k = q_I h 154 k := fun k h1 h2 h3 => (pk_un h3).trans ((q_mvs_ne (by omega) (by omega) (by omega) h1 8 (Nat.le_refl _)).trans (n1 k h1 h2))
        have n3 : ∀ k, k < 72 → q_apR (q_cpy (q_I h 154) (q_I h 155) 1720) m j (nI bk) k = nI ((q_mN 8 m m f1 bk 8).1 k) := fun k hk => (pk_un (by omega)).trans (m3 k hk)
        have n4 : q_apR (q_cpy (q_I h 154) (q_I h 155) 1720) m j (nI bk) (210 + 5 * j + 4) = nI 1 := pk_us
        have hrw : rw_ok (i + 1) mo nm (q_apR (q_cpy (q_I h 154) (q_I h 155) 1720) m j (nI bk)) w E em ed ew ep (q_up ea j 1) (q_mN 8 m m f1 bk 8).1 := by
          obtain ⟨r1, r2, r3, r4, r5, r6, r7, r8, r9, r10⟩ := rw_
          refine ⟨(n2 _ (by omega) (by omega) (by omega)).trans r1, by omega, (n2 _ (by omega) (by omega) (by omega)).trans r3, r4, fun k h1 h2 => (n2 _ (by omega) (by omega) (by omega)).trans (r5 k h1 h2), fun k hk => ?_, n3, by omega, z2, fun k hk => (n2 _ (by omega) (by omega) (by omega)).trans (r10 k hk)⟩
          obtain ⟨c1, c2, c3, c4, c5, c6, c7, c8, c9⟩ := r6 k hk
          refine ⟨(n2 _ (by omega) (by omega) (by omega)).trans c1, (n2 _ (by omega) (by omega) (by omega)).trans c2, (n2 _ (by omega) (by omega) (by omega)).trans c3, (n2 _ (by omega) (by omega) (by omega)).trans c4, ?_, c6, c7, ?_, c9⟩
          · by_cases q : k = j
            · subst q
              rw [q_up_s]
              exact n4
            · rw [q_up_n q]
              exact (n2 _ (by omega) (by omega) (by omega)).trans c5
          · by_cases q : k = j
            · subst q
              rw [q_up_s]
              decide
            · rw [q_up_n q]
              exact c8
        have hsv : sv_ok h1 34 35 36 38 39 (q_apR (q_cpy (q_I h 154) (q_I h 155) 1720) m j (nI bk)) w E em ed ew ep (q_up ea j 1) := by
          refine ⟨by rw [q34]; exact sv.1, by rw [q34]; exact sv.2.1, fun k hk => ?_, fun k hk => by rw [q35, m4 k hk, n3 k hk], fun k hk => by rw [q36, sv.2.2.2.2 k hk, n2 _ (by omega) (by omega) (by omega)]⟩
          rw [q38, q39]
          refine ⟨?_, (sv.2.2.1 k hk).2⟩
          by_cases q : k = j
          · subst q
            rw [q_up_s, pk_us, hem]
          · rw [q_up_n q, pk_un q]
            exact (sv.2.2.1 k hk).1
        obtain ⟨k1, k2, k3⟩ := lk_base D.2.2.2.2 rw_ sv
        rw [ea_]
        exact ⟨nI bk, 2, by decide, rfl, hs1, q_Ct_post (fun r2 h2 q2 => ⟨q2.1, RR_act aS aT aP aW aZ aL aH aD u1 u2 u6 u7 aN D q2.2 ⟨w, E, _, _, _, _, _, _, hrw, hsv, fun k hk => by rw [q37, tm k hk, n2 _ (by omega) (by omega) (by omega)]⟩
          ⟨k1, k2, k3, E, E, hrw.2.2.1, hEr, Nat.le_refl _, hE2, Or.inr (Or.inr ⟨j, hj, D.2.2.2.2.2.2.2.1, D.2.2.2.2.2.2.2.2.2, fun k hk => (n2 _ (by omega) (by omega) (by omega)).symm, fun k hk hne => (n2 _ (by omega) (by omega) (by omega)).symm, by rw [← Nat.add_assoc]; exact b5, by rw [← Nat.add_assoc]; exact n4⟩)⟩⟩) c⟩
  · exact q_2q hR  (d2 := 2) (by decide) (by decide) (q_Ct_d (c_X9_appeal_f l g h hs hE1 hE2 hx)) (rfl) (fun h1 hk => by
    obtain ⟨hs1, aL1, er⟩ := rel_1 hk hs aL
    have e154 := er 154 (by decide)
    have e140 := er 140 (by decide)
    have e124 := er 124 (by decide)
    have c := c_X10_appeal_f l g h1 hs1 (E := E) (by rw [e154]; exact hEr) hE2 x hx
    (try simp only [e154, e140, e124] at c)
    exact q_Ct_m c)
