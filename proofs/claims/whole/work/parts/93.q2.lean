/-! questions: quilts, stuffers, counts; tests told and forgotten -/
theorem cnt11 {a b : Nat → Int32} (h : ∀ s, s < 3 → (a s = nI 0 ∧ b s = nI 0) ∨ (a s = nI 1 ∧ b s = nI 1)) : q_b01 (b 0) + q_b01 (b 1) + q_b01 (b 2) = nI (q_shl a 3) := by
  have e : ∀ n, q_shl a (n + 1) = if a n = 0 then q_shl a n else q_shl a n + 1 := fun n => rfl
  rw [e 2, e 1, e 0, show q_shl a 0 = 0 from rfl]
  rcases h 0 (by decide) with ⟨a0, b0⟩ | ⟨a0, b0⟩ <;> rcases h 1 (by decide) with ⟨a1, b1⟩ | ⟨a1, b1⟩ <;> rcases h 2 (by decide) with ⟨a2, b2⟩ | ⟨a2, b2⟩ <;> rw [a0, a1, a2, b0, b1, b2] <;> decide
theorem st_quilt (l : Launch) (g : q_GP) {i : Nat} {h : q_H} (hi : i ≤ 512) (hR : RR i h) (x z : Int32) : q_2 l g i h mX9_quilt [.ref 0, .int x, .int z] mX10_quilt [.ref 124, .int x, .int z] := by
  obtain ⟨aS, aT, aP, aW, aZ, p, nm, nd, nc, mo, n, lv, LW, gu, aL, aN, aU, aH, aD⟩ := id hR
  have hs := aS.1
  obtain ⟨hp, hLk, hm, hLm, aP3, aG, aC, aV⟩ := id aL
  have hnm : nm ≤ 8 := hp.2.2.2.2.2.1
  have hnd : nd ≤ 8 := hp.2.2.2.2.2.2.2.1
  have hq := rel_req aN
  have hC := sC_of aC
  obtain ⟨w, E, em, ed, ew, ep, ea, f, rw_, sv, tm⟩ := id aN
  have hwc : q_I h 34 6 = nI w := sv.1
  have hwr : q_I h 154 200 = nI w := rw_.1
  have hw2 : w < 2 ^ 19 := by have := rw_.2.1; omega
  have hw3 : w < 2 ^ 20 := by omega
  have hE1 : q_I h 34 5 = nI E := sv.2.1
  have hEr : q_I h 154 201 = nI E := rw_.2.2.1
  have hE2 : E ≤ 300 := rw_.2.2.2.1
  have hEE := rel_E (by omega) hnm rw_ sv
  have hrn := rw_.2.2.2.2.2.2.1
  have hns : q_ns f 72 < 2 ^ 30 := by have := rw_.2.2.2.2.2.2.2.1; omega
  have hs8 : ∀ k, k < 9 → q_s8 (q_cr h) (8 * k) = q_s8 (q_I h 154) (8 * k) := fun k hk => q_s8_rq hq (by omega)
  have hhv : ∀ k, k < 9 → q_s8 (q_I h 154) (8 * k) = nI (q_hv f k) ∧ q_hv f k < 2 ^ 30 := fun k hk => ⟨q_rn_s8 hrn hk, by have := q_hv_le f hk; omega⟩
  have hgu : ∀ d, d < nd → q_I h (p + 4) d = nI (gu d) ∧ gu d ≤ 99 := fun d hd => ⟨(aG d hd).1, (aG d hd).2.2⟩
  have hhc : ∀ m, m < nm → q_s8 (q_cr h) (8 * m) = nI (q_hv f m) ∧ q_hv f m < 2 ^ 30 := fun m hm => ⟨(hs8 m (by omega)).trans (hhv m (by omega)).1, (hhv m (by omega)).2⟩
  have hcm : ∀ m, m < nm → (fun m => q_cm (q_fi (q_cr h) (q_I h (p + 5)) LW 0 nc w m) (q_hv f m) nd) m = (fun m => q_cm (q_fi (q_I h 154) (q_I h 140) LW lv nc w m) (q_hv f m) nd) m := fun m hm => by
    funext s
    exact q_cm_co (fun d hd => fi_RC hq hC w (by omega) (by omega))
  have elg : ∀ k, q_lg nm (2 ^ nd) (fun s => q_sb gu s nd) (fun m => q_cm (q_fi (q_cr h) (q_I h (p + 5)) LW 0 nc w m) (q_hv f m) nd) nm k = q_lg nm (2 ^ nd) (fun s => q_sb gu s nd) (fun m => q_cm (q_fi (q_I h 154) (q_I h 140) LW lv nc w m) (q_hv f m) nd) nm k := fun k => lg_co (fun _ => rfl) hcm nm k (Nat.le_refl _)
  by_cases hx : (∃ k, 1 ≤ k ∧ k ≤ 400 ∧ x = nI k) ∧ ∃ k, 0 ≤ k ∧ k ≤ 1 ∧ z = nI k
  · obtain ⟨⟨k, hk1, hk4, rfl⟩, ⟨v, -, hv1, rfl⟩⟩ := hx
    by_cases hc : q_lg nm (2 ^ nd) (fun s => q_sb gu s nd) (fun m => q_cm (q_fi (q_cr h) (q_I h (p + 5)) LW 0 nc w m) (q_hv f m) nd) nm k < 1000000
    · rcases (by omega : v = 0 ∨ v = 1) with rfl | rfl
      · exact q_2q hR (v2 := nI (q_lg nm (2 ^ nd) (fun s => q_sb gu s nd) (fun m => q_cm (q_fi (q_I h 154) (q_I h 140) LW lv nc w m) (q_hv f m) nd) nm k)) (d2 := 5) (by decide) (by decide) (c_X9_quilt_0 l g h hs hp hLk hwc hw3 hgu hhc aZ.1 aZ.2.1 hk1 hk4 hc) (by rw [elg]) (fun h1 hk => by
    obtain ⟨hs1, aL1, er⟩ := rel_1 hk hs aL
    have e154 := er 154 (by decide)
    have e140 := er 140 (by decide)
    have e124 := er 124 (by decide)
    have hgr : ∀ d, d < nd → q_I h1 138 (8 * lv + d) = nI (gu d) ∧ gu d ≤ 99 := fun d hd => ⟨by rw [er 138 (by decide)]; exact (aG d hd).2.1, (aG d hd).2.2⟩
    have hhr : ∀ m, m < nm → q_s8 (q_I h1 154) (8 * m) = nI (q_hv f m) ∧ q_hv f m < 2 ^ 30 := fun m hm => by rw [e154]; exact hhv m (by omega)
    have c := c_X10_quilt_0 l g h1 hs1 aL1.2.2.1 aL1.2.2.2.1 (by rw [e154]; exact hwr) hw3 hgr hhr hk1 hk4 (by rw [e154, e140, ← elg]; exact hc)
    (try simp only [e154, e140, e124] at c)
    exact c)
      · exact q_2q hR (v2 := nI (q_qsum (fun m => (fun m => q_cm (q_fi (q_I h 154) (q_I h 140) LW lv nc w m) (q_hv f m) nd) m (q_chs nm (2 ^ nd) (fun s => q_sb gu s nd) (fun m => q_cm (q_fi (q_I h 154) (q_I h 140) LW lv nc w m) (q_hv f m) nd) k m)) nm)) (d2 := 5) (by decide) (by decide) (c_X9_quilt_1 l g h hs hp hLk hwc hw3 hgu hhc aZ.1 aZ.2.1 hk1 hk4 hc) (congrArg nI (qsum_co (fun m hm => by show (fun m => q_cm (q_fi (q_I h 154) (q_I h 140) LW lv nc w m) (q_hv f m) nd) m (q_chs nm (2 ^ nd) (fun s => q_sb gu s nd) (fun m => q_cm (q_fi (q_I h 154) (q_I h 140) LW lv nc w m) (q_hv f m) nd) k m) = (fun m => q_cm (q_fi (q_cr h) (q_I h (p + 5)) LW 0 nc w m) (q_hv f m) nd) m (q_chs nm (2 ^ nd) (fun s => q_sb gu s nd) (fun m => q_cm (q_fi (q_cr h) (q_I h (p + 5)) LW 0 nc w m) (q_hv f m) nd) k m); rw [hcm m hm, chs_co (fun _ => rfl) hcm k hm]))) (fun h1 hk => by
    obtain ⟨hs1, aL1, er⟩ := rel_1 hk hs aL
    have e154 := er 154 (by decide)
    have e140 := er 140 (by decide)
    have e124 := er 124 (by decide)
    have hgr : ∀ d, d < nd → q_I h1 138 (8 * lv + d) = nI (gu d) ∧ gu d ≤ 99 := fun d hd => ⟨by rw [er 138 (by decide)]; exact (aG d hd).2.1, (aG d hd).2.2⟩
    have hhr : ∀ m, m < nm → q_s8 (q_I h1 154) (8 * m) = nI (q_hv f m) ∧ q_hv f m < 2 ^ 30 := fun m hm => by rw [e154]; exact hhv m (by omega)
    have c := c_X10_quilt_1 l g h1 hs1 aL1.2.2.1 aL1.2.2.2.1 (by rw [e154]; exact hwr) hw3 hgr hhr hk1 hk4 (by rw [e154, e140, ← elg]; exact hc)
    (try simp only [e154, e140, e124] at c)
    exact c)
    · rcases (by omega : v = 0 ∨ v = 1) with rfl | rfl
      · exact q_2q hR  (d2 := 5) (by decide) (by decide) (c_X9_quilt_n0 l g h hs hp hLk hwc hw3 hgu hhc aZ.1 aZ.2.1 hk1 hk4 hc) (rfl) (fun h1 hk => by
    obtain ⟨hs1, aL1, er⟩ := rel_1 hk hs aL
    have e154 := er 154 (by decide)
    have e140 := er 140 (by decide)
    have e124 := er 124 (by decide)
    have hgr : ∀ d, d < nd → q_I h1 138 (8 * lv + d) = nI (gu d) ∧ gu d ≤ 99 := fun d hd => ⟨by rw [er 138 (by decide)]; exact (aG d hd).2.1, (aG d hd).2.2⟩
    have hhr : ∀ m, m < nm → q_s8 (q_I h1 154) (8 * m) = nI (q_hv f m) ∧ q_hv f m < 2 ^ 30 := fun m hm => by rw [e154]; exact hhv m (by omega)
    have c := c_X10_quilt_n0 l g h1 hs1 aL1.2.2.1 aL1.2.2.2.1 (by rw [e154]; exact hwr) hw3 hgr hhr hk1 hk4 (by rw [e154, e140, ← elg]; exact hc)
    (try simp only [e154, e140, e124] at c)
    exact c)
      · exact q_2q hR  (d2 := 5) (by decide) (by decide) (c_X9_quilt_n1 l g h hs hp hLk hwc hw3 hgu hhc aZ.1 aZ.2.1 hk1 hk4 hc) (rfl) (fun h1 hk => by
    obtain ⟨hs1, aL1, er⟩ := rel_1 hk hs aL
    have e154 := er 154 (by decide)
    have e140 := er 140 (by decide)
    have e124 := er 124 (by decide)
    have hgr : ∀ d, d < nd → q_I h1 138 (8 * lv + d) = nI (gu d) ∧ gu d ≤ 99 := fun d hd => ⟨by rw [er 138 (by decide)]; exact (aG d hd).2.1, (aG d hd).2.2⟩
    have hhr : ∀ m, m < nm → q_s8 (q_I h1 154) (8 * m) = nI (q_hv f m) ∧ q_hv f m < 2 ^ 30 := fun m hm => by rw [e154]; exact hhv m (by omega)
    have c := c_X10_quilt_n1 l g h1 hs1 aL1.2.2.1 aL1.2.2.2.1 (by rw [e154]; exact hwr) hw3 hgr hhr hk1 hk4 (by rw [e154, e140, ← elg]; exact hc)
    (try simp only [e154, e140, e124] at c)
    exact c)
  · exact q_2q hR  (d2 := 5) (by decide) (by decide) (q_Ct_d (c_X9_quilt_f l g h hs x z hx)) (rfl) (fun h1 hk => by
    obtain ⟨hs1, aL1, er⟩ := rel_1 hk hs aL
    have e154 := er 154 (by decide)
    have e140 := er 140 (by decide)
    have e124 := er 124 (by decide)
    have c := c_X10_quilt_f l g h1 hs1 aL1.2.2.1 x z hx
    (try simp only [e154, e140, e124] at c)
    exact q_Ct_m c)
theorem st_quiltOf (l : Launch) (g : q_GP) {i : Nat} {h : q_H} (hi : i ≤ 512) (hR : RR i h) (x z : Int32) : q_2 l g i h mX9_quiltOf [.ref 0, .int x, .int z] mX10_quiltOf [.ref 124, .int x, .int z] := by
  obtain ⟨aS, aT, aP, aW, aZ, p, nm, nd, nc, mo, n, lv, LW, gu, aL, aN, aU, aH, aD⟩ := id hR
  have hs := aS.1
  obtain ⟨hp, hLk, hm, hLm, aP3, aG, aC, aV⟩ := id aL
  have hnm : nm ≤ 8 := hp.2.2.2.2.2.1
  have hnd : nd ≤ 8 := hp.2.2.2.2.2.2.2.1
  have hq := rel_req aN
  have hC := sC_of aC
  obtain ⟨w, E, em, ed, ew, ep, ea, f, rw_, sv, tm⟩ := id aN
  have hwc : q_I h 34 6 = nI w := sv.1
  have hwr : q_I h 154 200 = nI w := rw_.1
  have hw2 : w < 2 ^ 19 := by have := rw_.2.1; omega
  have hw3 : w < 2 ^ 20 := by omega
  have hE1 : q_I h 34 5 = nI E := sv.2.1
  have hEr : q_I h 154 201 = nI E := rw_.2.2.1
  have hE2 : E ≤ 300 := rw_.2.2.2.1
  have hEE := rel_E (by omega) hnm rw_ sv
  have hrn := rw_.2.2.2.2.2.2.1
  have hns : q_ns f 72 < 2 ^ 30 := by have := rw_.2.2.2.2.2.2.2.1; omega
  have hs8 : ∀ k, k < 9 → q_s8 (q_cr h) (8 * k) = q_s8 (q_I h 154) (8 * k) := fun k hk => q_s8_rq hq (by omega)
  have hhv : ∀ k, k < 9 → q_s8 (q_I h 154) (8 * k) = nI (q_hv f k) ∧ q_hv f k < 2 ^ 30 := fun k hk => ⟨q_rn_s8 hrn hk, by have := q_hv_le f hk; omega⟩
  have hgu : ∀ d, d < nd → q_I h (p + 4) d = nI (gu d) ∧ gu d ≤ 99 := fun d hd => ⟨(aG d hd).1, (aG d hd).2.2⟩
  have hhc : ∀ m, m < nm → q_s8 (q_cr h) (8 * m) = nI (q_hv f m) ∧ q_hv f m < 2 ^ 30 := fun m hm => ⟨(hs8 m (by omega)).trans (hhv m (by omega)).1, (hhv m (by omega)).2⟩
  have hcm : ∀ m, m < nm → (fun m => q_cm (q_fi (q_cr h) (q_I h (p + 5)) LW 0 nc w m) (q_hv f m) nd) m = (fun m => q_cm (q_fi (q_I h 154) (q_I h 140) LW lv nc w m) (q_hv f m) nd) m := fun m hm => by
    funext s
    exact q_cm_co (fun d hd => fi_RC hq hC w (by omega) (by omega))
  have elg : ∀ k, q_lg nm (2 ^ nd) (fun s => q_sb gu s nd) (fun m => q_cm (q_fi (q_cr h) (q_I h (p + 5)) LW 0 nc w m) (q_hv f m) nd) nm k = q_lg nm (2 ^ nd) (fun s => q_sb gu s nd) (fun m => q_cm (q_fi (q_I h 154) (q_I h 140) LW lv nc w m) (q_hv f m) nd) nm k := fun k => lg_co (fun _ => rfl) hcm nm k (Nat.le_refl _)
  by_cases hx : (∃ k, 1 ≤ k ∧ k ≤ 400 ∧ x = nI k) ∧ q_isN z nm
  · obtain ⟨⟨k, hk1, hk4, rfl⟩, hz⟩ := hx
    obtain ⟨m, hm8, rfl⟩ := isN_e (by omega) hz
    by_cases hc : q_lg nm (2 ^ nd) (fun s => q_sb gu s nd) (fun m => q_cm (q_fi (q_cr h) (q_I h (p + 5)) LW 0 nc w m) (q_hv f m) nd) nm k < 1000000
    · exact q_2q hR (v2 := nI (q_chs nm (2 ^ nd) (fun s => q_sb gu s nd) (fun m => q_cm (q_fi (q_I h 154) (q_I h 140) LW lv nc w m) (q_hv f m) nd) k m)) (d2 := 5) (by decide) (by decide) (c_X9_quiltOf_t l g h hs hp hLk hwc hw3 hgu hhc aZ.1 aZ.2.1 hk1 hk4 hm8 hc) (by rw [chs_co (fun _ => rfl) hcm k hm8]) (fun h1 hk => by
    obtain ⟨hs1, aL1, er⟩ := rel_1 hk hs aL
    have e154 := er 154 (by decide)
    have e140 := er 140 (by decide)
    have e124 := er 124 (by decide)
    have hgr : ∀ d, d < nd → q_I h1 138 (8 * lv + d) = nI (gu d) ∧ gu d ≤ 99 := fun d hd => ⟨by rw [er 138 (by decide)]; exact (aG d hd).2.1, (aG d hd).2.2⟩
    have hhr : ∀ m, m < nm → q_s8 (q_I h1 154) (8 * m) = nI (q_hv f m) ∧ q_hv f m < 2 ^ 30 := fun m hm => by rw [e154]; exact hhv m (by omega)
    have c := c_X10_quiltOf_t l g h1 hs1 aL1.2.2.1 aL1.2.2.2.1 (by rw [e154]; exact hwr) hw3 hgr hhr hk1 hk4 hm8 (by rw [e154, e140, ← elg]; exact hc)
    (try simp only [e154, e140, e124] at c)
    exact c)
    · exact q_2q hR  (d2 := 5) (by decide) (by decide) (c_X9_quiltOf_n l g h hs hp hLk hwc hw3 hgu hhc aZ.1 aZ.2.1 hk1 hk4 hm8 hc) (rfl) (fun h1 hk => by
    obtain ⟨hs1, aL1, er⟩ := rel_1 hk hs aL
    have e154 := er 154 (by decide)
    have e140 := er 140 (by decide)
    have e124 := er 124 (by decide)
    have hgr : ∀ d, d < nd → q_I h1 138 (8 * lv + d) = nI (gu d) ∧ gu d ≤ 99 := fun d hd => ⟨by rw [er 138 (by decide)]; exact (aG d hd).2.1, (aG d hd).2.2⟩
    have hhr : ∀ m, m < nm → q_s8 (q_I h1 154) (8 * m) = nI (q_hv f m) ∧ q_hv f m < 2 ^ 30 := fun m hm => by rw [e154]; exact hhv m (by omega)
    have c := c_X10_quiltOf_n l g h1 hs1 aL1.2.2.1 aL1.2.2.2.1 (by rw [e154]; exact hwr) hw3 hgr hhr hk1 hk4 hm8 (by rw [e154, e140, ← elg]; exact hc)
    (try simp only [e154, e140, e124] at c)
    exact c)
  · exact q_2q hR  (d2 := 5) (by decide) (by decide) (q_Ct_d (c_X9_quiltOf_f l g h hs hp x z hx)) (rfl) (fun h1 hk => by
    obtain ⟨hs1, aL1, er⟩ := rel_1 hk hs aL
    have e154 := er 154 (by decide)
    have e140 := er 140 (by decide)
    have e124 := er 124 (by decide)
    have c := c_X10_quiltOf_f l g h1 hs1 aL1.2.2.1 x z hx
    (try simp only [e154, e140, e124] at c)
    exact q_Ct_m c)
theorem st_stuffer (l : Launch) (g : q_GP) {i : Nat} {h : q_H} (hi : i ≤ 512) (hR : RR i h) (x z y : Int32) : q_2 l g i h mX9_stuffer [.ref 0, .int x, .int z, .int y] mX10_stuffer [.ref 124, .int x, .int z, .int y] := by
  obtain ⟨aS, aT, aP, aW, aZ, p, nm, nd, nc, mo, n, lv, LW, gu, aL, aN, aU, aH, aD⟩ := id hR
  have hs := aS.1
  obtain ⟨hp, hLk, hm, hLm, aP3, aG, aC, aV⟩ := id aL
  have hnm : nm ≤ 8 := hp.2.2.2.2.2.1
  have hnd : nd ≤ 8 := hp.2.2.2.2.2.2.2.1
  have hq := rel_req aN
  have hC := sC_of aC
  obtain ⟨w, E, em, ed, ew, ep, ea, f, rw_, sv, tm⟩ := id aN
  have hwc : q_I h 34 6 = nI w := sv.1
  have hwr : q_I h 154 200 = nI w := rw_.1
  have hw2 : w < 2 ^ 19 := by have := rw_.2.1; omega
  have hw3 : w < 2 ^ 20 := by omega
  have hE1 : q_I h 34 5 = nI E := sv.2.1
  have hEr : q_I h 154 201 = nI E := rw_.2.2.1
  have hE2 : E ≤ 300 := rw_.2.2.2.1
  have hEE := rel_E (by omega) hnm rw_ sv
  have hrn := rw_.2.2.2.2.2.2.1
  have hns : q_ns f 72 < 2 ^ 30 := by have := rw_.2.2.2.2.2.2.2.1; omega
  have hs8 : ∀ k, k < 9 → q_s8 (q_cr h) (8 * k) = q_s8 (q_I h 154) (8 * k) := fun k hk => q_s8_rq hq (by omega)
  have hhv : ∀ k, k < 9 → q_s8 (q_I h 154) (8 * k) = nI (q_hv f k) ∧ q_hv f k < 2 ^ 30 := fun k hk => ⟨q_rn_s8 hrn hk, by have := q_hv_le f hk; omega⟩
  obtain ⟨told, td1, td2, td3, td4⟩ := id aD
  have td5 : ∀ h1, q_I h1 124 = q_I h 124 → q_I h1 124 62 = nI told := fun h1 e => by rw [e]; exact td3
  by_cases hx : ∃ k, 1 ≤ k ∧ k ≤ 200 ∧ x = nI k
  · obtain ⟨most, hm1, hm2, rfl⟩ := hx
    by_cases hz : ∃ k, 0 ≤ k ∧ k ≤ told ∧ z = nI k
    · obtain ⟨k, -, hkt, rfl⟩ := hz
      by_cases hy : -1 ≤ y
      · exact q_2q hR (v2 := q_stf (q_cpy (q_I h 154) (q_I h 155) 210) (q_I h 166) (q_I h 167) nm most k y) (d2 := 2) (by decide) (by decide) (q_Ct_k (c_X9_stuffer_t l g h hs hp td2 td1 (fun j hj => (td4 j hj).2.2) most k y hm1 hm2 hkt hy)) (stf_co (fun k hk => (if_pos hk : q_cpy (q_I h 154) (q_I h 155) 210 k = q_I h 154 k).trans (hq k hk).symm) hnm (fun j hj => ⟨(td4 j (by omega)).1.symm, (td4 j (by omega)).2.1.symm⟩)) (fun h1 hk => by
    obtain ⟨hs1, aL1, er⟩ := rel_1 hk hs aL
    have e154 := er 154 (by decide)
    have e140 := er 140 (by decide)
    have e124 := er 124 (by decide)
    have e155 : q_cpy (q_I h1 154) (q_I h1 155) 210 = q_cpy (q_I h 154) (q_I h 155) 210 := by rw [er 154 (by decide), er 155 (by decide)]
    have c := c_X10_stuffer_t l g h1 hs1 aL1.2.2.1 (told := told) (td5 h1 e124) td1 most k y hm1 hm2 hkt hy
    (try simp only [e154, e140, e124] at c)
    rw [er 155 (by decide), er 166 (by decide), er 167 (by decide)] at c
    exact q_Ct_post (fun r h2 q => ⟨q.1, by rw [q.2]; exact q_mag_w (q_mag_r h1) _ rfl (by decide)⟩) c)
      · exact q_2q hR  (d2 := 2) (by decide) (by decide) (q_Ct_d (c_X9_stuffer_c l g h hs hp td2 td1 hm1 hm2 hkt y hy)) (rfl) (fun h1 hk => by
    obtain ⟨hs1, aL1, er⟩ := rel_1 hk hs aL
    have e154 := er 154 (by decide)
    have e140 := er 140 (by decide)
    have e124 := er 124 (by decide)
    have c := c_X10_stuffer_c l g h1 hs1 aL1.2.2.1 (told := told) (td5 h1 e124) td1 most k y hm1 hm2 hkt hy
    (try simp only [e154, e140, e124] at c)
    exact q_Ct_m c)
    · exact q_2q hR  (d2 := 2) (by decide) (by decide) (q_Ct_d (c_X9_stuffer_b l g h hs hp td2 td1 hm1 hm2 z y hz)) (rfl) (fun h1 hk => by
    obtain ⟨hs1, aL1, er⟩ := rel_1 hk hs aL
    have e154 := er 154 (by decide)
    have e140 := er 140 (by decide)
    have e124 := er 124 (by decide)
    have c := c_X10_stuffer_b l g h1 hs1 aL1.2.2.1 (told := told) (td5 h1 e124) td1 most hm1 hm2 z y hz
    (try simp only [e154, e140, e124] at c)
    exact q_Ct_m c)
  · exact q_2q hR  (d2 := 2) (by decide) (by decide) (q_Ct_d (c_X9_stuffer_a l g h hs hp td2 td1 x z y hx)) (rfl) (fun h1 hk => by
    obtain ⟨hs1, aL1, er⟩ := rel_1 hk hs aL
    have e154 := er 154 (by decide)
    have e140 := er 140 (by decide)
    have e124 := er 124 (by decide)
    have c := c_X10_stuffer_a l g h1 hs1 aL1.2.2.1 (told := told) (td5 h1 e124) td1 x z y hx
    (try simp only [e154, e140, e124] at c)
    exact q_Ct_m c)
theorem st_count (l : Launch) (g : q_GP) {i : Nat} {h : q_H} (hi : i ≤ 512) (hR : RR i h) (x : Int32) : q_2 l g i h mX9_count [.ref 0, .int x] mX10_count [.ref 124, .int x] := by
  obtain ⟨aS, aT, aP, aW, aZ, p, nm, nd, nc, mo, n, lv, LW, gu, aL, aN, aU, aH, aD⟩ := id hR
  have hs := aS.1
  obtain ⟨hp, hLk, hm, hLm, aP3, aG, aC, aV⟩ := id aL
  have hnm : nm ≤ 8 := hp.2.2.2.2.2.1
  have hnd : nd ≤ 8 := hp.2.2.2.2.2.2.2.1
  have hq := rel_req aN
  have hC := sC_of aC
  obtain ⟨w, E, em, ed, ew, ep, ea, f, rw_, sv, tm⟩ := id aN
  have hwc : q_I h 34 6 = nI w := sv.1
  have hwr : q_I h 154 200 = nI w := rw_.1
  have hw2 : w < 2 ^ 19 := by have := rw_.2.1; omega
  have hw3 : w < 2 ^ 20 := by omega
  have hE1 : q_I h 34 5 = nI E := sv.2.1
  have hEr : q_I h 154 201 = nI E := rw_.2.2.1
  have hE2 : E ≤ 300 := rw_.2.2.2.1
  have hEE := rel_E (by omega) hnm rw_ sv
  have hrn := rw_.2.2.2.2.2.2.1
  have hns : q_ns f 72 < 2 ^ 30 := by have := rw_.2.2.2.2.2.2.2.1; omega
  have hs8 : ∀ k, k < 9 → q_s8 (q_cr h) (8 * k) = q_s8 (q_I h 154) (8 * k) := fun k hk => q_s8_rq hq (by omega)
  have hhv : ∀ k, k < 9 → q_s8 (q_I h 154) (8 * k) = nI (q_hv f k) ∧ q_hv f k < 2 ^ 30 := fun k hk => ⟨q_rn_s8 hrn hk, by have := q_hv_le f hk; omega⟩
  obtain ⟨t, tt1, tt2, tt3, -⟩ := id aT
  obtain ⟨u, x0, uu1, uu2, uu3, uu4, -⟩ := id aU
  obtain ⟨told, td1, td2, td3, -⟩ := id aD
  have h01 := fun s hs => (aH.1 s hs).2
  by_cases hx : ∃ k, 0 ≤ k ∧ k ≤ 11 ∧ x = nI k
  · obtain ⟨k, -, hk, rfl⟩ := hx
    rcases (by omega : k = 0 ∨ k = 1 ∨ k = 2 ∨ k = 3 ∨ k = 4 ∨ k = 5 ∨ k = 6 ∨ k = 7 ∨ k = 8 ∨ k = 9 ∨ k = 10 ∨ k = 11) with rfl | rfl | rfl | rfl | rfl | rfl | rfl | rfl | rfl | rfl | rfl | rfl
    · exact q_2q hR (v2 := nI nm) (d2 := 2) (by decide) (by decide) (q_Ct_d (c_X9_count_0 l g h hs hp)) (rfl) (fun h1 hk => by
    obtain ⟨hs1, aL1, er⟩ := rel_1 hk hs aL
    have e154 := er 154 (by decide)
    have e140 := er 140 (by decide)
    have e124 := er 124 (by decide)
    have c := c_X10_count_0 l g h1 hs1 aL1.2.2.1
    (try simp only [e154, e140, e124] at c)
    exact c)
    · exact q_2q hR (v2 := nI nd) (d2 := 2) (by decide) (by decide) (q_Ct_d (c_X9_count_1 l g h hs hp)) (rfl) (fun h1 hk => by
    obtain ⟨hs1, aL1, er⟩ := rel_1 hk hs aL
    have e154 := er 154 (by decide)
    have e140 := er 140 (by decide)
    have e124 := er 124 (by decide)
    have c := c_X10_count_1 l g h1 hs1 aL1.2.2.1
    (try simp only [e154, e140, e124] at c)
    exact c)
    · exact q_2q hR (v2 := q_I h 154 200) (d2 := 2) (by decide) (by decide) (q_Ct_d (c_X9_count_2 l g h hs hp)) (hwr.trans hwc.symm) (fun h1 hk => by
    obtain ⟨hs1, aL1, er⟩ := rel_1 hk hs aL
    have e154 := er 154 (by decide)
    have e140 := er 140 (by decide)
    have e124 := er 124 (by decide)
    have c := c_X10_count_2 l g h1 hs1 aL1.2.2.1
    (try simp only [e154, e140, e124] at c)
    exact c)
    · exact q_2q hR (v2 := q_s8 (q_I h 154) 64) (d2 := 2) (by decide) (by decide) (q_Ct_d (c_X9_count_3 l g h hs hp)) ((hs8 8 (by decide)).symm) (fun h1 hk => by
    obtain ⟨hs1, aL1, er⟩ := rel_1 hk hs aL
    have e154 := er 154 (by decide)
    have e140 := er 140 (by decide)
    have e124 := er 124 (by decide)
    have c := c_X10_count_3 l g h1 hs1 aL1.2.2.1
    (try simp only [e154, e140, e124] at c)
    exact c)
    · exact q_2q hR (v2 := q_sum (fun k => q_s8 (q_I h 154) (8 * k)) 8) (d2 := 2) (by decide) (by decide) (q_Ct_d (c_X9_count_4 l g h hs hp)) (by
      have e : q_sum (fun k => q_s8 (q_I h 154) (8 * k)) (nm + (8 - nm)) = q_sum (fun k => q_s8 (q_I h 154) (8 * k)) nm := sum_ext0 (8 - nm) (fun k h1 h2 => by
        show q_s8 (q_I h 154) (8 * k) = 0
        rw [(hhv k (by omega)).1, show q_hv f k = 0 from (q_ns_co (fun j hj => (rw_.2.2.2.2.2.2.2.2.1 (8 * k + j) (by omega) (by omega)))).trans (by decide : q_ns (fun _ => 0) 8 = 0)]
        rfl)
      rw [show nm + (8 - nm) = 8 by omega] at e
      rw [e]
      exact q_sum_co (fun k hk => (hs8 k (by omega)).symm)) (fun h1 hk => by
    obtain ⟨hs1, aL1, er⟩ := rel_1 hk hs aL
    have e154 := er 154 (by decide)
    have e140 := er 140 (by decide)
    have e124 := er 124 (by decide)
    have c := c_X10_count_4 l g h1 hs1 aL1.2.2.1
    (try simp only [e154, e140, e124] at c)
    exact c)
    · exact q_2q hR (v2 := q_I h 154 201) (d2 := 2) (by decide) (by decide) (q_Ct_d (c_X9_count_5 l g h hs hp)) (hEr.trans hE1.symm) (fun h1 hk => by
    obtain ⟨hs1, aL1, er⟩ := rel_1 hk hs aL
    have e154 := er 154 (by decide)
    have e140 := er 140 (by decide)
    have e124 := er 124 (by decide)
    have c := c_X10_count_5 l g h1 hs1 aL1.2.2.1
    (try simp only [e154, e140, e124] at c)
    exact c)
    · exact q_2q hR (v2 := nI nc) (d2 := 2) (by decide) (by decide) (q_Ct_d (c_X9_count_6 l g h hs hp)) (rfl) (fun h1 hk => by
    obtain ⟨hs1, aL1, er⟩ := rel_1 hk hs aL
    have e154 := er 154 (by decide)
    have e140 := er 140 (by decide)
    have e124 := er 124 (by decide)
    have c := c_X10_count_6 l g h1 hs1 aL1.2.2.1
    (try simp only [e154, e140, e124] at c)
    exact c)
    · exact q_2q hR (v2 := nI mo) (d2 := 2) (by decide) (by decide) (q_Ct_d (c_X9_count_7 l g h hs hp)) (rfl) (fun h1 hk => by
    obtain ⟨hs1, aL1, er⟩ := rel_1 hk hs aL
    have e154 := er 154 (by decide)
    have e140 := er 140 (by decide)
    have e124 := er 124 (by decide)
    have c := c_X10_count_7 l g h1 hs1 aL1.2.2.1
    (try simp only [e154, e140, e124] at c)
    exact c)
    · exact q_2q hR (v2 := q_I h 124 2) (d2 := 2) (by decide) (by decide) (q_Ct_d (c_X9_count_8 l g h hs hp)) (tt3.trans tt2.symm) (fun h1 hk => by
    obtain ⟨hs1, aL1, er⟩ := rel_1 hk hs aL
    have e154 := er 154 (by decide)
    have e140 := er 140 (by decide)
    have e124 := er 124 (by decide)
    have c := c_X10_count_8 l g h1 hs1 aL1.2.2.1
    (try simp only [e154, e140, e124] at c)
    exact c)
    · exact q_2q hR (v2 := q_I h 124 51) (d2 := 2) (by decide) (by decide) (q_Ct_d (c_X9_count_9 l g h hs hp)) (uu3.trans uu4.symm) (fun h1 hk => by
    obtain ⟨hs1, aL1, er⟩ := rel_1 hk hs aL
    have e154 := er 154 (by decide)
    have e140 := er 140 (by decide)
    have e124 := er 124 (by decide)
    have c := c_X10_count_9 l g h1 hs1 aL1.2.2.1
    (try simp only [e154, e140, e124] at c)
    exact c)
    · exact q_2q hR (v2 := q_I h 124 62) (d2 := 2) (by decide) (by decide) (q_Ct_d (c_X9_count_10 l g h hs hp)) (td3.trans td2.symm) (fun h1 hk => by
    obtain ⟨hs1, aL1, er⟩ := rel_1 hk hs aL
    have e154 := er 154 (by decide)
    have e140 := er 140 (by decide)
    have e124 := er 124 (by decide)
    have c := c_X10_count_10 l g h1 hs1 aL1.2.2.1
    (try simp only [e154, e140, e124] at c)
    exact c)
    · exact q_2q hR (v2 := q_b01 (q_I h 168 0) + q_b01 (q_I h 168 1) + q_b01 (q_I h 168 2)) (d2 := 2) (by decide) (by decide) (q_Ct_d (c_X9_count_11 l g h hs hp)) (cnt11 (fun s hs => (h01 s hs).elim (fun a => Or.inl a) (fun a => Or.inr ⟨a.1, a.2.1⟩))) (fun h1 hk => by
    obtain ⟨hs1, aL1, er⟩ := rel_1 hk hs aL
    have e154 := er 154 (by decide)
    have e140 := er 140 (by decide)
    have e124 := er 124 (by decide)
    have c := c_X10_count_11 l g h1 hs1 aL1.2.2.1
    rw [er 168 (by decide)] at c
    (try simp only [e154, e140, e124] at c)
    exact c)
  · exact q_2q hR  (d2 := 2) (by decide) (by decide) (q_Ct_d (c_X9_count_b l g h hs x (sw_n (by decide) hx))) (rfl) (fun h1 hk => by
    obtain ⟨hs1, aL1, er⟩ := rel_1 hk hs aL
    have e154 := er 154 (by decide)
    have e140 := er 140 (by decide)
    have e124 := er 124 (by decide)
    have c := c_X10_count_b l g h1 hs1 aL1.2.2.1 x (sw_n (by decide) hx)
    (try simp only [e154, e140, e124] at c)
    exact c)
theorem st_tell (l : Launch) (g : q_GP) {i : Nat} {h : q_H} (hi : i ≤ 512) (hR : RR i h) (x z : Int32) : q_2 l g i h mX9_tell [.ref 0, .int x, .int z] mX10_tell_ [.ref 124, .int x, .int z] := by
  obtain ⟨aS, aT, aP, aW, aZ, p, nm, nd, nc, mo, n, lv, LW, gu, aL, aN, aU, aH, aD⟩ := id hR
  have hs := aS.1
  obtain ⟨hp, hLk, hm, hLm, aP3, aG, aC, aV⟩ := id aL
  have hnm : nm ≤ 8 := hp.2.2.2.2.2.1
  have hnd : nd ≤ 8 := hp.2.2.2.2.2.2.2.1
  have hq := rel_req aN
  have hC := sC_of aC
  obtain ⟨w, E, em, ed, ew, ep, ea, f, rw_, sv, tm⟩ := id aN
  have hwc : q_I h 34 6 = nI w := sv.1
  have hwr : q_I h 154 200 = nI w := rw_.1
  have hw2 : w < 2 ^ 19 := by have := rw_.2.1; omega
  have hw3 : w < 2 ^ 20 := by omega
  have hE1 : q_I h 34 5 = nI E := sv.2.1
  have hEr : q_I h 154 201 = nI E := rw_.2.2.1
  have hE2 : E ≤ 300 := rw_.2.2.2.1
  have hEE := rel_E (by omega) hnm rw_ sv
  have hrn := rw_.2.2.2.2.2.2.1
  have hns : q_ns f 72 < 2 ^ 30 := by have := rw_.2.2.2.2.2.2.2.1; omega
  have hs8 : ∀ k, k < 9 → q_s8 (q_cr h) (8 * k) = q_s8 (q_I h 154) (8 * k) := fun k hk => q_s8_rq hq (by omega)
  have hhv : ∀ k, k < 9 → q_s8 (q_I h 154) (8 * k) = nI (q_hv f k) ∧ q_hv f k < 2 ^ 30 := fun k hk => ⟨q_rn_s8 hrn hk, by have := q_hv_le f hk; omega⟩
  obtain ⟨told, td1, td2, td3, td4⟩ := id aD
  have td5 : ∀ h1, q_I h1 124 = q_I h 124 → q_I h1 124 62 = nI told := fun h1 e => by rw [e]; exact td3
  by_cases h20 : told = 20
  · subst h20
    exact q_2q hR  (d2 := 1) (by decide) (by decide) (q_Ct_d (c_X9_tell_20 l g h hs hp x z td2)) (rfl) (fun h1 hk => by
    obtain ⟨hs1, aL1, er⟩ := rel_1 hk hs aL
    have e154 := er 154 (by decide)
    have e140 := er 140 (by decide)
    have e124 := er 124 (by decide)
    have c := c_X10_tell_20 l g h1 hs1 aL1.2.2.1 x z (td5 h1 e124)
    (try simp only [e154, e140, e124] at c)
    exact q_Ct_m c)
  · by_cases hx : ∃ k, 1 ≤ k ∧ k ≤ 2 ^ nm - 1 ∧ x = nI k
    · obtain ⟨s, s1, s2, rfl⟩ := hx
      by_cases hz : ∃ k, 0 ≤ k ∧ k ≤ 9999 ∧ z = nI k
      · obtain ⟨k, -, hk, rfl⟩ := hz
        refine ⟨0, _, by decide, c_X9_tell_t l g h hs hp td2 td1 s k s1 s2 hk (by omega), fun r h1 q => ?_⟩
        obtain ⟨rfl, e1⟩ := q
        have aL1 : RLW h1 p nm nd nc mo n lv LW gu := by
          rw [e1]
          exact RLW_k (h := h) rfl (fun r r1 r2 r3 r4 => by repeat (first | exact rfl | refine (q_Ine (by omega)).trans ?_)) rfl (fun r r1 r2 => by repeat (first | exact rfl | refine (q_Ine (by omega)).trans ?_)) aL
        refine ⟨nI told, 1, by decide, rfl, by rw [e1]; exact hs, q_Ct_post (fun r2 h2 q => ?_) (c_X10_tell_t l g h1 (by rw [e1]; exact hs) aL1.2.2.1 (t := told) (by rw [e1]; exact td3) td1 s k s1 s2 hk (by omega))⟩
        obtain ⟨rfl, rfl⟩ := q
        subst e1
        refine ⟨rfl, ⟨RS_up (RS_k (h := h) rfl aS), RT_k (h := h) rfl rfl rfl rfl aT, RP_k (h := h) rfl rfl aP, RW_k (h := h) rfl rfl aW, aZ, p, nm, nd, nc, mo, n, lv, LW, gu, RLW_k (h := h) rfl (fun r r1 r2 r3 r4 => by repeat (first | exact rfl | refine (q_Ine (by omega)).trans ?_)) rfl (fun r r1 r2 => by repeat (first | exact rfl | refine (q_Ine (by omega)).trans ?_)) aL, RN_up (RN_k (h := h) (fun r r1 r2 => by repeat (first | exact rfl | refine (q_Ine (by omega)).trans ?_)) rfl aN), RU_up (RU_k (h := h) rfl rfl (fun r r1 r2 => by repeat (first | exact rfl | refine (q_Ine (by omega)).trans ?_)) rfl rfl aU), RH_up (RH_k (h := h) rfl (fun b hb => ⟨sl_k hb rfl, fun r r1 r2 => by have := hb.2.2.2.2.2.2.2.2.2.2; repeat (first | exact rfl | refine (q_Ine (by omega)).trans ?_)⟩) rfl rfl rfl aH), ?_⟩⟩
        refine ⟨told + 1, by omega, rfl, rfl, fun j hj => ?_⟩
        show upd (q_I h 95) told (nI s) j = upd (q_I h 166) told (nI s) j ∧ upd (q_I h 96) told (nI k) j = upd (q_I h 167) told (nI k) j ∧ ∃ s', s' < 2 ^ nm ∧ upd (q_I h 95) told (nI s) j = nI s'
        by_cases hjt : j = told
        · subst hjt
          exact ⟨(if_pos rfl : upd (q_I h 95) j (nI s) j = nI s).trans (if_pos rfl : upd (q_I h 166) j (nI s) j = nI s).symm, (if_pos rfl : upd (q_I h 96) j (nI k) j = nI k).trans (if_pos rfl : upd (q_I h 167) j (nI k) j = nI k).symm, s, by omega, if_pos rfl⟩
        · obtain ⟨b1, b2, s', b3, b4⟩ := td4 j (by omega)
          exact ⟨(pk_un hjt).trans (b1.trans (pk_un hjt).symm), (pk_un hjt).trans (b2.trans (pk_un hjt).symm), s', b3, (pk_un hjt).trans b4⟩
      · exact q_2q hR  (d2 := 1) (by decide) (by decide) (q_Ct_d (c_X9_tell_g l g h hs hp td2 td1 s z s1 s2 hz)) (rfl) (fun h1 hk => by
    obtain ⟨hs1, aL1, er⟩ := rel_1 hk hs aL
    have e154 := er 154 (by decide)
    have e140 := er 140 (by decide)
    have e124 := er 124 (by decide)
    have c := c_X10_tell_g l g h1 hs1 aL1.2.2.1 (td5 h1 e124) td1 s z s1 s2 (by omega) hz
    (try simp only [e154, e140, e124] at c)
    exact q_Ct_m c)
    · exact q_2q hR  (d2 := 1) (by decide) (by decide) (q_Ct_d (c_X9_tell_f l g h hs hp td2 td1 x z hx)) (rfl) (fun h1 hk => by
    obtain ⟨hs1, aL1, er⟩ := rel_1 hk hs aL
    have e154 := er 154 (by decide)
    have e140 := er 140 (by decide)
    have e124 := er 124 (by decide)
    have c := c_X10_tell_f l g h1 hs1 aL1.2.2.1 (td5 h1 e124) td1 x z (by omega) hx
    (try simp only [e154, e140, e124] at c)
    exact q_Ct_m c)
theorem st_forget (l : Launch) (g : q_GP) {i : Nat} {h : q_H} (hi : i ≤ 512) (hR : RR i h) : q_2 l g i h mX9_forget [.ref 0] mX10_forget [.ref 124] := by
  obtain ⟨aS, aT, aP, aW, aZ, p, nm, nd, nc, mo, n, lv, LW, gu, aL, aN, aU, aH, aD⟩ := id hR
  have hs := aS.1
  obtain ⟨hp, hLk, hm, hLm, aP3, aG, aC, aV⟩ := id aL
  have hnm : nm ≤ 8 := hp.2.2.2.2.2.1
  have hnd : nd ≤ 8 := hp.2.2.2.2.2.2.2.1
  have hq := rel_req aN
  have hC := sC_of aC
  obtain ⟨w, E, em, ed, ew, ep, ea, f, rw_, sv, tm⟩ := id aN
  have hwc : q_I h 34 6 = nI w := sv.1
  have hwr : q_I h 154 200 = nI w := rw_.1
  have hw2 : w < 2 ^ 19 := by have := rw_.2.1; omega
  have hw3 : w < 2 ^ 20 := by omega
  have hE1 : q_I h 34 5 = nI E := sv.2.1
  have hEr : q_I h 154 201 = nI E := rw_.2.2.1
  have hE2 : E ≤ 300 := rw_.2.2.2.1
  have hEE := rel_E (by omega) hnm rw_ sv
  have hrn := rw_.2.2.2.2.2.2.1
  have hns : q_ns f 72 < 2 ^ 30 := by have := rw_.2.2.2.2.2.2.2.1; omega
  have hs8 : ∀ k, k < 9 → q_s8 (q_cr h) (8 * k) = q_s8 (q_I h 154) (8 * k) := fun k hk => q_s8_rq hq (by omega)
  have hhv : ∀ k, k < 9 → q_s8 (q_I h 154) (8 * k) = nI (q_hv f k) ∧ q_hv f k < 2 ^ 30 := fun k hk => ⟨q_rn_s8 hrn hk, by have := q_hv_le f hk; omega⟩
  obtain ⟨told, td1, td2, td3, td4⟩ := id aD
  refine ⟨0, _, by decide, c_X9_forget l g h hs, fun r h1 q => ?_⟩
  obtain ⟨rfl, rfl⟩ := q
  refine ⟨nI told, 0, by decide, by rw [td2], by exact hs, q_Ct_post (fun r2 h2 q => ?_) (c_X10_forget l g _ (by exact hs))⟩
  obtain ⟨rfl, rfl⟩ := q
  refine ⟨congrArg (fun v => some (Value.int v)) (show q_I h 124 62 = nI told from td3), ⟨RS_up (RS_k (h := h) rfl aS), RT_k (h := h) rfl rfl rfl rfl aT, RP_k (h := h) rfl rfl aP, RW_k (h := h) rfl rfl aW, aZ, p, nm, nd, nc, mo, n, lv, LW, gu, RLW_k (h := h) rfl (fun r r1 r2 r3 r4 => by repeat (first | exact rfl | refine (q_Ine (by omega)).trans ?_)) rfl (fun r r1 r2 => by repeat (first | exact rfl | refine (q_Ine (by omega)).trans ?_)) aL, RN_up (RN_k (h := h) (fun r r1 r2 => by repeat (first | exact rfl | refine (q_Ine (by omega)).trans ?_)) rfl aN), RU_up (RU_k (h := h) rfl rfl (fun r r1 r2 => by repeat (first | exact rfl | refine (q_Ine (by omega)).trans ?_)) rfl rfl aU), RH_up (RH_k (h := h) rfl (fun b hb => ⟨sl_k hb rfl, fun r r1 r2 => by have := hb.2.2.2.2.2.2.2.2.2.2; repeat (first | exact rfl | refine (q_Ine (by omega)).trans ?_)⟩) rfl rfl rfl aH), ⟨0, by decide, rfl, rfl, fun j hj => absurd hj (Nat.not_lt_zero _)⟩⟩⟩
