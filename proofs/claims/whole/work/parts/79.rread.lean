/-! the reference: read -/
theorem tz_by8 (x : Int32) : x.toInt8.toInt32 &&& nI 255 = x &&& nI 255 := by
  apply Int32.toBitVec_inj.mp
  rw [Int32.toBitVec_and, Int32.toBitVec_and]
  rw [Int8.toBitVec_toInt32, Int32.toBitVec_toInt8, show (nI 255).toBitVec = 255#32 from by decide +kernel]
  apply BitVec.eq_of_getLsbD_eq
  intro i hi
  rw [BitVec.getLsbD_and, BitVec.getLsbD_and, BitVec.getLsbD_signExtend]
  by_cases h : i < 8
  · rw [if_pos h, BitVec.getLsbD_signExtend, if_pos hi, decide_eq_true h, decide_eq_true hi, Bool.true_and, Bool.true_and]
  · have e : (255#32).getLsbD i = false := by
      have H : ∀ i, i < 32 → ¬ i < 8 → (255#32).getLsbD i = false := by decide
      exact H i hi h
    rw [e, Bool.and_false, Bool.and_false]
/-- a byte as a number -/
def tb_y (x : Int32) : Nat := (x.toBitVec &&& 255#32).toNat
theorem tb_y_e (x : Int32) : x &&& nI 255 = nI (tb_y x) := by
  apply Int32.toBitVec_inj.mp
  rw [Int32.toBitVec_and]
  show x.toBitVec &&& 255#32 = BitVec.ofNat 32 (x.toBitVec &&& 255#32).toNat
  rw [BitVec.ofNat_toNat, BitVec.setWidth_eq]
theorem tb_y_lt (x : Int32) : tb_y x < 256 := by
  unfold tb_y
  rw [BitVec.toNat_and]
  exact Nat.lt_succ_of_le Nat.and_le_right
/-- what a text leaves alone -/
def q_rd (sd : Nat) (h0 h : q_H) : Prop := h.2.2 = h0.2.2 ∧ (∀ r, r ≠ 130 → r ≠ 132 → q_J h r = q_J h0 r) ∧ ∀ r i, q_os sd r i → r ≠ 126 → r ≠ 127 → r ≠ 128 → r ≠ 129 → (r = 124 → i ≠ 2 ∧ i ≠ 4 ∧ i ≠ 10 ∧ i ≠ 17 ∧ i ≠ 19) → q_I h r i = q_I h0 r i
theorem rd_t {sd : Nat} {h0 h h1 : q_H} (a : q_rd sd h0 h) (b : q_rd sd h h1) : q_rd sd h0 h1 := ⟨b.1.trans a.1, fun r x y => (b.2.1 r x y).trans (a.2.1 r x y), fun r i x x1 x2 x3 x4 x5 => (b.2.2 r i x x1 x2 x3 x4 x5).trans (a.2.2 r i x x1 x2 x3 x4 x5)⟩
theorem rd_rt {sd : Nat} {h0 h : q_H} (a : q_rt sd h0 h) : q_rd sd h0 h := ⟨a.1, fun r _ y => a.2.1 r y, fun r i x _ _ _ _ _ => a.2.2 r i x⟩
theorem rd_r {sd : Nat} {h0 : q_H} : q_rd sd h0 h0 := ⟨rfl, fun _ _ _ => rfl, fun _ _ _ _ _ _ _ _ => rfl⟩
theorem rd_f {sd r0 : Nat} {h0 h : q_H} {f : Nat → Int32} (a : q_rd sd h0 h) (hf : ∀ i, q_os sd r0 i → r0 ≠ 126 → r0 ≠ 127 → r0 ≠ 128 → r0 ≠ 129 → (r0 = 124 → i ≠ 2 ∧ i ≠ 4 ∧ i ≠ 10 ∧ i ≠ 17 ∧ i ≠ 19) → f i = q_I h r0 i) : q_rd sd h0 (q_wI h r0 f) := ⟨a.1, a.2.1, fun r i x x1 x2 x3 x4 x5 => by
  by_cases hr : r = r0
  · subst hr
    rw [q_Iw]
    exact (hf i x x1 x2 x3 x4 x5).trans (a.2.2 r i x x1 x2 x3 x4 x5)
  · rw [q_Ine hr]
    exact a.2.2 r i x x1 x2 x3 x4 x5⟩
theorem rd_w {sd r0 j : Nat} {v : Int32} {h0 h : q_H} (a : q_rd sd h0 h) (hj : (q_os sd r0 j → False) ∨ (r0 = 124 ∧ (j = 2 ∨ j = 4 ∨ j = 10 ∨ j = 17 ∨ j = 19))) : q_rd sd h0 (q_wI h r0 (upd (q_I h r0) j v)) := rd_f a (fun i hi _ _ _ _ x5 => pk_un (fun q => by
  subst q
  rcases hj with z | ⟨z1, z2⟩
  · exact z hi
  · have := x5 z1
    omega))
/-- now, when a text has been taken -/
def q_nR (f : List Nat) (i k : Nat) : Int32 := if k % 9 = 0 ∧ k / 9 < i then nI (f.getD (k / 9) 0) else nI 0
theorem q_nR_0 {f : List Nat} {k : Nat} : q_nR f 0 k = nI 0 := if_neg (by omega)
theorem q_nR_s {f : List Nat} {i k : Nat} {s : Nat → Int32} (h : s k = q_nR f i k) : upd s (9 * i) (nI (f.getD i 0)) k = q_nR f (i + 1) k := by
  unfold upd
  by_cases q : k = 9 * i
  · subst q
    rw [if_pos rfl]
    unfold q_nR
    rw [if_pos (by omega), show 9 * i / 9 = i by omega]
  · rw [if_neg q, h]
    unfold q_nR
    by_cases q2 : k % 9 = 0 ∧ k / 9 < i
    · rw [if_pos q2, if_pos (by omega)]
    · rw [if_neg q2, if_neg (by omega)]
theorem q_br_kl {h h1 : q_H} {sd cc bb : Nat} (hb : ∀ r, 144 ≤ r → r ≤ 148 → ∀ i, 130 * sd ≤ i → i < bb → q_I h1 r i = q_I h r i) (hc : ∀ i, 420 * sd ≤ i → i < cc → q_I h1 149 i = q_I h 149 i ∧ q_I h1 150 i = q_I h 150 i) (hcc : cc ≤ 840) : ∀ (r : List q_ROW) (b : Nat) (e : List (Nat × Int32)), b + r.length + 1 ≤ bb → 130 * sd ≤ b → (∀ j, j ≤ r.length → (∃ z, z ≤ cc ∧ q_I h 148 (b + j) = nI z) ∧ q_lo sd h b r.length j) → q_br h b r e → q_br h1 b r e
  | [], b, e, hbb, hb0, hz, hq => by
    obtain ⟨q1, t, q2, q3, q4, q5, q6⟩ := hq
    obtain ⟨⟨z, z1, z2⟩, y, y1, y2, y3⟩ := hz 0 (Nat.le_refl _)
    have hbb : b + 0 + 1 ≤ bb := hbb
    have ez : t + e.length = z := (nI_eq (by omega) (by omega)).mp (q3.symm.trans z2)
    have ey : t = y := (nI_eq (by omega) (by omega)).mp (q2.symm.trans y3)
    exact ⟨(hb _ (by decide) (by decide) _ hb0 (by omega)).trans q1, t, (hb _ (by decide) (by decide) _ hb0 (by omega)).trans q2, (hb _ (by decide) (by decide) _ hb0 (by omega)).trans q3, q4, q_sg_co (fun i h1 h2 => hc i (by omega) (by omega)) q5, q6⟩
  | (x, y, z) :: r, b, e, hbb, hb0, hz, hq => by
    obtain ⟨⟨q1, t, q2, q3, q4, q5, q6, q7, q8, q9, q10, q11, q12⟩, q13⟩ := hq
    obtain ⟨⟨u, u1, u2⟩, y0, y1, y2, y3⟩ := hz 0 (Nat.zero_le _)
    rw [if_pos (show 0 < (((x, y, z) :: r : List q_ROW).length) from Nat.succ_pos _)] at y3
    have hbb : b + (r.length + 1) + 1 ≤ bb := hbb
    have ez : t + x.length + y.length + z.length = u := (nI_eq (by omega) (by omega)).mp (q5.symm.trans u2)
    have ey : t = y0 := (nI_eq (by omega) (by omega)).mp (q2.symm.trans y3)
    refine ⟨⟨(hb _ (by decide) (by decide) _ hb0 (by omega)).trans q1, t, (hb _ (by decide) (by decide) _ hb0 (by omega)).trans q2, (hb _ (by decide) (by decide) _ hb0 (by omega)).trans q3, (hb _ (by decide) (by decide) _ hb0 (by omega)).trans q4, (hb _ (by decide) (by decide) _ hb0 (by omega)).trans q5, q6, q_sg_co (fun i h1 h2 => hc i (by omega) (by omega)) q7, q_sg_co (fun i h1 h2 => hc i (by omega) (by omega)) q8, q_sg_co (fun i h1 h2 => hc i (by omega) (by omega)) q9, q10, q11, q12⟩, ?_⟩
    refine q_br_kl hb hc hcc r (b + 1) e (by omega) (by omega) (fun j hj => ?_) q13
    obtain ⟨⟨z1, w1, w2⟩, v, v1, v2, v3⟩ := hz (j + 1) (Nat.succ_le_succ hj)
    rw [show b + (j + 1) = b + 1 + j by omega] at w2 v3
    refine ⟨⟨z1, w1, w2⟩, v, v1, v2, ?_⟩
    by_cases q : j < r.length
    · rw [if_pos q]
      rwa [if_pos (show j + 1 < (((x, y, z) :: r : List q_ROW).length) from Nat.succ_lt_succ q)] at v3
    · rw [if_neg q]
      rwa [if_neg (show ¬ j + 1 < (((x, y, z) :: r : List q_ROW).length) from fun w => q (Nat.lt_of_succ_lt_succ w))] at v3
/-- laws of side sd stand as long as its cells do -/
theorem rvL_os {h h1 : q_H} {sd : Nat} {L : q_LW} (hsd : sd < 2) (a : rv_L h sd (420 * sd + 400) (130 * sd + 105) L) (e : ∀ r i, 142 ≤ r → r ≤ 150 → q_os (1 - sd) r i → q_I h1 r i = q_I h r i) : rv_L h1 sd (420 * sd + 400) (130 * sd + 105) L := by
  have hb : ∀ r, 144 ≤ r → r ≤ 148 → ∀ i, 130 * sd ≤ i → i < 130 * sd + 105 → q_I h1 r i = q_I h r i := fun r a1 a2 i a3 a4 => e r i (by omega) (by omega) (by unfold q_os; omega)
  have hc : ∀ i, 420 * sd ≤ i → i < 420 * sd + 400 → q_I h1 149 i = q_I h 149 i ∧ q_I h1 150 i = q_I h 150 i := fun i a3 a4 => ⟨e 149 i (by decide) (by decide) (by unfold q_os; omega), e 150 i (by decide) (by decide) (by unfold q_os; omega)⟩
  intro k hk
  have h0 := a k hk
  have f1 := e 142 (20 * sd + k) (by decide) (by decide) (by unfold q_os; omega)
  have f2 := e 143 (20 * sd + k) (by decide) (by decide) (by unfold q_os; omega)
  cases hL : L k with
  | none =>
    rw [hL] at h0
    exact ⟨f1.trans h0.1, f2.trans h0.2⟩
  | some w =>
    rw [hL] at h0
    obtain ⟨b, g1, g2, g3, g4, g5, g6⟩ := h0
    refine ⟨b, f1.trans g1, f2.trans g2, g3, q_br_kl hb hc (by omega) _ _ _ g3 g6 g5 g4, fun j hj => ?_, g6⟩
    obtain ⟨⟨z, z1, z2⟩, z3⟩ := g5 j hj
    exact ⟨⟨z, z1, (hb _ (by decide) (by decide) _ (by omega) (by omega)).trans z2⟩, lo_k (hb _ (by decide) (by decide) _ (by omega) (by omega)) (hb _ (by decide) (by decide) _ (by omega) (by omega)) z3⟩
theorem rm_rv {h : q_H} {sd cc bb : Nat} {L : q_LW} (hb : bb ≤ 260) (a : rv_L h sd cc bb L) : rm_L h sd L := by
  intro k hk
  have q := a k hk
  unfold rm_law
  cases hl : L k with
  | none =>
    rw [hl] at q
    exact q
  | some w =>
    rw [hl] at q
    obtain ⟨b, q1, q2, q3, q4, q5⟩ := q
    exact ⟨b, q1, q2, by omega, q4⟩
def rd_G (sd : Nat) (h h1 : q_H) (s : q_PS) : Prop := h1.2.2 = h.2.2 ∧ (∀ r, r ≠ 130 → r ≠ 132 → q_J h1 r = q_J h r) ∧ (∀ r, r < 124 ∨ (155 ≤ r ∧ r ≠ 168) → q_I h1 r = q_I h r) ∧ q_I h1 124 2 = nI 0 ∧ q_I h1 124 17 = -1 ∧ q_I h1 124 18 = nI sd ∧ q_I h1 124 51 = nI 0 ∧ q_I h1 124 62 = nI 0 ∧ (∀ k, k < 1720 → q_I h1 154 k = q_nR (ps_f s) (ps_m s).length k) ∧ (∀ i, i < 3 → q_I h1 168 i = nI 0) ∧ q_I h1 135 sd = nI (ps_m s).length ∧ q_I h1 137 sd = nI (ps_d s).length ∧ q_I h1 139 sd = nI (ps_c s).length ∧ q_I h1 141 sd = nI (ps_o s) ∧ (ps_f s).length = (ps_m s).length ∧ (ps_g s).length = (ps_d s).length ∧ (ps_c s).length ≤ 12 ∧ (ps_m s).length ≤ 8 ∧ (ps_d s).length ≤ 8 ∧ (∀ i, i < (ps_g s).length → q_I h1 138 (8 * sd + i) = nI ((ps_g s).getD i 0)) ∧ (∀ i, i < (ps_c s).length → q_I h1 140 (12 * sd + i) = nI ((ps_c s).getD i 0)) ∧ rv_L h1 sd (420 * sd + 400) (130 * sd + 105) (ps_L s)
def rd_A (K : q_TK) (sd : Nat) (h : q_H) (o : (Nat × Nat) ⊕ (q_PS × Nat)) (r : Option Value) (h1 : q_H) : Prop := match o with
  | .inl e => r = some (.int (nI e.1)) ∧ q_rd sd h h1 ∧ q_I h1 124 2 = nI 0 ∧ q_I h1 124 17 = nI (tk_P K e.2) ∧ 1 ≤ e.1 ∧ e.1 ≤ 5
  | .inr x => match ps_e x.1 with
    | some e => r = some (.int (nI e.1)) ∧ q_rd sd h h1 ∧ q_I h1 124 2 = nI 0 ∧ q_I h1 124 17 = nI (tk_P K e.2) ∧ 1 ≤ e.1 ∧ e.1 ≤ 5
    | none => r = some (.int (nI 0)) ∧ rd_G sd h h1 x.1
theorem rd_45 (l : Launch) (g : q_GP) {hh : q_H} (hs : q_Stat hh) {K : q_TK} {m lv : Nat} (hT : rt_T hh K m) (h18 : q_I hh 124 18 = nI lv) (hlv : lv < 2) {Q : Option Value → q_H → Prop} (C : ∀ h2, q_rs h2 K m (1 - lv) 0 (420 * (1 - lv)) (130 * (1 - lv)) → rv_V h2 K (1 - lv) 0 (420 * (1 - lv)) (130 * (1 - lv)) tx_0 → q_rd (1 - lv) hh h2 → q_I h2 124 2 = q_I hh 124 2 → q_Ex l g 7 mX10_read 188 [(0, .ref 124)] [] h2 Q) : q_Ex l g 7 mX10_read 45 [(0, .ref 124)] [] hh Q := by
  refine xe_aload_n dX10_read_45 rfl ?_
  refine xe_iconst dX10_read_46 kc_0 ?_
  refine xe_putI dX10_read_47 flX10_201 (st124 hs) (by decide) rfl (Or.inl rfl) rfl rfl ?_
  refine xe_aload_n dX10_read_50 rfl ?_
  refine xe_iconst dX10_read_51 kc_0 ?_
  refine xe_putI dX10_read_52 flX10_225 (st124 hs) (by decide) rfl (Or.inl rfl) rfl rfl ?_
  refine xe_aload_n dX10_read_55 rfl ?_
  refine xe_iconst dX10_read_56 kc_0 ?_
  refine xe_putI dX10_read_57 flX10_198 (st124 hs) (by decide) rfl (Or.inl rfl) rfl rfl ?_
  refine xe_aload_n dX10_read_60 rfl ?_
  refine xe_iconst dX10_read_61 kc_0 ?_
  refine xe_putI dX10_read_62 flX10_207 (st124 hs) (by decide) rfl (Or.inl rfl) rfl rfl ?_
  refine xe_aload_n dX10_read_65 rfl ?_
  refine xe_iconst dX10_read_66 kc_1 ?_
  refine xe_aload_n dX10_read_67 rfl ?_
  refine xe_getIv dX10_read_68 flX10_228 (st124 hs) (by decide) rfl (v := nI lv) (h18) ?_
  refine xn_isub dX10_read_71 (by omega) ?_
  refine xe_putI dX10_read_72 flX10_231 (st124 hs) (by decide) rfl (Or.inl rfl) rfl rfl ?_
  refine xe_aload_n dX10_read_75 rfl ?_
  refine xe_iconst dX10_read_76 kc_0 ?_
  refine xe_putI dX10_read_77 flX10_234 (st124 hs) (by decide) rfl (Or.inl rfl) rfl rfl ?_
  refine xe_aload_n dX10_read_80 rfl ?_
  refine xe_getP dX10_read_81 flX10_49 (st124 hs) (by decide) rfl (sp124_24 hs) ?_
  refine xe_aload_n dX10_read_84 rfl ?_
  refine xe_getIv dX10_read_85 flX10_231 (st124 hs) (by decide) rfl (v := nI (1 - lv)) (rfl) ?_
  refine xe_iconst dX10_read_88 kc_0 ?_
  refine xn_iast dX10_read_89 (st135 hs) (by omega) (by decide) ?_
  refine xe_aload_n dX10_read_90 rfl ?_
  refine xe_getP dX10_read_91 flX10_55 (st124 hs) (by decide) rfl (sp124_26 hs) ?_
  refine xe_aload_n dX10_read_94 rfl ?_
  refine xe_getIv dX10_read_95 flX10_231 (st124 hs) (by decide) rfl (v := nI (1 - lv)) (rfl) ?_
  refine xe_iconst dX10_read_98 kc_0 ?_
  refine xn_iast dX10_read_99 (st137 hs) (by omega) (by decide) ?_
  refine xe_aload_n dX10_read_100 rfl ?_
  refine xe_getP dX10_read_101 flX10_61 (st124 hs) (by decide) rfl (sp124_28 hs) ?_
  refine xe_aload_n dX10_read_104 rfl ?_
  refine xe_getIv dX10_read_105 flX10_231 (st124 hs) (by decide) rfl (v := nI (1 - lv)) (rfl) ?_
  refine xe_iconst dX10_read_108 kc_0 ?_
  refine xn_iast dX10_read_109 (st139 hs) (by omega) (by decide) ?_
  refine xe_aload_n dX10_read_110 rfl ?_
  refine xe_getP dX10_read_111 flX10_67 (st124 hs) (by decide) rfl (sp124_30 hs) ?_
  refine xe_aload_n dX10_read_114 rfl ?_
  refine xe_getIv dX10_read_115 flX10_231 (st124 hs) (by decide) rfl (v := nI (1 - lv)) (rfl) ?_
  refine xe_iconst dX10_read_118 kc_0 ?_
  refine xn_iast dX10_read_119 (st141 hs) (by omega) (by decide) ?_
  refine xe_aload_n dX10_read_120 rfl ?_
  refine xe_sipush dX10_read_121 ks_130 ?_
  refine xe_aload_n dX10_read_124 rfl ?_
  refine xe_getIv dX10_read_125 flX10_231 (st124 hs) (by decide) rfl (v := nI (1 - lv)) (rfl) ?_
  refine xn_imul dX10_read_128 ?_
  refine xe_putI dX10_read_129 flX10_237 (st124 hs) (by decide) rfl (Or.inl rfl) rfl rfl ?_
  refine xe_aload_n dX10_read_132 rfl ?_
  refine xe_sipush dX10_read_133 ks_420 ?_
  refine xe_aload_n dX10_read_136 rfl ?_
  refine xe_getIv dX10_read_137 flX10_231 (st124 hs) (by decide) rfl (v := nI (1 - lv)) (rfl) ?_
  refine xn_imul dX10_read_140 ?_
  refine xe_putI dX10_read_141 flX10_240 (st124 hs) (by decide) rfl (Or.inl rfl) rfl rfl ?_
  refine xe_iconst dX10_read_144 kc_0 ?_
  refine xe_istore_n (i := 1) dX10_read_145 rfl (by decide) rfl ?_
  refine xe_fin (L' := (fun (k : Nat) (s1 : (Nat → Int32) × (Nat → Int32)) => [(0, .ref 124), (1, .int (nI k))]) 0 (q_I hh 142, q_I hh 143)) (h' := (fun (k : Nat) (s1 : (Nat → Int32) × (Nat → Int32)) => (q_wI (q_wI (q_wI (q_wI (q_wI (q_wI (q_wI hh 124 (upd (upd (upd (upd (upd (upd (upd (upd (q_I hh 124) 11 (nI 0)) 12 (nI 0)) 13 (nI 0)) 15 (nI 0)) 19 (nI (1 - lv))) 20 (nI 0)) 33 (nI (130 * (1 - lv)))) 39 (nI (420 * (1 - lv))))) 135 (upd (q_I hh 135) (1 - lv) (nI 0))) 137 (upd (q_I hh 137) (1 - lv) (nI 0))) 139 (upd (q_I hh 139) (1 - lv) (nI 0))) 141 (upd (q_I hh 141) (1 - lv) (nI 0))) 142 s1.1) 143 s1.2)) 0 (q_I hh 142, q_I hh 143)) ?_ (And.intro rfl (And.intro rfl trivial)) (q_heq [124, 135, 137, 139, 141, 142, 143] (H := hh) (by repeat (first | exact q_out_r | refine q_out_w rfl ?_)) (by repeat (first | exact q_out_r | refine q_out_w rfl ?_)) (And.intro (q_feq [11, 12, 13, 15, 19, 20, 33, 39] (f := q_I hh 124) (by repeat (first | exact q_fout_r | refine q_fout_w rfl ?_)) (by repeat (first | exact q_fout_r | refine q_fout_w rfl ?_)) (And.intro rfl (And.intro rfl (And.intro rfl (And.intro rfl (And.intro rfl (And.intro rfl (And.intro rfl (And.intro rfl trivial))))))))) (And.intro rfl (And.intro rfl (And.intro rfl (And.intro rfl (And.intro rfl (And.intro rfl trivial))))))))
  refine xe_loopI (σ := (Nat → Int32) × (Nat → Int32)) (20) (fun i s => (∀ j, (j < 20 * (1 - lv) ∨ 20 * (1 - lv) + 20 ≤ j) → s.1 j = q_I hh 142 j ∧ s.2 j = q_I hh 143 j) ∧ ∀ j, j < i → s.1 (20 * (1 - lv) + j) = nI 0 ∧ s.2 (20 * (1 - lv) + j) = nI 0) (fun (k : Nat) (s1 : (Nat → Int32) × (Nat → Int32)) => [(0, .ref 124), (1, .int (nI k))]) (fun (k : Nat) (s1 : (Nat → Int32) × (Nat → Int32)) => (q_wI (q_wI (q_wI (q_wI (q_wI (q_wI (q_wI hh 124 (upd (upd (upd (upd (upd (upd (upd (upd (q_I hh 124) 11 (nI 0)) 12 (nI 0)) 13 (nI 0)) 15 (nI 0)) 19 (nI (1 - lv))) 20 (nI 0)) 33 (nI (130 * (1 - lv)))) 39 (nI (420 * (1 - lv))))) 135 (upd (q_I hh 135) (1 - lv) (nI 0))) 137 (upd (q_I hh 137) (1 - lv) (nI 0))) 139 (upd (q_I hh 139) (1 - lv) (nI 0))) 141 (upd (q_I hh 141) (1 - lv) (nI 0))) 142 s1.1) 143 s1.2)) (q_I hh 142, q_I hh 143) (⟨fun j hj => ⟨rfl, rfl⟩, fun j hj => absurd hj (Nat.not_lt_zero _)⟩) (fun k hk s1 e1 K1 => ?_) (fun s1 e1 => ?_)
  · refine xe_iload_n dX10_read_146 rfl ?_
    refine xe_bipush dX10_read_147 kb_20 ?_
    refine xn_icmp_ge (tgt := 188) dX10_read_149 rfl (by omega) (by omega) (fun c2 => ?_) (fun c2 => ?_)
    · omega
    · refine xe_aload_n dX10_read_152 rfl ?_
      refine xe_getP dX10_read_153 flX10_70 (st124 hs) (by decide) rfl (sp124_31 hs) ?_
      refine xe_bipush dX10_read_156 kb_20 ?_
      refine xe_aload_n dX10_read_158 rfl ?_
      refine xe_getIv dX10_read_159 flX10_231 (st124 hs) (by decide) rfl (v := nI (1 - lv)) (rfl) ?_
      refine xn_imul dX10_read_162 ?_
      refine xe_iload_n dX10_read_163 rfl ?_
      refine xn_iadd dX10_read_164 ?_
      refine xe_iconst dX10_read_165 kc_0 ?_
      refine xn_iast dX10_read_166 (st142 hs) (by omega) (by decide) ?_
      refine xe_aload_n dX10_read_167 rfl ?_
      refine xe_getP dX10_read_168 flX10_73 (st124 hs) (by decide) rfl (sp124_32 hs) ?_
      refine xe_bipush dX10_read_171 kb_20 ?_
      refine xe_aload_n dX10_read_173 rfl ?_
      refine xe_getIv dX10_read_174 flX10_231 (st124 hs) (by decide) rfl (v := nI (1 - lv)) (rfl) ?_
      refine xn_imul dX10_read_177 ?_
      refine xe_iload_n dX10_read_178 rfl ?_
      refine xn_iadd dX10_read_179 ?_
      refine xe_iconst dX10_read_180 kc_0 ?_
      refine xn_iast dX10_read_181 (st143 hs) (by omega) (by decide) ?_
      refine xn_iinc dX10_read_182 rfl kc_1 ?_
      refine xe_goto (tgt := 146) dX10_read_185 rfl ?_
      exact xe_fin (K1 (upd s1.1 ((20 * (1 - lv)) + k) (nI 0), upd s1.2 ((20 * (1 - lv)) + k) (nI 0)) (⟨fun j hj => ⟨(pk_un (by omega)).trans (e1.1 j hj).1, (pk_un (by omega)).trans (e1.1 j hj).2⟩, fun j hj => by
        by_cases q : j = k
        · subst q
          exact ⟨if_pos rfl, if_pos rfl⟩
        · exact ⟨(pk_un (by omega)).trans (e1.2 j (by omega)).1, (pk_un (by omega)).trans (e1.2 j (by omega)).2⟩⟩)) (And.intro rfl (And.intro rfl trivial)) (q_heq [124, 135, 137, 139, 141, 142, 143] (H := hh) (by repeat (first | exact q_out_r | refine q_out_w rfl ?_)) (by repeat (first | exact q_out_r | refine q_out_w rfl ?_)) (And.intro (q_feq [11, 12, 13, 15, 19, 20, 33, 39] (f := q_I hh 124) (by repeat (first | exact q_fout_r | refine q_fout_w rfl ?_)) (by repeat (first | exact q_fout_r | refine q_fout_w rfl ?_)) (And.intro rfl (And.intro rfl (And.intro rfl (And.intro rfl (And.intro rfl (And.intro rfl (And.intro rfl (And.intro rfl trivial))))))))) (And.intro rfl (And.intro rfl (And.intro rfl (And.intro rfl (And.intro rfl (And.intro rfl trivial))))))))
  · refine xe_iload_n dX10_read_146 rfl ?_
    refine xe_bipush dX10_read_147 kb_20 ?_
    refine xn_icmp_ge (tgt := 188) dX10_read_149 rfl (by omega) (by omega) (fun c3 => ?_) (fun c3 => ?_)
    · refine xe_locals (L' := [(0, .ref 124)]) ⟨rfl, trivial⟩ (C _ ⟨q_Stat_3 rfl hs, ⟨rt_Tc hT rfl rfl rfl rfl, Nat.zero_le _, rfl, rfl⟩, rfl, rfl, by omega, rfl, rfl, Nat.le_refl _, by omega, Nat.le_refl _, by omega⟩ ?_ ?_ rfl)
      · refine ⟨(if_pos rfl : upd (q_I hh 135) (1 - lv) (nI 0) (1 - lv) = nI 0), (if_pos rfl : upd (q_I hh 137) (1 - lv) (nI 0) (1 - lv) = nI 0), (if_pos rfl : upd (q_I hh 139) (1 - lv) (nI 0) (1 - lv) = nI 0), (if_pos rfl : upd (q_I hh 141) (1 - lv) (nI 0) (1 - lv) = nI 0), by decide, rfl, rfl, by decide, by decide, by decide, fun i hi => absurd hi (Nat.not_lt_zero _), fun i hi => absurd hi (Nat.not_lt_zero _), fun i hi => absurd hi (Nat.not_lt_zero _), fun k hk => e1.2 k hk, ⟨[], ⟨rfl, by decide, fun i hi => absurd hi (Nat.not_lt_zero _)⟩, ⟨rfl, rfl⟩⟩, rfl⟩
      · refine ⟨rfl, fun _ _ _ => rfl, fun r i x x1 x2 x3 x4 x5 => ?_⟩
        obtain ⟨o1, o2, o3, o4, o5, o6, o7, o8⟩ := x
        by_cases r4 : r = 124
        · subst r4
          obtain ⟨y1, y2, y3, y4, y5, y6, y7, y8, y9, y10⟩ := o8 rfl
          obtain ⟨z1, z2, z3, z4, z5⟩ := x5 rfl
          repeat (first | exact rfl | refine (pk_un (by assumption)).trans ?_)
        · by_cases r5 : r = 135
          · subst r5
            exact (if_neg (o1 (by decide)) : upd (q_I hh 135) (1 - lv) (nI 0) i = q_I hh 135 i)
          · by_cases r6 : r = 137
            · subst r6
              exact (if_neg (o1 (by decide)) : upd (q_I hh 137) (1 - lv) (nI 0) i = q_I hh 137 i)
            · by_cases r7 : r = 139
              · subst r7
                exact (if_neg (o1 (by decide)) : upd (q_I hh 139) (1 - lv) (nI 0) i = q_I hh 139 i)
              · by_cases r8 : r = 141
                · subst r8
                  exact (if_neg (o1 (by decide)) : upd (q_I hh 141) (1 - lv) (nI 0) i = q_I hh 141 i)
                · by_cases r9 : r = 142
                  · subst r9
                    exact (e1.1 i (o4 (by decide))).1
                  · by_cases ra : r = 143
                    · subst ra
                      exact (e1.1 i (o4 (by decide))).2
                    · refine congrFun ?_ i
                      repeat (first | exact rfl | refine (q_Ine (by assumption)).trans ?_)
    · omega
theorem rd_f1 (l : Launch) (g : q_GP) {h2 : q_H} (hs : q_Stat h2) {e a : Nat} (he : 1 ≤ e) (he5 : e ≤ 5) (h13 : q_I h2 124 13 = nI e) (h14 : q_I h2 124 14 = nI a) : q_Ex l g 7 mX10_read 210 [(0, .ref 124)] [] h2 (fun r h1 => r = some (.int (nI e)) ∧ h1 = q_wI h2 124 (upd (q_I h2 124) 17 (nI a))) := by
  refine xe_aload_n dX10_read_210 rfl ?_
  refine xe_aload_n dX10_read_211 rfl ?_
  refine xe_getIv dX10_read_212 flX10_198 (st124 hs) (by decide) rfl (v := nI e) (h13) ?_
  refine xn_if_le (tgt := 225) dX10_read_215 rfl (by omega) (fun c1 => ?_) (fun c1 => ?_)
  · omega
  · refine xe_aload_n dX10_read_218 rfl ?_
    refine xe_getIv dX10_read_219 flX10_204 (st124 hs) (by decide) rfl (v := nI a) (h14) ?_
    refine xe_goto (tgt := 240) dX10_read_222 rfl ?_
    refine xe_putI dX10_read_240 flX10_37 (st124 hs) (by decide) rfl (Or.inl rfl) rfl rfl ?_
    refine xe_aload_n dX10_read_243 rfl ?_
    refine xe_getIv dX10_read_244 flX10_198 (st124 hs) (by decide) rfl (v := nI e) (h13) ?_
    refine xn_if_le (tgt := 255) dX10_read_247 rfl (by omega) (fun c2 => ?_) (fun c2 => ?_)
    · omega
    · refine xe_aload_n dX10_read_250 rfl ?_
      refine xe_getIv dX10_read_251 flX10_198 (st124 hs) (by decide) rfl (v := nI e) (h13) ?_
      refine xe_ireturn dX10_read_254 rfl (by first | rfl | decide +kernel) ?_
      exact ⟨rfl, (q_heq [124] (H := h2) (by repeat (first | exact q_out_r | refine q_out_w rfl ?_)) (by repeat (first | exact q_out_r | refine q_out_w rfl ?_)) (And.intro (q_feq [17] (f := q_I h2 124) (by repeat (first | exact q_fout_r | refine q_fout_w rfl ?_)) (by repeat (first | exact q_fout_r | refine q_fout_w rfl ?_)) (And.intro rfl trivial)) trivial))⟩
theorem rd_f2 (l : Launch) (g : q_GP) {h2 : q_H} (hs : q_Stat h2) {e a : Nat} (he : 1 ≤ e) (he5 : e ≤ 5) (h13 : q_I h2 124 13 = nI 0) (h15 : q_I h2 124 15 = nI e) (h16 : q_I h2 124 16 = nI a) : q_Ex l g 7 mX10_read 210 [(0, .ref 124)] [] h2 (fun r h1 => r = some (.int (nI e)) ∧ h1 = q_wI h2 124 (upd (q_I h2 124) 17 (nI a))) := by
  refine xe_aload_n dX10_read_210 rfl ?_
  refine xe_aload_n dX10_read_211 rfl ?_
  refine xe_getIv dX10_read_212 flX10_198 (st124 hs) (by decide) rfl (v := nI 0) (h13) ?_
  refine xn_if_le (tgt := 225) dX10_read_215 rfl (by omega) (fun c1 => ?_) (fun c1 => ?_)
  · refine xe_aload_n dX10_read_225 rfl ?_
    refine xe_getIv dX10_read_226 flX10_207 (st124 hs) (by decide) rfl (v := nI e) (h15) ?_
    refine xn_if_le (tgt := 239) dX10_read_229 rfl (by omega) (fun c2 => ?_) (fun c2 => ?_)
    · omega
    · refine xe_aload_n dX10_read_232 rfl ?_
      refine xe_getIv dX10_read_233 flX10_210 (st124 hs) (by decide) rfl (v := nI a) (h16) ?_
      refine xe_goto (tgt := 240) dX10_read_236 rfl ?_
      refine xe_putI dX10_read_240 flX10_37 (st124 hs) (by decide) rfl (Or.inl rfl) rfl rfl ?_
      refine xe_aload_n dX10_read_243 rfl ?_
      refine xe_getIv dX10_read_244 flX10_198 (st124 hs) (by decide) rfl (v := nI 0) (h13) ?_
      refine xn_if_le (tgt := 255) dX10_read_247 rfl (by omega) (fun c3 => ?_) (fun c3 => ?_)
      · refine xe_aload_n dX10_read_255 rfl ?_
        refine xe_getIv dX10_read_256 flX10_207 (st124 hs) (by decide) rfl (v := nI e) (h15) ?_
        refine xn_if_le (tgt := 267) dX10_read_259 rfl (by omega) (fun c4 => ?_) (fun c4 => ?_)
        · omega
        · refine xe_aload_n dX10_read_262 rfl ?_
          refine xe_getIv dX10_read_263 flX10_207 (st124 hs) (by decide) rfl (v := nI e) (h15) ?_
          refine xe_ireturn dX10_read_266 rfl (by first | rfl | decide +kernel) ?_
          exact ⟨rfl, (q_heq [124] (H := h2) (by repeat (first | exact q_out_r | refine q_out_w rfl ?_)) (by repeat (first | exact q_out_r | refine q_out_w rfl ?_)) (And.intro (q_feq [17] (f := q_I h2 124) (by repeat (first | exact q_fout_r | refine q_fout_w rfl ?_)) (by repeat (first | exact q_fout_r | refine q_fout_w rfl ?_)) (And.intro rfl trivial)) trivial))⟩
      · omega
  · omega
theorem rd_g (l : Launch) (g : q_GP) {h2 : q_H} {K : q_TK} {m sd t cc bb : Nat} {s : q_PS} (a : q_rs h2 K m sd t cc bb) (hV : rv_V h2 K sd t cc bb s) (he : ps_e s = none) (ht : q_I h2 124 2 = nI 0) : q_Ex l g 7 mX10_read 210 [(0, .ref 124)] [] h2 (fun r h1 => r = some (.int (nI 0)) ∧ rd_G sd h2 h1 s) := by
  obtain ⟨hs, ⟨hT, htm, h11, h13⟩, h12, h19, hsd, h33, h39, hc1, hc2, hb1, hb2⟩ := id a
  obtain ⟨v1, v2, v3, v4, v5, v6, v7, v8, v9, v10, v11, v12, v13, vL, vN, vE⟩ := hV
  have h15 : q_I h2 124 15 = nI 0 := by
    rw [he] at vE
    exact vE
  have hm := Nat.le_trans htm hT.1
  refine xe_aload_n dX10_read_210 rfl ?_
  refine xe_aload_n dX10_read_211 rfl ?_
  refine xe_getIv dX10_read_212 flX10_198 (st124 hs) (by decide) rfl (v := nI 0) (h13) ?_
  refine xn_if_le (tgt := 225) dX10_read_215 rfl (by omega) (fun c1 => ?_) (fun c1 => ?_)
  · refine xe_aload_n dX10_read_225 rfl ?_
    refine xe_getIv dX10_read_226 flX10_207 (st124 hs) (by decide) rfl (v := nI 0) (h15) ?_
    refine xn_if_le (tgt := 239) dX10_read_229 rfl (by omega) (fun c2 => ?_) (fun c2 => ?_)
    · refine xe_iconst dX10_read_239 kc_m1 ?_
      refine xe_putI dX10_read_240 flX10_37 (st124 hs) (by decide) rfl (Or.inl rfl) rfl rfl ?_
      refine xe_aload_n dX10_read_243 rfl ?_
      refine xe_getIv dX10_read_244 flX10_198 (st124 hs) (by decide) rfl (v := nI 0) (h13) ?_
      refine xn_if_le (tgt := 255) dX10_read_247 rfl (by omega) (fun c3 => ?_) (fun c3 => ?_)
      · refine xe_aload_n dX10_read_255 rfl ?_
        refine xe_getIv dX10_read_256 flX10_207 (st124 hs) (by decide) rfl (v := nI 0) (h15) ?_
        refine xn_if_le (tgt := 267) dX10_read_259 rfl (by omega) (fun c4 => ?_) (fun c4 => ?_)
        · refine xe_aload_n dX10_read_267 rfl ?_
          refine xe_aload_n dX10_read_268 rfl ?_
          refine xe_getIv dX10_read_269 flX10_231 (st124 hs) (by decide) rfl (v := nI sd) (h19) ?_
          refine xe_putI dX10_read_272 flX10_228 (st124 hs) (by decide) rfl (Or.inl rfl) rfl rfl ?_
          refine xe_iconst dX10_read_275 kc_0 ?_
          refine xe_istore_n (i := 1) dX10_read_276 rfl (by decide) rfl ?_
          refine xe_fin (L' := (fun (k : Nat) (s5 : (Nat → Int32)) => [(0, .ref 124), (1, .int (nI k))]) 0 (q_I h2 154)) (h' := (fun (k : Nat) (s5 : (Nat → Int32)) => (q_wI (q_wI h2 124 (upd (upd (q_I h2 124) 17 (-1)) 18 (nI sd))) 154 s5)) 0 (q_I h2 154)) ?_ (And.intro rfl (And.intro rfl trivial)) (q_heq [124, 154] (H := h2) (by repeat (first | exact q_out_r | refine q_out_w rfl ?_)) (by repeat (first | exact q_out_r | refine q_out_w rfl ?_)) (And.intro (q_feq [17, 18] (f := q_I h2 124) (by repeat (first | exact q_fout_r | refine q_fout_w rfl ?_)) (by repeat (first | exact q_fout_r | refine q_fout_w rfl ?_)) (And.intro rfl (And.intro rfl trivial))) (And.intro rfl trivial)))
          refine xe_loopI (σ := (Nat → Int32)) (1720) (fun i s => ∀ j, j < i → s j = nI 0) (fun (k : Nat) (s5 : (Nat → Int32)) => [(0, .ref 124), (1, .int (nI k))]) (fun (k : Nat) (s5 : (Nat → Int32)) => (q_wI (q_wI h2 124 (upd (upd (q_I h2 124) 17 (-1)) 18 (nI sd))) 154 s5)) (q_I h2 154) ((fun j hj => absurd hj (Nat.not_lt_zero _))) (fun k hk s5 e5 K5 => ?_) (fun s5 e5 => ?_)
          · refine xe_iload_n dX10_read_277 rfl ?_
            refine xe_sipush dX10_read_278 ks_1720 ?_
            refine xn_icmp_ge (tgt := 297) dX10_read_281 rfl (by omega) (by omega) (fun c6 => ?_) (fun c6 => ?_)
            · omega
            · refine xe_aload_n dX10_read_284 rfl ?_
              refine xe_getP dX10_read_285 flX10_107 (st124 hs) (by decide) rfl (sp124_47 hs) ?_
              refine xe_iload_n dX10_read_288 rfl ?_
              refine xe_iconst dX10_read_289 kc_0 ?_
              refine xn_iast dX10_read_290 (st154 hs) (by omega) (by decide) ?_
              refine xn_iinc dX10_read_291 rfl kc_1 ?_
              refine xe_goto (tgt := 277) dX10_read_294 rfl ?_
              exact xe_fin (K5 (upd s5 k (nI 0)) ((fun j hj => by
                by_cases q : j = k
                · subst q
                  exact if_pos rfl
                · exact (pk_un q).trans (e5 j (by omega))))) (And.intro rfl (And.intro rfl trivial)) (q_heq [124, 154] (H := h2) (by repeat (first | exact q_out_r | refine q_out_w rfl ?_)) (by repeat (first | exact q_out_r | refine q_out_w rfl ?_)) (And.intro (q_feq [17, 18] (f := q_I h2 124) (by repeat (first | exact q_fout_r | refine q_fout_w rfl ?_)) (by repeat (first | exact q_fout_r | refine q_fout_w rfl ?_)) (And.intro rfl (And.intro rfl trivial))) (And.intro rfl trivial)))
          · refine xe_iload_n dX10_read_277 rfl ?_
            refine xe_sipush dX10_read_278 ks_1720 ?_
            refine xn_icmp_ge (tgt := 297) dX10_read_281 rfl (by omega) (by omega) (fun c7 => ?_) (fun c7 => ?_)
            · refine xe_iconst dX10_read_297 kc_0 ?_
              refine xe_istore_n (i := 1) dX10_read_298 rfl (by decide) rfl ?_
              refine xe_fin (L' := (fun (i : Nat) (s8 : (Nat → Int32)) => [(0, .ref 124), (1, .int (nI i))]) 0 s5) (h' := (fun (i : Nat) (s8 : (Nat → Int32)) => (q_wI (q_wI h2 124 (upd (upd (q_I h2 124) 17 (-1)) 18 (nI sd))) 154 s8)) 0 s5) ?_ (And.intro rfl (And.intro rfl trivial)) (q_heq [124, 154] (H := h2) (by repeat (first | exact q_out_r | refine q_out_w rfl ?_)) (by repeat (first | exact q_out_r | refine q_out_w rfl ?_)) (And.intro (q_feq [17, 18] (f := q_I h2 124) (by repeat (first | exact q_fout_r | refine q_fout_w rfl ?_)) (by repeat (first | exact q_fout_r | refine q_fout_w rfl ?_)) (And.intro rfl (And.intro rfl trivial))) (And.intro rfl trivial)))
              refine xe_loopI (σ := (Nat → Int32)) ((ps_m s).length) (fun i z => ∀ k, k < 1720 → z k = q_nR (ps_f s) i k) (fun (i : Nat) (s8 : (Nat → Int32)) => [(0, .ref 124), (1, .int (nI i))]) (fun (i : Nat) (s8 : (Nat → Int32)) => (q_wI (q_wI h2 124 (upd (upd (q_I h2 124) 17 (-1)) 18 (nI sd))) 154 s8)) s5 ((fun k hk => (e5 k hk).trans q_nR_0.symm)) (fun i hi s8 e8 K8 => ?_) (fun s8 e8 => ?_)
              · refine xe_iload_n dX10_read_299 rfl ?_
                refine xe_aload_n dX10_read_300 rfl ?_
                refine xe_getP dX10_read_301 flX10_49 (st124 hs) (by decide) rfl (sp124_24 hs) ?_
                refine xe_aload_n dX10_read_304 rfl ?_
                refine xe_getIv dX10_read_305 flX10_228 (st124 hs) (by decide) rfl (v := nI sd) (rfl) ?_
                refine xn_ialdv dX10_read_308 (st135 hs) (by omega) (by decide) (v := nI ((ps_m s).length)) (v1) ?_
                refine xn_icmp_ge (tgt := 341) dX10_read_309 rfl (by omega) (by omega) (fun c9 => ?_) (fun c9 => ?_)
                · omega
                · refine xe_aload_n dX10_read_312 rfl ?_
                  refine xe_getP dX10_read_313 flX10_107 (st124 hs) (by decide) rfl (sp124_47 hs) ?_
                  refine xe_bipush dX10_read_316 kb_9 ?_
                  refine xe_iload_n dX10_read_318 rfl ?_
                  refine xn_imul dX10_read_319 ?_
                  refine xe_aload_n dX10_read_320 rfl ?_
                  refine xe_getP dX10_read_321 flX10_52 (st124 hs) (by decide) rfl (sp124_25 hs) ?_
                  refine xe_bipush dX10_read_324 kb_8 ?_
                  refine xe_aload_n dX10_read_326 rfl ?_
                  refine xe_getIv dX10_read_327 flX10_228 (st124 hs) (by decide) rfl (v := nI sd) (rfl) ?_
                  refine xn_imul dX10_read_330 ?_
                  refine xe_iload_n dX10_read_331 rfl ?_
                  refine xn_iadd dX10_read_332 ?_
                  refine xn_ialdv dX10_read_333 (st136 hs) (by omega) (by decide) (v := nI ((ps_f s).getD i 0)) (v11 i (by omega)) ?_
                  refine xn_iast dX10_read_334 (st154 hs) (by omega) (by decide) ?_
                  refine xn_iinc dX10_read_335 rfl kc_1 ?_
                  refine xe_goto (tgt := 299) dX10_read_338 rfl ?_
                  exact xe_fin (K8 (upd s8 (9 * i) (nI ((ps_f s).getD i 0))) ((fun k hk => q_nR_s (e8 k hk)))) (And.intro rfl (And.intro rfl trivial)) (q_heq [124, 154] (H := h2) (by repeat (first | exact q_out_r | refine q_out_w rfl ?_)) (by repeat (first | exact q_out_r | refine q_out_w rfl ?_)) (And.intro (q_feq [17, 18] (f := q_I h2 124) (by repeat (first | exact q_fout_r | refine q_fout_w rfl ?_)) (by repeat (first | exact q_fout_r | refine q_fout_w rfl ?_)) (And.intro rfl (And.intro rfl trivial))) (And.intro rfl trivial)))
              · refine xe_iload_n dX10_read_299 rfl ?_
                refine xe_aload_n dX10_read_300 rfl ?_
                refine xe_getP dX10_read_301 flX10_49 (st124 hs) (by decide) rfl (sp124_24 hs) ?_
                refine xe_aload_n dX10_read_304 rfl ?_
                refine xe_getIv dX10_read_305 flX10_228 (st124 hs) (by decide) rfl (v := nI sd) (rfl) ?_
                refine xn_ialdv dX10_read_308 (st135 hs) (by omega) (by decide) (v := nI ((ps_m s).length)) (v1) ?_
                refine xn_icmp_ge (tgt := 341) dX10_read_309 rfl (by omega) (by omega) (fun c10 => ?_) (fun c10 => ?_)
                · refine xe_aload_n dX10_read_341 rfl ?_
                  refine xe_iconst dX10_read_342 kc_0 ?_
                  refine xe_putI dX10_read_343 flX10_246 (st124 hs) (by decide) rfl (Or.inl rfl) rfl rfl ?_
                  refine xe_aload_n dX10_read_346 rfl ?_
                  refine xe_iconst dX10_read_347 kc_0 ?_
                  refine xe_putI dX10_read_348 flX10_249 (st124 hs) (by decide) rfl (Or.inl rfl) rfl rfl ?_
                  refine xe_iconst dX10_read_351 kc_0 ?_
                  refine xe_istore_n (i := 1) dX10_read_352 rfl (by decide) rfl ?_
                  refine xe_fin (L' := (fun (k : Nat) (s11 : (Nat → Int32)) => [(0, .ref 124), (1, .int (nI k))]) 0 (q_I h2 168)) (h' := (fun (k : Nat) (s11 : (Nat → Int32)) => (q_wI (q_wI (q_wI h2 124 (upd (upd (upd (upd (q_I h2 124) 17 (-1)) 18 (nI sd)) 51 (nI 0)) 62 (nI 0))) 154 s8) 168 s11)) 0 (q_I h2 168)) ?_ (And.intro rfl (And.intro rfl trivial)) (q_heq [124, 154, 168] (H := h2) (by repeat (first | exact q_out_r | refine q_out_w rfl ?_)) (by repeat (first | exact q_out_r | refine q_out_w rfl ?_)) (And.intro (q_feq [17, 18, 51, 62] (f := q_I h2 124) (by repeat (first | exact q_fout_r | refine q_fout_w rfl ?_)) (by repeat (first | exact q_fout_r | refine q_fout_w rfl ?_)) (And.intro rfl (And.intro rfl (And.intro rfl (And.intro rfl trivial))))) (And.intro rfl (And.intro rfl trivial))))
                  refine xe_loopI (σ := (Nat → Int32)) (3) (fun i s => ∀ j, j < i → s j = nI 0) (fun (k : Nat) (s11 : (Nat → Int32)) => [(0, .ref 124), (1, .int (nI k))]) (fun (k : Nat) (s11 : (Nat → Int32)) => (q_wI (q_wI (q_wI h2 124 (upd (upd (upd (upd (q_I h2 124) 17 (-1)) 18 (nI sd)) 51 (nI 0)) 62 (nI 0))) 154 s8) 168 s11)) (q_I h2 168) ((fun j hj => absurd hj (Nat.not_lt_zero _))) (fun k hk s11 e11 K11 => ?_) (fun s11 e11 => ?_)
                  · refine xe_iload_n dX10_read_353 rfl ?_
                    refine xe_iconst dX10_read_354 kc_3 ?_
                    refine xn_icmp_ge (tgt := 371) dX10_read_355 rfl (by omega) (by omega) (fun c12 => ?_) (fun c12 => ?_)
                    · omega
                    · refine xe_aload_n dX10_read_358 rfl ?_
                      refine xe_getP dX10_read_359 flX10_150 (st124 hs) (by decide) rfl (sp124_65 hs) ?_
                      refine xe_iload_n dX10_read_362 rfl ?_
                      refine xe_iconst dX10_read_363 kc_0 ?_
                      refine xn_zast dX10_read_364 (st168 hs) (by omega) (by decide) rfl ?_
                      refine xn_iinc dX10_read_365 rfl kc_1 ?_
                      refine xe_goto (tgt := 353) dX10_read_368 rfl ?_
                      exact xe_fin (K11 (upd s11 k (nI 0)) ((fun j hj => by
                        by_cases q : j = k
                        · subst q
                          exact if_pos rfl
                        · exact (pk_un q).trans (e11 j (by omega))))) (And.intro rfl (And.intro rfl trivial)) (q_heq [124, 154, 168] (H := h2) (by repeat (first | exact q_out_r | refine q_out_w rfl ?_)) (by repeat (first | exact q_out_r | refine q_out_w rfl ?_)) (And.intro (q_feq [17, 18, 51, 62] (f := q_I h2 124) (by repeat (first | exact q_fout_r | refine q_fout_w rfl ?_)) (by repeat (first | exact q_fout_r | refine q_fout_w rfl ?_)) (And.intro rfl (And.intro rfl (And.intro rfl (And.intro rfl trivial))))) (And.intro rfl (And.intro rfl trivial))))
                  · refine xe_iload_n dX10_read_353 rfl ?_
                    refine xe_iconst dX10_read_354 kc_3 ?_
                    refine xn_icmp_ge (tgt := 371) dX10_read_355 rfl (by omega) (by omega) (fun c13 => ?_) (fun c13 => ?_)
                    · refine xe_iconst dX10_read_371 kc_0 ?_
                      refine xe_ireturn dX10_read_372 rfl (by first | rfl | decide +kernel) ?_
                      refine ⟨rfl, rfl, fun _ _ _ => rfl, fun r hr => by repeat (first | exact rfl | refine (q_Ine (by omega)).trans ?_), ht, rfl, rfl, rfl, rfl, e8, e11, v1, v2, v3, v4, v6, v7, v8, v9, v10, v12, v13, rvL_k (h := h2) vL (by omega) (by omega) (by omega) (fun k _ => ⟨rfl, rfl⟩) (fun r a1 a2 i _ => congrFun (by repeat (first | exact rfl | refine (q_Ine (by omega)).trans ?_)) i) (fun i _ => ⟨rfl, rfl⟩)⟩
                    · omega
                · omega
            · omega
        · omega
      · omega
    · omega
  · omega
