/-! the reference: bytes, a token noted, signs -/
def rb_B (h : q_H) (n : Nat) (B : Nat → Nat) : Prop := q_I h 124 4 = nI n ∧ n ≤ 2000 ∧ (∀ i, i < n → q_I h 126 i &&& nI 255 = nI (B i)) ∧ ∀ i, B i < 256
def bz (n : Nat) (B : Nat → Nat) (p : Nat) : Nat := if p < n then B p else 0
theorem bz_t {n : Nat} {B : Nat → Nat} {p : Nat} (h : p < n) : bz n B p = B p := if_pos h
theorem bz_f {n : Nat} {B : Nat → Nat} {p : Nat} (h : n ≤ p) : bz n B p = 0 := if_neg (by omega)
theorem bz_lt {n : Nat} {B : Nat → Nat} (hB : ∀ i, B i < 256) {p : Nat} : bz n B p < 256 := by
  unfold bz
  split
  · exact hB p
  · decide
theorem bz_le {n : Nat} {B : Nat → Nat} {p : Nat} (h : tz_le (bz n B p) = true) : p < n ∧ tz_le (B p) = true := by
  unfold bz at h
  split at h
  · exact ⟨by assumption, h⟩
  · exact absurd h (by decide)
theorem bz_di {n : Nat} {B : Nat → Nat} {p : Nat} (h : tz_di (bz n B p) = true) : p < n ∧ tz_di (B p) = true := by
  unfold bz at h
  split at h
  · exact ⟨by assumption, h⟩
  · exact absurd h (by decide)
theorem bz_nle {n : Nat} {B : Nat → Nat} {p : Nat} (h : ¬ tz_le (bz n B p) = true) : tz_to tz_le n B p = p := by
  rcases Nat.lt_or_ge p n with q | q
  · rw [bz_t q] at h
    exact tz_to_f h
  · exact tz_to_n q
theorem bz_ndi {n : Nat} {B : Nat → Nat} {p : Nat} (h : ¬ tz_di (bz n B p) = true) : tz_to tz_di n B p = p := by
  rcases Nat.lt_or_ge p n with q | q
  · rw [bz_t q] at h
    exact tz_to_f h
  · exact tz_to_n q
def tz_27 (x : Int64) (c : Nat) : Int64 := 27 * x + (nI (c - 96)).toInt64
theorem tz_27_e {l : List Nat} {c : Nat} (h2 : c ≤ 122) : tz_27 (q_e27 l) c = q_e27 (l ++ [c - 96]) := by
  unfold tz_27 q_e27 q_n27
  rw [nI_l (n := c - 96) (by omega), q_f27_app]
  show lN 27 * lN (q_f27 0 l) + lN (c - 96) = lN (27 * q_f27 0 l + (c - 96))
  rw [lN_mul, lN_add]
/-- a token noted -/
def q_tkn (h : q_H) (m : Nat) (k p v : Int32) (x : Int64) : q_H := q_wJ (q_wI (q_wI (q_wI (q_wI h 124 (upd (q_I h 124) 10 (nI (m + 1)))) 127 (upd (q_I h 127) m k)) 128 (upd (q_I h 128) m p)) 129 (upd (q_I h 129) m v)) 130 (vp_updL (q_J h 130) m x)
def rt_en (hh : q_H) (n : Nat) (B : Nat → Nat) (j : Nat) : Prop := q_I hh 127 j = nI (tz_k n B (tz_p n B j)) ∧ q_I hh 128 j = nI (tz_p n B j) ∧ (tz_k n B (tz_p n B j) = 1 → q_J hh 130 j = q_e27 (tz_w B (tz_p n B j) (tz_to tz_le n B (tz_p n B j)))) ∧ (tz_k n B (tz_p n B j) = 2 → q_I hh 129 j = nI (tz_v B (tz_p n B j) (tz_to tz_di n B (tz_p n B j) - tz_p n B j)))
def rt_S (h hh : q_H) (n : Nat) (B : Nat → Nat) (i : Nat) : Prop := hh.2.2 = h.2.2 ∧ (∀ r, r ≠ 124 → r ≠ 127 → r ≠ 128 → r ≠ 129 → q_I hh r = q_I h r) ∧ (∀ k, k ≠ 10 → q_I hh 124 k = q_I h 124 k) ∧ (∀ r, r ≠ 130 → q_J hh r = q_J h r) ∧ q_I hh 124 10 = nI i ∧ ∀ j, j < i → rt_en hh n B j
theorem rt_S_s {h hh : q_H} {n : Nat} {B : Nat → Nat} {i : Nat} (hS : rt_S h hh n B i) {k p v : Int32} {x : Int64} (hk : k = nI (tz_k n B (tz_p n B i))) (hp : p = nI (tz_p n B i)) (w3 : tz_k n B (tz_p n B i) = 1 → x = q_e27 (tz_w B (tz_p n B i) (tz_to tz_le n B (tz_p n B i)))) (w4 : tz_k n B (tz_p n B i) = 2 → v = nI (tz_v B (tz_p n B i) (tz_to tz_di n B (tz_p n B i) - tz_p n B i))) : rt_S h (q_tkn hh i k p v x) n B (i + 1) := by
  obtain ⟨s1, s2, s3, s4, s5, s6⟩ := hS
  subst hk hp
  have f1 : ∀ r, r ≠ 124 → r ≠ 127 → r ≠ 128 → r ≠ 129 → q_I (q_tkn hh i (nI (tz_k n B (tz_p n B i))) (nI (tz_p n B i)) v x) r = q_I hh r := fun r h1 h2 h3 h4 => (q_Ine h4).trans ((q_Ine h3).trans ((q_Ine h2).trans (q_Ine h1)))
  refine ⟨s1, fun r h1 h2 h3 h4 => (f1 r h1 h2 h3 h4).trans (s2 r h1 h2 h3 h4), fun k hk => (if_neg hk : upd (q_I hh 124) 10 (nI (i + 1)) k = q_I hh 124 k).trans (s3 k hk), fun r hr => (if_neg hr).trans (s4 r hr), rfl, fun j hj => ?_⟩
  rcases Nat.lt_succ_iff_lt_or_eq.mp hj with q | rfl
  · have hne : j ≠ i := by omega
    obtain ⟨z1, z2, z3, z4⟩ := s6 j q
    exact ⟨(if_neg hne : upd (q_I hh 127) i _ j = q_I hh 127 j).trans z1, (if_neg hne : upd (q_I hh 128) i _ j = q_I hh 128 j).trans z2, fun k => (if_neg hne : vp_updL (q_J hh 130) i _ j = q_J hh 130 j).trans (z3 k), fun k => (if_neg hne : upd (q_I hh 129) i _ j = q_I hh 129 j).trans (z4 k)⟩
  · exact ⟨(if_pos rfl : upd (q_I hh 127) j _ j = _), (if_pos rfl : upd (q_I hh 128) j _ j = _), fun k => (if_pos rfl : vp_updL (q_J hh 130) j x j = x).trans (w3 k), fun k => (if_pos rfl : upd (q_I hh 129) j v j = v).trans (w4 k)⟩
theorem rt_SB {h hh : q_H} {n : Nat} {B : Nat → Nat} {i : Nat} (hS : rt_S h hh n B i) (hB : rb_B h n B) : rb_B hh n B := ⟨(hS.2.2.1 4 (by decide)).trans hB.1, hB.2.1, fun j hj => by rw [hS.2.1 126 (by decide) (by decide) (by decide) (by decide)]; exact hB.2.2.1 j hj, hB.2.2.2⟩
def rk_W (h : q_H) : Prop := ∀ w, w < 17 → q_J h 131 w = q_e27 (tz_kw.getD w [])
theorem rt_SW {h hh : q_H} {n : Nat} {B : Nat → Nat} {i : Nat} (hS : rt_S h hh n B i) (hW : rk_W h) : rk_W hh := fun w hw => by rw [hS.2.2.2.1 131 (by decide)]; exact hW w hw
theorem c_X10_byteAt (l : Launch) (g : q_GP) (h : q_H) (hs : q_Stat h) {n : Nat} {B : Nat → Nat} (hB : rb_B h n B) {p : Nat} (hp : p ≤ 4000) : q_Cd l g 0 mX10_byteAt [.ref 124, .int (nI p)] h (some (.int (nI (bz n B p)))) h := by
  have hn := hB.2.1
  have hb := hB.2.2.2 p
  refine q_CdV mvX10_byteAt (Nat.le_of_ble_eq_true rfl) ?_
  refine xe_iload_n dX10_byteAt_0 rfl ?_
  refine xe_aload_n dX10_byteAt_1 rfl ?_
  refine xe_getIv dX10_byteAt_2 flX10_167 (st124 hs) (by decide) rfl (v := nI n) (hB.1) ?_
  refine xn_icmp_ge (tgt := 21) dX10_byteAt_5 rfl (by omega) (by omega) (fun c_1 => ?_) (fun c_1 => ?_)
  · refine xe_iconst dX10_byteAt_21 kc_0 ?_
    refine xe_ireturn dX10_byteAt_22 rfl (by first | rfl | decide +kernel) ?_
    exact ⟨congrArg (fun v => some (Value.int (nI v))) (bz_f (by omega)).symm, rfl⟩
  · refine xe_aload_n dX10_byteAt_8 rfl ?_
    refine xe_getP dX10_byteAt_9 flX10_17 (st124 hs) (by decide) rfl (sp124_3 hs) ?_
    refine xe_iload_n dX10_byteAt_12 rfl ?_
    refine xn_baldv dX10_byteAt_13 (st126 hs) (by omega) (by decide) (v := ((q_I h 126) p)) (rfl) ?_
    refine xe_sipush dX10_byteAt_14 ks_255 ?_
    refine xe_iand dX10_byteAt_17 ?_
    refine xe_top (v' := nI (B p)) (hB.2.2.1 p (by omega)) ?_
    refine xe_goto (tgt := 22) dX10_byteAt_18 rfl ?_
    refine xe_ireturn dX10_byteAt_22 rfl (by first | rfl | decide +kernel) ?_
    exact ⟨congrArg (fun v => some (Value.int (nI v))) (bz_t (by omega)).symm, rfl⟩
theorem c_X10_isLetter (l : Launch) (g : q_GP) (h : q_H) {c : Nat} (hc : c < 256) : q_Cd l g 0 mX10_isLetter [.int (nI c)] h (some (.int (if tz_le c = true then nI 1 else nI 0))) h := by
  refine q_CdS msX10_isLetter (Nat.le_of_ble_eq_true rfl) ?_
  refine xe_iload_n dX10_isLetter_0 rfl ?_
  refine xe_bipush dX10_isLetter_1 kb_97 ?_
  refine xn_icmp_lt (tgt := 16) dX10_isLetter_3 rfl (by omega) (by omega) (fun c1 => ?_) (fun c1 => ?_)
  · refine xe_iconst dX10_isLetter_16 kc_0 ?_
    refine xe_ireturn dX10_isLetter_17 rfl (by first | rfl | decide +kernel) ?_
    exact ⟨congrArg (fun v => some (Value.int v)) (if_neg (fun q => absurd (tz_le_i.mp q) (by omega))).symm, rfl⟩
  · refine xe_iload_n dX10_isLetter_6 rfl ?_
    refine xe_bipush dX10_isLetter_7 kb_122 ?_
    refine xn_icmp_gt (tgt := 16) dX10_isLetter_9 rfl (by omega) (by omega) (fun c2 => ?_) (fun c2 => ?_)
    · refine xe_iconst dX10_isLetter_16 kc_0 ?_
      refine xe_ireturn dX10_isLetter_17 rfl (by first | rfl | decide +kernel) ?_
      exact ⟨congrArg (fun v => some (Value.int v)) (if_neg (fun q => absurd (tz_le_i.mp q) (by omega))).symm, rfl⟩
    · refine xe_iconst dX10_isLetter_12 kc_1 ?_
      refine xe_goto (tgt := 17) dX10_isLetter_13 rfl ?_
      refine xe_ireturn dX10_isLetter_17 rfl (by first | rfl | decide +kernel) ?_
      exact ⟨congrArg (fun v => some (Value.int v)) (if_pos (tz_le_i.mpr ⟨by omega, by omega⟩)).symm, rfl⟩
theorem c_X10_isDigit (l : Launch) (g : q_GP) (h : q_H) {c : Nat} (hc : c < 256) : q_Cd l g 0 mX10_isDigit [.int (nI c)] h (some (.int (if tz_di c = true then nI 1 else nI 0))) h := by
  refine q_CdS msX10_isDigit (Nat.le_of_ble_eq_true rfl) ?_
  refine xe_iload_n dX10_isDigit_0 rfl ?_
  refine xe_bipush dX10_isDigit_1 kb_48 ?_
  refine xn_icmp_lt (tgt := 16) dX10_isDigit_3 rfl (by omega) (by omega) (fun c1 => ?_) (fun c1 => ?_)
  · refine xe_iconst dX10_isDigit_16 kc_0 ?_
    refine xe_ireturn dX10_isDigit_17 rfl (by first | rfl | decide +kernel) ?_
    exact ⟨congrArg (fun v => some (Value.int v)) (if_neg (fun q => absurd (tz_di_i.mp q) (by omega))).symm, rfl⟩
  · refine xe_iload_n dX10_isDigit_6 rfl ?_
    refine xe_bipush dX10_isDigit_7 kb_57 ?_
    refine xn_icmp_gt (tgt := 16) dX10_isDigit_9 rfl (by omega) (by omega) (fun c2 => ?_) (fun c2 => ?_)
    · refine xe_iconst dX10_isDigit_16 kc_0 ?_
      refine xe_ireturn dX10_isDigit_17 rfl (by first | rfl | decide +kernel) ?_
      exact ⟨congrArg (fun v => some (Value.int v)) (if_neg (fun q => absurd (tz_di_i.mp q) (by omega))).symm, rfl⟩
    · refine xe_iconst dX10_isDigit_12 kc_1 ?_
      refine xe_goto (tgt := 17) dX10_isDigit_13 rfl ?_
      refine xe_ireturn dX10_isDigit_17 rfl (by first | rfl | decide +kernel) ?_
      exact ⟨congrArg (fun v => some (Value.int v)) (if_pos (tz_di_i.mpr ⟨by omega, by omega⟩)).symm, rfl⟩
theorem c_X10_appends (l : Launch) (g : q_GP) (h : q_H) (x : Int64) {c : Nat} (h1 : 97 ≤ c) (h2 : c ≤ 122) : q_Cd l g 0 mX10_appends [.long x, .int (nI c)] h (some (.long (tz_27 x c))) h := by
  refine q_CdS msX10_appends (Nat.le_of_ble_eq_true rfl) ?_
  refine xe_iload_n dX10_appends_0 rfl ?_
  refine xn_if_ne (tgt := 8) dX10_appends_1 rfl (by omega) (fun c1 => ?_) (fun c1 => ?_)
  · refine xe_ldc2 dX10_appends_8 coX10_170 ?_
    refine xe_lload_n dX10_appends_11 rfl ?_
    refine xe_lmul dX10_appends_12 ?_
    refine xe_iload_n dX10_appends_13 rfl ?_
    refine xe_bipush dX10_appends_14 kb_97 ?_
    refine xn_isub dX10_appends_16 (by omega) ?_
    refine xe_iconst dX10_appends_17 kc_1 ?_
    refine xn_iadd dX10_appends_18 ?_
    refine xe_top (v' := nI (c - 96)) (congrArg nI (by omega)) ?_
    refine xe_i2l dX10_appends_19 rfl ?_
    refine xe_ladd dX10_appends_20 ?_
    refine xe_lreturn dX10_appends_21 rfl ?_
    exact ⟨rfl, rfl⟩
  · omega
theorem c_X10_appends0 (l : Launch) (g : q_GP) (h : q_H) (x : Int64) : q_Cd l g 0 mX10_appends [.long x, .int (nI 0)] h (some (.long x)) h := by
  refine q_CdS msX10_appends (Nat.le_of_ble_eq_true rfl) ?_
  refine xe_iload_n dX10_appends_0 rfl ?_
  refine xn_if_ne (tgt := 8) dX10_appends_1 rfl (by omega) (fun c1 => ?_) (fun c1 => ?_)
  · omega
  · refine xe_lload_n dX10_appends_4 rfl ?_
    refine xe_goto (tgt := 21) dX10_appends_5 rfl ?_
    refine xe_lreturn dX10_appends_21 rfl ?_
    exact ⟨rfl, rfl⟩
theorem c_X10_token (l : Launch) (g : q_GP) (h : q_H) (hs : q_Stat h) {m : Nat} (h10 : q_I h 124 10 = nI m) (hm : m ≤ 400) (k p v : Int32) (x : Int64) : q_Cd l g 0 mX10_token [.ref 124, .int k, .int p, .int v, .long x] h none (q_tkn h m k p v x) := by
  refine q_CdV mvX10_token (Nat.le_of_ble_eq_true rfl) ?_
  refine xe_aload_n dX10_token_0 rfl ?_
  refine xe_getP dX10_token_1 flX10_20 (st124 hs) (by decide) rfl (sp124_5 hs) ?_
  refine xe_aload_n dX10_token_4 rfl ?_
  refine xe_getIv dX10_token_5 flX10_176 (st124 hs) (by decide) rfl (v := nI m) (h10) ?_
  refine xe_iload_n dX10_token_8 rfl ?_
  refine xn_iast dX10_token_9 (st127 hs) (by omega) (by decide) ?_
  refine xe_aload_n dX10_token_10 rfl ?_
  refine xe_getP dX10_token_11 flX10_24 (st124 hs) (by decide) rfl (sp124_6 hs) ?_
  refine xe_aload_n dX10_token_14 rfl ?_
  refine xe_getIv dX10_token_15 flX10_176 (st124 hs) (by decide) rfl (v := nI m) (h10) ?_
  refine xe_iload_n dX10_token_18 rfl ?_
  refine xn_iast dX10_token_19 (st128 hs) (by omega) (by decide) ?_
  refine xe_aload_n dX10_token_20 rfl ?_
  refine xe_getP dX10_token_21 flX10_27 (st124 hs) (by decide) rfl (sp124_7 hs) ?_
  refine xe_aload_n dX10_token_24 rfl ?_
  refine xe_getIv dX10_token_25 flX10_176 (st124 hs) (by decide) rfl (v := nI m) (h10) ?_
  refine xe_iload_n dX10_token_28 rfl ?_
  refine xn_iast dX10_token_29 (st129 hs) (by omega) (by decide) ?_
  refine xe_aload_n dX10_token_30 rfl ?_
  refine xe_getP dX10_token_31 flX10_30 (st124 hs) (by decide) rfl (sp124_8 hs) ?_
  refine xe_aload_n dX10_token_34 rfl ?_
  refine xe_getIv dX10_token_35 flX10_176 (st124 hs) (by decide) rfl (v := nI m) (h10) ?_
  refine xe_lload dX10_token_38 rfl ?_
  refine xn_last dX10_token_40 (st130 hs) (by omega) (by decide) ?_
  refine xe_aload_n dX10_token_41 rfl ?_
  refine xe_dup dX10_token_42 rfl ?_
  refine xe_getIv dX10_token_43 flX10_176 (st124 hs) (by decide) rfl (v := nI m) (h10) ?_
  refine xe_iconst dX10_token_46 kc_1 ?_
  refine xn_iadd dX10_token_47 ?_
  refine xe_putI dX10_token_48 flX10_176 (st124 hs) (by decide) rfl (Or.inl rfl) rfl rfl ?_
  refine xe_return dX10_token_51 rfl ?_
  exact ⟨rfl, (q_heqJ [124, 127, 128, 129] [130] (H := h) (by repeat (first | exact q_outJ_r | refine q_outJ_w rfl ?_ | refine q_outJ_j rfl ?_)) (by repeat (first | exact q_outJ_r | refine q_outJ_w rfl ?_ | refine q_outJ_j rfl ?_)) (And.intro (q_feq [10] (f := q_I h 124) (by repeat (first | exact q_fout_r | refine q_fout_w rfl ?_)) (by repeat (first | exact q_fout_r | refine q_fout_w rfl ?_)) (And.intro rfl trivial)) (And.intro rfl (And.intro rfl (And.intro rfl trivial)))) (And.intro rfl trivial))⟩
theorem sgn_45 (l : Launch) (g : q_GP) (h : q_H) (hs : q_Stat h) {m : Nat} (h10 : q_I h 124 10 = nI m) (hm : m ≤ 400) {c p k : Nat} (hc : c < 256) {u : Int32} {Q : Option Value → q_H → Prop} (K : q_Ex l g 1 mX10_sign 55 [(0, .ref 124), (1, .int (nI p)), (2, .int (nI c)), (3, .int u), (4, .int (nI (if c = 43 then 8 else k)))] [] h Q) : q_Ex l g 1 mX10_sign 45 [(0, .ref 124), (1, .int (nI p)), (2, .int (nI c)), (3, .int u), (4, .int (nI k))] [] h Q := by
  refine xe_iload_n dX10_sign_45 rfl ?_
  refine xe_bipush dX10_sign_46 kb_43 ?_
  refine xn_icmp_ne (tgt := 55) dX10_sign_48 rfl (by omega) (by omega) (fun c1 => ?_) (fun c1 => ?_)
  · rw [if_neg c1] at K
    exact xe_locals (L' := [(0, .ref 124), (1, .int (nI p)), (2, .int (nI c)), (3, .int u), (4, .int (nI k))]) ⟨rfl, rfl, rfl, rfl, rfl, trivial⟩ K
  · refine xe_bipush dX10_sign_51 kb_8 ?_
    refine xe_istore dX10_sign_53 (by decide) rfl ?_
    rw [if_pos c1] at K
    exact xe_locals (L' := [(0, .ref 124), (1, .int (nI p)), (2, .int (nI c)), (3, .int u), (4, .int (nI 8))]) ⟨rfl, rfl, rfl, rfl, rfl, trivial⟩ K
theorem sgn_55 (l : Launch) (g : q_GP) (h : q_H) (hs : q_Stat h) {m : Nat} (h10 : q_I h 124 10 = nI m) (hm : m ≤ 400) {c p k : Nat} (hc : c < 256) {u : Int32} {Q : Option Value → q_H → Prop} (K : q_Ex l g 1 mX10_sign 65 [(0, .ref 124), (1, .int (nI p)), (2, .int (nI c)), (3, .int u), (4, .int (nI (if c = 45 then 9 else k)))] [] h Q) : q_Ex l g 1 mX10_sign 55 [(0, .ref 124), (1, .int (nI p)), (2, .int (nI c)), (3, .int u), (4, .int (nI k))] [] h Q := by
  refine xe_iload_n dX10_sign_55 rfl ?_
  refine xe_bipush dX10_sign_56 kb_45 ?_
  refine xn_icmp_ne (tgt := 65) dX10_sign_58 rfl (by omega) (by omega) (fun c1 => ?_) (fun c1 => ?_)
  · rw [if_neg c1] at K
    exact xe_locals (L' := [(0, .ref 124), (1, .int (nI p)), (2, .int (nI c)), (3, .int u), (4, .int (nI k))]) ⟨rfl, rfl, rfl, rfl, rfl, trivial⟩ K
  · refine xe_bipush dX10_sign_61 kb_9 ?_
    refine xe_istore dX10_sign_63 (by decide) rfl ?_
    rw [if_pos c1] at K
    exact xe_locals (L' := [(0, .ref 124), (1, .int (nI p)), (2, .int (nI c)), (3, .int u), (4, .int (nI 9))]) ⟨rfl, rfl, rfl, rfl, rfl, trivial⟩ K
theorem sgn_65 (l : Launch) (g : q_GP) (h : q_H) (hs : q_Stat h) {m : Nat} (h10 : q_I h 124 10 = nI m) (hm : m ≤ 400) {c p k : Nat} (hc : c < 256) {u : Int32} {Q : Option Value → q_H → Prop} (K : q_Ex l g 1 mX10_sign 75 [(0, .ref 124), (1, .int (nI p)), (2, .int (nI c)), (3, .int u), (4, .int (nI (if c = 42 then 10 else k)))] [] h Q) : q_Ex l g 1 mX10_sign 65 [(0, .ref 124), (1, .int (nI p)), (2, .int (nI c)), (3, .int u), (4, .int (nI k))] [] h Q := by
  refine xe_iload_n dX10_sign_65 rfl ?_
  refine xe_bipush dX10_sign_66 kb_42 ?_
  refine xn_icmp_ne (tgt := 75) dX10_sign_68 rfl (by omega) (by omega) (fun c1 => ?_) (fun c1 => ?_)
  · rw [if_neg c1] at K
    exact xe_locals (L' := [(0, .ref 124), (1, .int (nI p)), (2, .int (nI c)), (3, .int u), (4, .int (nI k))]) ⟨rfl, rfl, rfl, rfl, rfl, trivial⟩ K
  · refine xe_bipush dX10_sign_71 kb_10 ?_
    refine xe_istore dX10_sign_73 (by decide) rfl ?_
    rw [if_pos c1] at K
    exact xe_locals (L' := [(0, .ref 124), (1, .int (nI p)), (2, .int (nI c)), (3, .int u), (4, .int (nI 10))]) ⟨rfl, rfl, rfl, rfl, rfl, trivial⟩ K
theorem sgn_75 (l : Launch) (g : q_GP) (h : q_H) (hs : q_Stat h) {m : Nat} (h10 : q_I h 124 10 = nI m) (hm : m ≤ 400) {c p k : Nat} (hc : c < 256) {u : Int32} {Q : Option Value → q_H → Prop} (K : q_Ex l g 1 mX10_sign 85 [(0, .ref 124), (1, .int (nI p)), (2, .int (nI c)), (3, .int u), (4, .int (nI (if c = 47 then 15 else k)))] [] h Q) : q_Ex l g 1 mX10_sign 75 [(0, .ref 124), (1, .int (nI p)), (2, .int (nI c)), (3, .int u), (4, .int (nI k))] [] h Q := by
  refine xe_iload_n dX10_sign_75 rfl ?_
  refine xe_bipush dX10_sign_76 kb_47 ?_
  refine xn_icmp_ne (tgt := 85) dX10_sign_78 rfl (by omega) (by omega) (fun c1 => ?_) (fun c1 => ?_)
  · rw [if_neg c1] at K
    exact xe_locals (L' := [(0, .ref 124), (1, .int (nI p)), (2, .int (nI c)), (3, .int u), (4, .int (nI k))]) ⟨rfl, rfl, rfl, rfl, rfl, trivial⟩ K
  · refine xe_bipush dX10_sign_81 kb_15 ?_
    refine xe_istore dX10_sign_83 (by decide) rfl ?_
    rw [if_pos c1] at K
    exact xe_locals (L' := [(0, .ref 124), (1, .int (nI p)), (2, .int (nI c)), (3, .int u), (4, .int (nI 15))]) ⟨rfl, rfl, rfl, rfl, rfl, trivial⟩ K
theorem sgn_85 (l : Launch) (g : q_GP) (h : q_H) (hs : q_Stat h) {m : Nat} (h10 : q_I h 124 10 = nI m) (hm : m ≤ 400) {c p k : Nat} (hc : c < 256) {u : Int32} {Q : Option Value → q_H → Prop} (K : q_Ex l g 1 mX10_sign 95 [(0, .ref 124), (1, .int (nI p)), (2, .int (nI c)), (3, .int u), (4, .int (nI (if c = 60 then 13 else k)))] [] h Q) : q_Ex l g 1 mX10_sign 85 [(0, .ref 124), (1, .int (nI p)), (2, .int (nI c)), (3, .int u), (4, .int (nI k))] [] h Q := by
  refine xe_iload_n dX10_sign_85 rfl ?_
  refine xe_bipush dX10_sign_86 kb_60 ?_
  refine xn_icmp_ne (tgt := 95) dX10_sign_88 rfl (by omega) (by omega) (fun c1 => ?_) (fun c1 => ?_)
  · rw [if_neg c1] at K
    exact xe_locals (L' := [(0, .ref 124), (1, .int (nI p)), (2, .int (nI c)), (3, .int u), (4, .int (nI k))]) ⟨rfl, rfl, rfl, rfl, rfl, trivial⟩ K
  · refine xe_bipush dX10_sign_91 kb_13 ?_
    refine xe_istore dX10_sign_93 (by decide) rfl ?_
    rw [if_pos c1] at K
    exact xe_locals (L' := [(0, .ref 124), (1, .int (nI p)), (2, .int (nI c)), (3, .int u), (4, .int (nI 13))]) ⟨rfl, rfl, rfl, rfl, rfl, trivial⟩ K
def tz_s1 (c : Nat) : Nat := if c = 59 then 4 else if c = 61 then 5 else if c = 40 then 6 else if c = 41 then 7 else 3
theorem tz_s1_sg : ∀ c, c < 256 → (if c = 60 then 13 else if c = 47 then 15 else if c = 42 then 10 else if c = 45 then 9 else if c = 43 then 8 else tz_s1 c) = tz_sg c := by decide +kernel
theorem sgn_0 (l : Launch) (g : q_GP) (h : q_H) (hs : q_Stat h) {m : Nat} (h10 : q_I h 124 10 = nI m) (hm : m ≤ 400) {c p k : Nat} (hc : c < 256) {u : Int32} {Q : Option Value → q_H → Prop} (K : q_Ex l g 1 mX10_sign 45 [(0, .ref 124), (1, .int (nI p)), (2, .int (nI c)), (3, .int u), (4, .int (nI (tz_s1 c)))] [] h Q) : q_Ex l g 1 mX10_sign 0 [(0, .ref 124), (1, .int (nI p)), (2, .int (nI c)), (3, .int u)] [] h Q := by
  refine xe_iload_n dX10_sign_0 rfl ?_
  refine xe_bipush dX10_sign_1 kb_59 ?_
  refine xn_icmp_ne (tgt := 10) dX10_sign_3 rfl (by omega) (by omega) (fun c1 => ?_) (fun c1 => ?_)
  · refine xe_iload_n dX10_sign_10 rfl ?_
    refine xe_bipush dX10_sign_11 kb_61 ?_
    refine xn_icmp_ne (tgt := 20) dX10_sign_13 rfl (by omega) (by omega) (fun c2 => ?_) (fun c2 => ?_)
    · refine xe_iload_n dX10_sign_20 rfl ?_
      refine xe_bipush dX10_sign_21 kb_40 ?_
      refine xn_icmp_ne (tgt := 31) dX10_sign_23 rfl (by omega) (by omega) (fun c3 => ?_) (fun c3 => ?_)
      · refine xe_iload_n dX10_sign_31 rfl ?_
        refine xe_bipush dX10_sign_32 kb_41 ?_
        refine xn_icmp_ne (tgt := 42) dX10_sign_34 rfl (by omega) (by omega) (fun c4 => ?_) (fun c4 => ?_)
        · refine xe_iconst dX10_sign_42 kc_3 ?_
          refine xe_istore dX10_sign_43 (by decide) rfl ?_
          rw [show tz_s1 c = 3 from ((if_neg c1).trans ((if_neg c2).trans ((if_neg c3).trans (if_neg c4))))] at K
          exact xe_locals (L' := [(0, .ref 124), (1, .int (nI p)), (2, .int (nI c)), (3, .int u), (4, .int (nI 3))]) ⟨rfl, rfl, rfl, rfl, rfl, trivial⟩ K
        · refine xe_bipush dX10_sign_37 kb_7 ?_
          refine xe_goto (tgt := 43) dX10_sign_39 rfl ?_
          refine xe_istore dX10_sign_43 (by decide) rfl ?_
          rw [show tz_s1 c = 7 from ((if_neg c1).trans ((if_neg c2).trans ((if_neg c3).trans (if_pos c4))))] at K
          exact xe_locals (L' := [(0, .ref 124), (1, .int (nI p)), (2, .int (nI c)), (3, .int u), (4, .int (nI 7))]) ⟨rfl, rfl, rfl, rfl, rfl, trivial⟩ K
      · refine xe_bipush dX10_sign_26 kb_6 ?_
        refine xe_goto (tgt := 43) dX10_sign_28 rfl ?_
        refine xe_istore dX10_sign_43 (by decide) rfl ?_
        rw [show tz_s1 c = 6 from ((if_neg c1).trans ((if_neg c2).trans (if_pos c3)))] at K
        exact xe_locals (L' := [(0, .ref 124), (1, .int (nI p)), (2, .int (nI c)), (3, .int u), (4, .int (nI 6))]) ⟨rfl, rfl, rfl, rfl, rfl, trivial⟩ K
    · refine xe_iconst dX10_sign_16 kc_5 ?_
      refine xe_goto (tgt := 43) dX10_sign_17 rfl ?_
      refine xe_istore dX10_sign_43 (by decide) rfl ?_
      rw [show tz_s1 c = 5 from ((if_neg c1).trans (if_pos c2))] at K
      exact xe_locals (L' := [(0, .ref 124), (1, .int (nI p)), (2, .int (nI c)), (3, .int u), (4, .int (nI 5))]) ⟨rfl, rfl, rfl, rfl, rfl, trivial⟩ K
  · refine xe_iconst dX10_sign_6 kc_4 ?_
    refine xe_goto (tgt := 43) dX10_sign_7 rfl ?_
    refine xe_istore dX10_sign_43 (by decide) rfl ?_
    rw [show tz_s1 c = 4 from (if_pos c1)] at K
    exact xe_locals (L' := [(0, .ref 124), (1, .int (nI p)), (2, .int (nI c)), (3, .int u), (4, .int (nI 4))]) ⟨rfl, rfl, rfl, rfl, rfl, trivial⟩ K
theorem c_X10_sign (l : Launch) (g : q_GP) (h : q_H) (hs : q_Stat h) {m : Nat} (h10 : q_I h 124 10 = nI m) (hm : m ≤ 400) {c p : Nat} (hc : c < 256) (u : Int32) : q_Cd l g 1 mX10_sign [.ref 124, .int (nI p), .int (nI c), .int u] h (some (.int (nI 1))) (q_tkn h m (nI (tz_sg c)) (nI p) (nI 0) 0) := by
  refine q_CdV mvX10_sign (Nat.le_of_ble_eq_true rfl) ?_
  refine sgn_0 l g h hs h10 hm (k := 0) hc (u := u) (sgn_45 l g h hs h10 hm hc (sgn_55 l g h hs h10 hm hc (sgn_65 l g h hs h10 hm hc (sgn_75 l g h hs h10 hm hc (sgn_85 l g h hs h10 hm hc ?_)))))
  rw [tz_s1_sg c hc]
  refine xe_aload_n dX10_sign_95 rfl ?_
  refine xe_iload dX10_sign_96 rfl ?_
  refine xe_iload_n dX10_sign_98 rfl ?_
  refine xe_iconst dX10_sign_99 kc_0 ?_
  refine xe_lconst dX10_sign_100 rfl ?_
  refine xe_callVV (d' := 0) (y' := mX10_token) dX10_sign_101 mlX10_183 mvX10_token rfl (st124 hs) (by decide) rfl (by decide) (by decide) (Nat.le_of_ble_eq_true rfl) (c_X10_token l g _ (by exact hs) (m := m) (by exact h10) (by omega) _ _ _ _) rfl ?_
  refine xe_iconst dX10_sign_104 kc_1 ?_
  refine xe_ireturn dX10_sign_105 rfl (by first | rfl | decide +kernel) ?_
  exact ⟨rfl, rfl⟩
