/-! the class: bytes, letters, figures of its tape -/
def tb_B (h : q_H) (n : Nat) (B : Nat → Nat) : Prop := q_I h 1 1 = nI n ∧ n ≤ 2000 ∧ (∀ i, i < n → q_I h 2 i &&& nI 255 = nI (B i)) ∧ ∀ i, B i < 256
theorem tb_at {h : q_H} {n : Nat} {B : Nat → Nat} {v : Int32} (a : tb_B h n B) : tb_B (q_wI h 1 (upd (q_I h 1) 6 v)) n B := a
def ck_W (h : q_H) : Prop := ∀ w, w < 17 → q_J h 6 w = q_e5 (tz_kw.getD w [])
def tz_a (x : Int64) (c : Nat) : Int64 := (x <<< ((nI 5).toInt64 &&& 63)) ||| (nI (c - 96)).toInt64
theorem tz_a_n {a c : Nat} (ha : a < 2 ^ 40) (hc : c < 32) : (Int64.ofNat a <<< ((nI 5).toInt64 &&& 63)) ||| Int64.ofNat c = Int64.ofNat (a * 32 + c) := by
  rw [show (nI 5).toInt64 &&& 63 = 5 from by decide +kernel]
  apply Int64.toBitVec_inj.mp
  rw [Int64.toBitVec_or, Int64.toBitVec_shiftLeft]
  show BitVec.ofNat 64 a <<< ((5 : Int64).toBitVec.smod 64) ||| BitVec.ofNat 64 c = BitVec.ofNat 64 (a * 32 + c)
  apply BitVec.eq_of_toNat_eq
  rw [show (5 : Int64).toBitVec.smod 64 = 5#64 from by decide +kernel, BitVec.toNat_or, BitVec.shiftLeft_eq', BitVec.toNat_shiftLeft, BitVec.toNat_ofNat, BitVec.toNat_ofNat, BitVec.toNat_ofNat, BitVec.toNat_ofNat, Nat.mod_eq_of_lt (a := 5) (by omega), Nat.mod_eq_of_lt (a := a) (by omega), Nat.mod_eq_of_lt (a := c) (by omega), Nat.mod_eq_of_lt (a := a * 32 + c) (by omega), Nat.shiftLeft_eq, Nat.mod_eq_of_lt (by omega), show (2 : Nat) ^ 5 = 32 from rfl]
  have := Nat.shiftLeft_add_eq_or_of_lt (b := c) (i := 5) (by omega) a
  rw [Nat.shiftLeft_eq] at this
  exact this.symm
theorem tz_a_e {l : List Nat} {c : Nat} (hl : nm_ok l) (h1 : 97 ≤ c) (h2 : c ≤ 122) : tz_a (q_e5 l) c = q_e5 (l ++ [c - 96]) := by
  unfold tz_a q_e5
  rw [nI_l (n := c - 96) (by omega)]
  refine (tz_a_n (a := q_n5 l) (c := c - 96) (q_n5_lt hl) (by omega)).trans ?_
  unfold q_n5
  rw [q_f5_app]
theorem tz_if0 {P : Prop} [Decidable P] : ((if P then nI 1 else nI 0 : Int32) = 0) ↔ ¬ P := by
  by_cases q : P
  · rw [if_pos q]
    exact ⟨fun e => absurd e (by decide), fun e => absurd q e⟩
  · rw [if_neg q]
    exact ⟨fun _ => q, fun _ => by decide⟩
theorem q_kap_w {k : Nat} (h : 20 ≤ k) : q_kap k = nI (k + 236) := by
  unfold q_kap q_kn
  repeat (first | rfl | (rw [if_neg (by omega)]))
theorem tz_num {a b : Nat} (hb : 48 ≤ b) : nI a * nI 10 + nI b - nI 48 = nI (a * 10 + (b - 48)) := by
  obtain ⟨k, rfl⟩ : ∃ k, b = k + 48 := ⟨b - 48, by omega⟩
  rw [show k + 48 - 48 = k by omega, ← nI_add k 48, ← nI_add (a * 10) k, show nI (a * 10) = nI a * nI 10 from Int32.ofNat_mul a 10]
  generalize nI a * nI 10 = x
  generalize nI k = y
  rw [← Int32.add_assoc]
  exact Int32.add_sub_cancel _ _
/-- what a token's scan leaves alone -/
def tz_fr (i : Nat) (h h1 : q_H) : Prop := h1.2.2 = h.2.2 ∧ (∀ r, r ≠ 1 → q_I h1 r = q_I h r) ∧ (∀ k, k ≠ 6 → q_I h1 1 k = q_I h 1 k) ∧ (∀ r, r ≠ 5 → q_J h1 r = q_J h r) ∧ ∀ j, j ≠ i → q_J h1 5 j = q_J h 5 j
theorem tz_fr_a {i : Nat} {h : q_H} {v : Int32} : tz_fr i h (q_wI h 1 (upd (q_I h 1) 6 v)) := ⟨rfl, fun r hr => q_Ine hr, fun k hk => if_neg hk, fun _ _ => rfl, fun _ _ => rfl⟩
theorem tz_fr_j {i : Nat} {h : q_H} {v : Int32} {x : Int64} : tz_fr i h (q_wJ (q_wI h 1 (upd (q_I h 1) 6 v)) 5 (vp_updL (q_J h 5) i x)) := ⟨rfl, fun r hr => q_Ine hr, fun k hk => if_neg hk, fun r hr => if_neg hr, fun j hj => if_neg hj⟩
theorem tz_uid {f : Nat → Int32} {k : Nat} {v : Int32} (h : f k = v) : upd f k v = f := by
  funext j
  unfold upd
  split
  · rw [← h]
    congr 1
    exact (by assumption : j = k).symm
  · rfl
theorem tz_fr_r {i : Nat} {h : q_H} : tz_fr i h h := ⟨rfl, fun _ _ => rfl, fun _ _ => rfl, fun _ _ => rfl, fun _ _ => rfl⟩
theorem c_X7_byteAt_t (l : Launch) (g : q_GP) (h : q_H) (hs : q_Stat h) {n : Nat} {B : Nat → Nat} (hB : tb_B h n B) {p : Nat} (hp : p < n) : q_Cd l g 0 mX7_byteAt [.ref 1, .int (nI p)] h (some (.int (nI (B p)))) h := by
  have hn := hB.2.1
  have hb := hB.2.2.2 p
  refine q_CdV mvX7_byteAt (Nat.le_of_ble_eq_true rfl) ?_
  refine xe_iload_n dX7_byteAt_0 rfl ?_
  refine xn_if_lt (tgt := 32) dX7_byteAt_1 rfl (by omega) ?_
  refine xe_iload_n dX7_byteAt_4 rfl ?_
  refine xe_aload_n dX7_byteAt_5 rfl ?_
  refine xe_getIv dX7_byteAt_6 flX7_45 (st1 hs) (by decide) rfl (v := nI n) (hB.1) ?_
  refine xn_icmp_ge (tgt := 32) dX7_byteAt_9 rfl (by omega) (by omega) (fun c2 => ?_) (fun c2 => ?_)
  · omega
  · refine xe_iload_n dX7_byteAt_12 rfl ?_
    refine xe_sipush dX7_byteAt_13 ks_2000 ?_
    refine xn_icmp_ge (tgt := 32) dX7_byteAt_16 rfl (by omega) (by omega) (fun c3 => ?_) (fun c3 => ?_)
    · omega
    · refine xe_aload_n dX7_byteAt_19 rfl ?_
      refine xe_getP dX7_byteAt_20 flX7_11 (st1 hs) (by decide) rfl (sp1_0 hs) ?_
      refine xe_iload_n dX7_byteAt_23 rfl ?_
      refine xn_baldv dX7_byteAt_24 (st2 hs) (by omega) (by decide) (v := ((q_I h 2) p)) (rfl) ?_
      refine xe_sipush dX7_byteAt_25 ks_255 ?_
      refine xe_iand dX7_byteAt_28 ?_
      refine xe_top (v' := nI (B p)) (hB.2.2.1 p hp) ?_
      refine xe_goto (tgt := 33) dX7_byteAt_29 rfl ?_
      refine xe_ireturn dX7_byteAt_33 rfl (by first | rfl | decide +kernel) ?_
      exact ⟨rfl, rfl⟩
theorem c_X7_byteAt_f (l : Launch) (g : q_GP) (h : q_H) (hs : q_Stat h) {n : Nat} {B : Nat → Nat} (hB : tb_B h n B) {p : Nat} (hp : n ≤ p) (hp2 : p ≤ 2000) : q_Cd l g 0 mX7_byteAt [.ref 1, .int (nI p)] h (some (.int (-1))) h := by
  have hn := hB.2.1
  refine q_CdV mvX7_byteAt (Nat.le_of_ble_eq_true rfl) ?_
  refine xe_iload_n dX7_byteAt_0 rfl ?_
  refine xn_if_lt (tgt := 32) dX7_byteAt_1 rfl (by omega) ?_
  refine xe_iload_n dX7_byteAt_4 rfl ?_
  refine xe_aload_n dX7_byteAt_5 rfl ?_
  refine xe_getIv dX7_byteAt_6 flX7_45 (st1 hs) (by decide) rfl (v := nI n) (hB.1) ?_
  refine xn_icmp_ge (tgt := 32) dX7_byteAt_9 rfl (by omega) (by omega) (fun c2 => ?_) (fun c2 => ?_)
  · refine xe_iconst dX7_byteAt_32 kc_m1 ?_
    refine xe_ireturn dX7_byteAt_33 rfl (by first | rfl | decide +kernel) ?_
    exact ⟨rfl, rfl⟩
  · omega
theorem c_X7_isLetter (l : Launch) (g : q_GP) (h : q_H) {c : Nat} (hc : c < 256) : q_Cd l g 0 mX7_isLetter [.int (nI c)] h (some (.int (if tz_le c = true then nI 1 else nI 0))) h := by
  refine q_CdS msX7_isLetter (Nat.le_of_ble_eq_true rfl) ?_
  refine xe_iload_n dX7_isLetter_0 rfl ?_
  refine xe_bipush dX7_isLetter_1 kb_97 ?_
  refine xn_icmp_lt (tgt := 16) dX7_isLetter_3 rfl (by omega) (by omega) (fun c1 => ?_) (fun c1 => ?_)
  · refine xe_iconst dX7_isLetter_16 kc_0 ?_
    refine xe_ireturn dX7_isLetter_17 rfl (by first | rfl | decide +kernel) ?_
    exact ⟨congrArg (fun v => some (Value.int v)) (if_neg (fun q => absurd (tz_le_i.mp q) (by omega))).symm, rfl⟩
  · refine xe_iload_n dX7_isLetter_6 rfl ?_
    refine xe_bipush dX7_isLetter_7 kb_122 ?_
    refine xn_icmp_gt (tgt := 16) dX7_isLetter_9 rfl (by omega) (by omega) (fun c2 => ?_) (fun c2 => ?_)
    · refine xe_iconst dX7_isLetter_16 kc_0 ?_
      refine xe_ireturn dX7_isLetter_17 rfl (by first | rfl | decide +kernel) ?_
      exact ⟨congrArg (fun v => some (Value.int v)) (if_neg (fun q => absurd (tz_le_i.mp q) (by omega))).symm, rfl⟩
    · refine xe_iconst dX7_isLetter_12 kc_1 ?_
      refine xe_goto (tgt := 17) dX7_isLetter_13 rfl ?_
      refine xe_ireturn dX7_isLetter_17 rfl (by first | rfl | decide +kernel) ?_
      exact ⟨congrArg (fun v => some (Value.int v)) (if_pos (tz_le_i.mpr ⟨by omega, by omega⟩)).symm, rfl⟩
theorem c_X7_isDigit (l : Launch) (g : q_GP) (h : q_H) {c : Nat} (hc : c < 256) : q_Cd l g 0 mX7_isDigit [.int (nI c)] h (some (.int (if tz_di c = true then nI 1 else nI 0))) h := by
  refine q_CdS msX7_isDigit (Nat.le_of_ble_eq_true rfl) ?_
  refine xe_iload_n dX7_isDigit_0 rfl ?_
  refine xe_bipush dX7_isDigit_1 kb_48 ?_
  refine xn_icmp_lt (tgt := 16) dX7_isDigit_3 rfl (by omega) (by omega) (fun c1 => ?_) (fun c1 => ?_)
  · refine xe_iconst dX7_isDigit_16 kc_0 ?_
    refine xe_ireturn dX7_isDigit_17 rfl (by first | rfl | decide +kernel) ?_
    exact ⟨congrArg (fun v => some (Value.int v)) (if_neg (fun q => absurd (tz_di_i.mp q) (by omega))).symm, rfl⟩
  · refine xe_iload_n dX7_isDigit_6 rfl ?_
    refine xe_bipush dX7_isDigit_7 kb_57 ?_
    refine xn_icmp_gt (tgt := 16) dX7_isDigit_9 rfl (by omega) (by omega) (fun c2 => ?_) (fun c2 => ?_)
    · refine xe_iconst dX7_isDigit_16 kc_0 ?_
      refine xe_ireturn dX7_isDigit_17 rfl (by first | rfl | decide +kernel) ?_
      exact ⟨congrArg (fun v => some (Value.int v)) (if_neg (fun q => absurd (tz_di_i.mp q) (by omega))).symm, rfl⟩
    · refine xe_iconst dX7_isDigit_12 kc_1 ?_
      refine xe_goto (tgt := 17) dX7_isDigit_13 rfl ?_
      refine xe_ireturn dX7_isDigit_17 rfl (by first | rfl | decide +kernel) ?_
      exact ⟨congrArg (fun v => some (Value.int v)) (if_pos (tz_di_i.mpr ⟨by omega, by omega⟩)).symm, rfl⟩
theorem c_X7_isBlank (l : Launch) (g : q_GP) (h : q_H) {c : Nat} (hc : c < 256) : q_Cd l g 0 mX7_isBlank [.int (nI c)] h (some (.int (if tz_bl c = true then nI 1 else nI 0))) h := by
  refine q_CdS msX7_isBlank (Nat.le_of_ble_eq_true rfl) ?_
  refine xe_iload_n dX7_isBlank_0 rfl ?_
  refine xe_bipush dX7_isBlank_1 kb_32 ?_
  refine xn_icmp_eq (tgt := 24) dX7_isBlank_3 rfl (by omega) (by omega) (fun c1 => ?_) (fun c1 => ?_)
  · refine xe_iconst dX7_isBlank_24 kc_1 ?_
    refine xe_goto (tgt := 29) dX7_isBlank_25 rfl ?_
    refine xe_ireturn dX7_isBlank_29 rfl (by first | rfl | decide +kernel) ?_
    first | exact ⟨congrArg (fun v => some (Value.int v)) (if_pos (tz_bl_i.mpr (by omega))).symm, rfl⟩ | exact ⟨congrArg (fun v => some (Value.int v)) (if_neg (fun q => absurd (tz_bl_i.mp q) (by omega))).symm, rfl⟩
  · refine xe_iload_n dX7_isBlank_6 rfl ?_
    refine xe_bipush dX7_isBlank_7 kb_9 ?_
    refine xn_icmp_eq (tgt := 24) dX7_isBlank_9 rfl (by omega) (by omega) (fun c2 => ?_) (fun c2 => ?_)
    · refine xe_iconst dX7_isBlank_24 kc_1 ?_
      refine xe_goto (tgt := 29) dX7_isBlank_25 rfl ?_
      refine xe_ireturn dX7_isBlank_29 rfl (by first | rfl | decide +kernel) ?_
      first | exact ⟨congrArg (fun v => some (Value.int v)) (if_pos (tz_bl_i.mpr (by omega))).symm, rfl⟩ | exact ⟨congrArg (fun v => some (Value.int v)) (if_neg (fun q => absurd (tz_bl_i.mp q) (by omega))).symm, rfl⟩
    · refine xe_iload_n dX7_isBlank_12 rfl ?_
      refine xe_bipush dX7_isBlank_13 kb_10 ?_
      refine xn_icmp_eq (tgt := 24) dX7_isBlank_15 rfl (by omega) (by omega) (fun c3 => ?_) (fun c3 => ?_)
      · refine xe_iconst dX7_isBlank_24 kc_1 ?_
        refine xe_goto (tgt := 29) dX7_isBlank_25 rfl ?_
        refine xe_ireturn dX7_isBlank_29 rfl (by first | rfl | decide +kernel) ?_
        first | exact ⟨congrArg (fun v => some (Value.int v)) (if_pos (tz_bl_i.mpr (by omega))).symm, rfl⟩ | exact ⟨congrArg (fun v => some (Value.int v)) (if_neg (fun q => absurd (tz_bl_i.mp q) (by omega))).symm, rfl⟩
      · refine xe_iload_n dX7_isBlank_18 rfl ?_
        refine xe_bipush dX7_isBlank_19 kb_13 ?_
        refine xn_icmp_ne (tgt := 28) dX7_isBlank_21 rfl (by omega) (by omega) (fun c4 => ?_) (fun c4 => ?_)
        · refine xe_iconst dX7_isBlank_28 kc_0 ?_
          refine xe_ireturn dX7_isBlank_29 rfl (by first | rfl | decide +kernel) ?_
          first | exact ⟨congrArg (fun v => some (Value.int v)) (if_pos (tz_bl_i.mpr (by omega))).symm, rfl⟩ | exact ⟨congrArg (fun v => some (Value.int v)) (if_neg (fun q => absurd (tz_bl_i.mp q) (by omega))).symm, rfl⟩
        · refine xe_iconst dX7_isBlank_24 kc_1 ?_
          refine xe_goto (tgt := 29) dX7_isBlank_25 rfl ?_
          refine xe_ireturn dX7_isBlank_29 rfl (by first | rfl | decide +kernel) ?_
          first | exact ⟨congrArg (fun v => some (Value.int v)) (if_pos (tz_bl_i.mpr (by omega))).symm, rfl⟩ | exact ⟨congrArg (fun v => some (Value.int v)) (if_neg (fun q => absurd (tz_bl_i.mp q) (by omega))).symm, rfl⟩
theorem c_X7_withLetter (l : Launch) (g : q_GP) (h : q_H) (x : Int64) {c : Nat} (h1 : 97 ≤ c) (h2 : c ≤ 122) : q_Cd l g 0 mX7_withLetter [.long x, .int (nI c)] h (some (.long (tz_a x c))) h := by
  refine q_CdS msX7_withLetter (Nat.le_of_ble_eq_true rfl) ?_
  refine xe_lload_n dX7_withLetter_0 rfl ?_
  refine xe_iconst dX7_withLetter_1 kc_5 ?_
  refine xe_lshl dX7_withLetter_2 rfl ?_
  refine xe_iload_n dX7_withLetter_3 rfl ?_
  refine xe_bipush dX7_withLetter_4 kb_97 ?_
  refine xn_isub dX7_withLetter_6 (by omega) ?_
  refine xe_iconst dX7_withLetter_7 kc_1 ?_
  refine xn_iadd dX7_withLetter_8 ?_
  refine xe_top (v' := nI (c - 96)) (congrArg nI (by omega)) ?_
  refine xe_i2l dX7_withLetter_9 rfl ?_
  refine xe_lor dX7_withLetter_10 ?_
  refine xe_lreturn dX7_withLetter_11 rfl ?_
  exact ⟨rfl, rfl⟩
theorem tzl_59 (l : Launch) (g : q_GP) (h : q_H) (hs : q_Stat h) {n : Nat} {B : Nat → Nat} (hB : tb_B h n B) {p i : Nat} (hp : p < n) (hi : i ≤ 400) (hl : tz_le (B p) = true) (hW : ck_W h) {e : Nat} (he : tz_to tz_le n B p = e) {x : Int64} (hx : e - p ≤ 8 → x = q_e5 (tz_w B p e)) : q_Ex l g 1 mX7_scanLetters 59 [(0, .ref 1), (1, .int (nI i)), (2, .long x), (4, .int (nI p))] [] (q_wI h 1 (upd (q_I h 1) 6 (nI e))) (fun r h1 => r = some (.int (q_kap (tz_k n B p))) ∧ tz_fr i h h1 ∧ q_I h1 1 6 = nI (tz_e n B p) ∧ (tz_k n B p = 1 → q_J h1 5 i = q_e5 (tz_w B p (tz_to tz_le n B p))) ∧ (tz_k n B p = 2 → (q_J h1 5 i).toInt32 = nI (tz_v B p (tz_to tz_di n B p - p)))) := by
  have hn := hB.2.1
  have hgt := tz_gt hp hl
  have hle := tz_to_le (P := tz_le) (B := B) (Nat.le_of_lt hp)
  rw [he] at hgt hle
  have hk := tz_k_l hp hl
  have hee := tz_e_l hp hl
  rw [he] at hk hee
  refine xe_aload_n dX7_scanLetters_59 rfl ?_
  refine xe_getIv dX7_scanLetters_60 flX7_48 (st1 hs) (by decide) rfl (v := nI e) (rfl) ?_
  refine xe_iload dX7_scanLetters_63 rfl ?_
  refine xn_isub dX7_scanLetters_65 (by omega) ?_
  refine xe_bipush dX7_scanLetters_66 kb_8 ?_
  refine xn_icmp_le (tgt := 73) dX7_scanLetters_68 rfl (by omega) (by omega) (fun c1 => ?_) (fun c1 => ?_)
  · have hnm : nm_ok (tz_w B p e) := tz_w_ok (by omega) (fun j h1 h2 => tz_in (n := n) h1 (by rw [he]; exact h2))
    refine xe_aload_n dX7_scanLetters_73 rfl ?_
    refine xe_getP dX7_scanLetters_74 flX7_22 (st1 hs) (by decide) rfl (sp1_4 hs) ?_
    refine xe_iload_n dX7_scanLetters_77 rfl ?_
    refine xe_lload_n dX7_scanLetters_78 rfl ?_
    refine xn_last dX7_scanLetters_79 (st5 hs) (by omega) (by decide) ?_
    refine xe_iconst dX7_scanLetters_80 kc_0 ?_
    refine xe_istore dX7_scanLetters_81 (by decide) rfl ?_
    refine xe_fin (L' := (fun (w : Nat) (s2 : Unit) => [(0, .ref 1), (1, .int (nI i)), (2, .long x), (4, .int (nI p)), (5, .int (nI w))]) 0 ()) (h' := (fun (w : Nat) (s2 : Unit) => (q_wJ (q_wI h 1 (upd (q_I h 1) 6 (nI e))) 5 (vp_updL (q_J h 5) i x))) 0 ()) ?_ (And.intro rfl (And.intro rfl (And.intro rfl (And.intro rfl (And.intro rfl trivial))))) (q_heqJ [1] [5] (H := h) (by repeat (first | exact q_outJ_r | refine q_outJ_w rfl ?_ | refine q_outJ_j rfl ?_)) (by repeat (first | exact q_outJ_r | refine q_outJ_w rfl ?_ | refine q_outJ_j rfl ?_)) (And.intro (q_feq [6] (f := q_I h 1) (by repeat (first | exact q_fout_r | refine q_fout_w rfl ?_)) (by repeat (first | exact q_fout_r | refine q_fout_w rfl ?_)) (And.intro rfl trivial)) trivial) (And.intro rfl trivial))
    refine xe_loopW (σ := Unit) (17) (fun w _ => ∀ w1, w1 < w → tz_kw.getD w1 [] ≠ tz_w B p e) (fun (w : Nat) (s2 : Unit) => [(0, .ref 1), (1, .int (nI i)), (2, .long x), (4, .int (nI p)), (5, .int (nI w))]) (fun (w : Nat) (s2 : Unit) => (q_wJ (q_wI h 1 (upd (q_I h 1) 6 (nI e))) 5 (vp_updL (q_J h 5) i x))) () ((fun w1 q => absurd q (Nat.not_lt_zero _))) (fun w hw s2 e2 K2 => ?_)
    · refine xe_iload dX7_scanLetters_83 rfl ?_
      refine xe_bipush dX7_scanLetters_85 kb_17 ?_
      refine xn_icmp_ge (tgt := 115) dX7_scanLetters_87 rfl (by omega) (by omega) (fun c3 => ?_) (fun c3 => ?_)
      · refine xe_iconst dX7_scanLetters_115 kc_1 ?_
        refine xe_ireturn dX7_scanLetters_116 rfl (by first | rfl | decide +kernel) ?_
        have hki : tz_ki (tz_w B p e) 17 = 1 := tz_ki_no 17 (fun w1 hw1 => e2 w1 (by omega))
        rw [if_neg (by omega), hki] at hk
        rw [hk, hee, he]
        refine ⟨?_, tz_fr_j, rfl, fun q => ?_, fun q => absurd q (by omega)⟩
        · exact rfl
        · exact (if_pos rfl : vp_updL (q_J h 5) i x i = x).trans (hx (by omega))
      · refine xe_aload_n dX7_scanLetters_90 rfl ?_
        refine xe_getP dX7_scanLetters_91 flX7_26 (st1 hs) (by decide) rfl (sp1_5 hs) ?_
        refine xe_iload dX7_scanLetters_94 rfl ?_
        refine xn_laldv dX7_scanLetters_96 (st6 hs) (by omega) (by decide) (v := (q_e5 (tz_kw.getD w []))) (hW w (by omega)) ?_
        refine xe_lload_n dX7_scanLetters_97 rfl ?_
        refine xe_lcmp dX7_scanLetters_98 ?_
        refine xe_if_ne (tgt := 109) dX7_scanLetters_99 rfl (fun c_q => ?_) (fun c_q => ?_)
        · refine xn_iinc dX7_scanLetters_109 rfl kc_1 ?_
          refine xe_goto (tgt := 83) dX7_scanLetters_112 rfl ?_
          exact xe_fin (K2 (by omega) () ((fun w1 hw1 => by
            rcases Nat.lt_succ_iff_lt_or_eq.mp hw1 with q | rfl
            · exact e2 w1 q
            · exact fun q => c_q (q_cmp0.mpr (((congrArg q_e5 q)).trans (hx (by omega)).symm))))) (And.intro rfl (And.intro rfl (And.intro rfl (And.intro rfl (And.intro rfl trivial))))) (q_heqJ [1] [5] (H := h) (by repeat (first | exact q_outJ_r | refine q_outJ_w rfl ?_ | refine q_outJ_j rfl ?_)) (by repeat (first | exact q_outJ_r | refine q_outJ_w rfl ?_ | refine q_outJ_j rfl ?_)) (And.intro (q_feq [6] (f := q_I h 1) (by repeat (first | exact q_fout_r | refine q_fout_w rfl ?_)) (by repeat (first | exact q_fout_r | refine q_fout_w rfl ?_)) (And.intro rfl trivial)) trivial) (And.intro rfl trivial))
        · refine xe_sipush dX7_scanLetters_102 ks_256 ?_
          refine xe_iload dX7_scanLetters_105 rfl ?_
          refine xn_iadd dX7_scanLetters_107 ?_
          refine xe_ireturn dX7_scanLetters_108 rfl (by first | rfl | decide +kernel) ?_
          have hki : tz_ki (tz_w B p e) 17 = 20 + w := tz_ki_eq (by omega) ((q_e5_inj (tz_kw_nm (by omega)) hnm).mp ((q_cmp0.mp c_q).trans (hx (by omega))))
          rw [if_neg (by omega), hki] at hk
          rw [hk, hee, he]
          refine ⟨?_, tz_fr_j, rfl, fun q => ?_, fun q => absurd q (by omega)⟩
          · rw [q_kap_w (by omega)]
            exact congrArg (fun v => some (Value.int (nI v))) (by omega)
          · exact absurd q (by omega)
  · refine xe_iconst dX7_scanLetters_71 kc_m1 ?_
    refine xe_ireturn dX7_scanLetters_72 rfl (by first | rfl | decide +kernel) ?_
    rw [if_pos (by omega)] at hk
    rw [hk, hee]
    exact ⟨rfl, tz_fr_a, rfl, fun q => absurd q (by decide), fun q => absurd q (by decide)⟩
theorem c_X7_scanLetters (l : Launch) (g : q_GP) (h : q_H) (hs : q_Stat h) {n : Nat} {B : Nat → Nat} (hB : tb_B h n B) {p i : Nat} (hp : p < n) (hi : i ≤ 400) (hl : tz_le (B p) = true) (hW : ck_W h) (hat : q_I h 1 6 = nI p) : q_Ct l g 1 mX7_scanLetters [.ref 1, .int (nI i)] h (fun r h1 => r = some (.int (q_kap (tz_k n B p))) ∧ tz_fr i h h1 ∧ q_I h1 1 6 = nI (tz_e n B p) ∧ (tz_k n B p = 1 → q_J h1 5 i = q_e5 (tz_w B p (tz_to tz_le n B p))) ∧ (tz_k n B p = 2 → (q_J h1 5 i).toInt32 = nI (tz_v B p (tz_to tz_di n B p - p)))) := by
  have hn := hB.2.1
  refine q_CtV mvX7_scanLetters (Nat.le_of_ble_eq_true rfl) ?_
  refine xe_lconst dX7_scanLetters_0 rfl ?_
  refine xe_lstore_n (i := 2) dX7_scanLetters_1 rfl (by decide) rfl rfl ?_
  refine xe_aload_n dX7_scanLetters_2 rfl ?_
  refine xe_getIv dX7_scanLetters_3 flX7_48 (st1 hs) (by decide) rfl (v := nI p) (hat) ?_
  refine xe_istore dX7_scanLetters_6 (by decide) rfl ?_
  refine xe_fin (L' := (fun (k : Nat) (s1 : Int64 × Nat) => [(0, .ref 1), (1, .int (nI i)), (2, .long s1.1), (4, .int (nI p))]) 0 (0, p)) (h' := (fun (k : Nat) (s1 : Int64 × Nat) => (q_wI h 1 (upd (q_I h 1) 6 (nI s1.2)))) 0 (0, p)) ?_ (And.intro rfl (And.intro rfl (And.intro rfl (And.intro rfl trivial)))) (q_heq [1] (H := h) (by repeat (first | exact q_out_r | refine q_out_w rfl ?_)) (by repeat (first | exact q_out_r | refine q_out_w rfl ?_)) (And.intro (tz_uid hat).symm trivial))
  refine xe_loopW (σ := Int64 × Nat) ((n - p)) (fun k s => s.2 = p + k ∧ tz_to tz_le n B p = tz_to tz_le n B s.2 ∧ s.2 ≤ n ∧ (s.2 - p ≤ 8 → s.1 = q_e5 (tz_w B p s.2))) (fun (k : Nat) (s1 : Int64 × Nat) => [(0, .ref 1), (1, .int (nI i)), (2, .long s1.1), (4, .int (nI p))]) (fun (k : Nat) (s1 : Int64 × Nat) => (q_wI h 1 (upd (q_I h 1) 6 (nI s1.2)))) (0, p) (⟨rfl, rfl, by show p ≤ n; omega, fun _ => by show (0 : Int64) = q_e5 (tz_w B p p); rw [tz_w_0]; rfl⟩) (fun k hk s1 e1 K1 => ?_)
  · obtain ⟨s_1, s_2, s_3, s_4⟩ := e1
    refine xe_aload_n dX7_scanLetters_8 rfl ?_
    refine xe_getIv dX7_scanLetters_9 flX7_48 (st1 hs) (by decide) rfl (v := nI s1.2) (rfl) ?_
    refine xe_aload_n dX7_scanLetters_12 rfl ?_
    refine xe_getIv dX7_scanLetters_13 flX7_45 (st1 hs) (by decide) rfl (v := nI n) (hB.1) ?_
    refine xn_icmp_ge (tgt := 59) dX7_scanLetters_16 rfl (by omega) (by omega) (fun c_a => ?_) (fun c_a => ?_)
    · exact xe_fin (tzl_59 l g h hs hB hp hi hl hW (e := s1.2) (s_2.trans (tz_to_n (by omega))) (x := s1.1) (fun q => s_4 q)) ⟨rfl, rfl, rfl, rfl, trivial⟩ (q_heq [1] (H := h) (by repeat (first | exact q_out_r | refine q_out_w rfl ?_)) (by repeat (first | exact q_out_r | refine q_out_w rfl ?_)) (And.intro (q_feq [6] (f := q_I h 1) (by repeat (first | exact q_fout_r | refine q_fout_w rfl ?_)) (by repeat (first | exact q_fout_r | refine q_fout_w rfl ?_)) (And.intro rfl trivial)) trivial))
    · refine xe_aload_n dX7_scanLetters_19 rfl ?_
      refine xe_aload_n dX7_scanLetters_20 rfl ?_
      refine xe_getIv dX7_scanLetters_21 flX7_48 (st1 hs) (by decide) rfl (v := nI s1.2) (rfl) ?_
      refine xe_callVI (d' := 0) (y' := mX7_byteAt) dX7_scanLetters_24 mlX7_51 mvX7_byteAt rfl (st1 hs) (by decide) rfl (by decide) (by decide) (Nat.le_of_ble_eq_true rfl) (c_X7_byteAt_t l g _ (by exact hs) (n := n) (B := B) (by exact hB) (by omega)) rfl ?_
      refine xe_callSI (d' := 0) (y' := mX7_isLetter) dX7_scanLetters_27 mlX7_62 msX7_isLetter rfl (by decide) (by decide) (Nat.le_of_ble_eq_true rfl) (c_X7_isLetter l g _ (hB.2.2.2 _)) rfl ?_
      refine xe_if_eq (tgt := 59) dX7_scanLetters_30 rfl (fun c_l => ?_) (fun c_l => ?_)
      · exact xe_fin (tzl_59 l g h hs hB hp hi hl hW (e := s1.2) (s_2.trans (tz_to_f (tz_if0.mp c_l))) (x := s1.1) (fun q => s_4 q)) ⟨rfl, rfl, rfl, rfl, trivial⟩ (q_heq [1] (H := h) (by repeat (first | exact q_out_r | refine q_out_w rfl ?_)) (by repeat (first | exact q_out_r | refine q_out_w rfl ?_)) (And.intro (q_feq [6] (f := q_I h 1) (by repeat (first | exact q_fout_r | refine q_fout_w rfl ?_)) (by repeat (first | exact q_fout_r | refine q_fout_w rfl ?_)) (And.intro rfl trivial)) trivial))
      · have c_l2 := Classical.not_not.mp (fun q => c_l (tz_if0.mpr q))
        have c_l3 := tz_le_i.mp c_l2
        refine xe_lload_n dX7_scanLetters_33 rfl ?_
        refine xe_aload_n dX7_scanLetters_34 rfl ?_
        refine xe_aload_n dX7_scanLetters_35 rfl ?_
        refine xe_getIv dX7_scanLetters_36 flX7_48 (st1 hs) (by decide) rfl (v := nI s1.2) (rfl) ?_
        refine xe_callVI (d' := 0) (y' := mX7_byteAt) dX7_scanLetters_39 mlX7_51 mvX7_byteAt rfl (st1 hs) (by decide) rfl (by decide) (by decide) (Nat.le_of_ble_eq_true rfl) (c_X7_byteAt_t l g _ (by exact hs) (n := n) (B := B) (by exact hB) (by omega)) rfl ?_
        refine xe_callSJ (d' := 0) (y' := mX7_withLetter) dX7_scanLetters_42 mlX7_41 msX7_withLetter rfl (by decide) (by decide) (Nat.le_of_ble_eq_true rfl) (c_X7_withLetter l g _ _ (by omega) (by omega)) rfl ?_
        refine xe_lstore_n (i := 2) dX7_scanLetters_45 rfl (by decide) rfl rfl ?_
        refine xe_aload_n dX7_scanLetters_46 rfl ?_
        refine xe_dup dX7_scanLetters_47 rfl ?_
        refine xe_getIv dX7_scanLetters_48 flX7_48 (st1 hs) (by decide) rfl (v := nI s1.2) (rfl) ?_
        refine xe_iconst dX7_scanLetters_51 kc_1 ?_
        refine xn_iadd dX7_scanLetters_52 ?_
        refine xe_putI dX7_scanLetters_53 flX7_48 (st1 hs) (by decide) rfl (Or.inl rfl) rfl rfl ?_
        refine xe_goto (tgt := 8) dX7_scanLetters_56 rfl ?_
        exact xe_fin (K1 (by omega) ((tz_a s1.1 (B s1.2)), s1.2 + 1) (⟨by show s1.2 + 1 = p + (k + 1); omega, by show tz_to tz_le n B p = tz_to tz_le n B (s1.2 + 1); exact s_2.trans (tz_to_t (by omega) c_l2), by show s1.2 + 1 ≤ n; omega, fun q => by
          have q : s1.2 + 1 - p ≤ 8 := q
          show tz_a s1.1 (B s1.2) = q_e5 (tz_w B p (s1.2 + 1))
          rw [s_4 (by omega), tz_w_s (by omega)]
          exact tz_a_e (tz_w_ok (by omega) (fun j h1 h2 => tz_in (n := n) h1 (by rw [s_2, tz_to_t (by omega) c_l2]; exact Nat.lt_of_lt_of_le h2 (Nat.le_trans (Nat.le_succ _) tz_ge)))) (tz_le_i.mp c_l2).1 (tz_le_i.mp c_l2).2⟩)) (And.intro rfl (And.intro rfl (And.intro rfl (And.intro rfl trivial)))) (q_heq [1] (H := h) (by repeat (first | exact q_out_r | refine q_out_w rfl ?_)) (by repeat (first | exact q_out_r | refine q_out_w rfl ?_)) (And.intro (q_feq [6] (f := q_I h 1) (by repeat (first | exact q_fout_r | refine q_fout_w rfl ?_)) (by repeat (first | exact q_fout_r | refine q_fout_w rfl ?_)) (And.intro rfl trivial)) trivial))
