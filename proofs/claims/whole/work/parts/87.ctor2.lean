/-! the reference's constructor -/
def w27 (x : Int64) (c : Nat) : Int64 := if c = 0 then x else tz_27 x c
theorem c_X10_appendsG (l : Launch) (g : q_GP) (h : q_H) (x : Int64) {c : Nat} (hc : c = 0 ∨ (97 ≤ c ∧ c ≤ 122)) : q_Cd l g 0 mX10_appends [.long x, .int (nI c)] h (some (.long (w27 x c))) h := by
  unfold w27
  by_cases q : c = 0
  · subst q
    exact c_X10_appends0 l g h x
  · rw [if_neg q]
    exact c_X10_appends l g h x (by omega) (by omega)
theorem c_X10_word (l : Launch) (g : q_GP) (h : q_H) {c1 c2 c3 c4 c5 c6 c7 : Nat} (hc1 : c1 = 0 ∨ (97 ≤ c1 ∧ c1 ≤ 122)) (hc2 : c2 = 0 ∨ (97 ≤ c2 ∧ c2 ≤ 122)) (hc3 : c3 = 0 ∨ (97 ≤ c3 ∧ c3 ≤ 122)) (hc4 : c4 = 0 ∨ (97 ≤ c4 ∧ c4 ≤ 122)) (hc5 : c5 = 0 ∨ (97 ≤ c5 ∧ c5 ≤ 122)) (hc6 : c6 = 0 ∨ (97 ≤ c6 ∧ c6 ≤ 122)) (hc7 : c7 = 0 ∨ (97 ≤ c7 ∧ c7 ≤ 122)) : q_Cd l g 1 mX10_word [.int (nI c1), .int (nI c2), .int (nI c3), .int (nI c4), .int (nI c5), .int (nI c6), .int (nI c7)] h (some (.long (w27 (w27 (w27 (w27 (w27 (w27 (w27 (0 : Int64) c1) c2) c3) c4) c5) c6) c7))) h := by
  refine q_CdS msX10_word (Nat.le_of_ble_eq_true rfl) ?_
  refine xe_lconst dX10_word_0 rfl ?_
  refine xe_iload_n dX10_word_1 rfl ?_
  refine xe_callSJ (d' := 0) (y' := mX10_appends) dX10_word_2 mlX10_172 msX10_appends rfl (by decide) (by decide) (Nat.le_of_ble_eq_true rfl) (c_X10_appendsG l g _ _ hc1) rfl ?_
  refine xe_iload_n dX10_word_5 rfl ?_
  refine xe_callSJ (d' := 0) (y' := mX10_appends) dX10_word_6 mlX10_172 msX10_appends rfl (by decide) (by decide) (Nat.le_of_ble_eq_true rfl) (c_X10_appendsG l g _ _ hc2) rfl ?_
  refine xe_iload_n dX10_word_9 rfl ?_
  refine xe_callSJ (d' := 0) (y' := mX10_appends) dX10_word_10 mlX10_172 msX10_appends rfl (by decide) (by decide) (Nat.le_of_ble_eq_true rfl) (c_X10_appendsG l g _ _ hc3) rfl ?_
  refine xe_iload_n dX10_word_13 rfl ?_
  refine xe_callSJ (d' := 0) (y' := mX10_appends) dX10_word_14 mlX10_172 msX10_appends rfl (by decide) (by decide) (Nat.le_of_ble_eq_true rfl) (c_X10_appendsG l g _ _ hc4) rfl ?_
  refine xe_iload dX10_word_17 rfl ?_
  refine xe_callSJ (d' := 0) (y' := mX10_appends) dX10_word_19 mlX10_172 msX10_appends rfl (by decide) (by decide) (Nat.le_of_ble_eq_true rfl) (c_X10_appendsG l g _ _ hc5) rfl ?_
  refine xe_iload dX10_word_22 rfl ?_
  refine xe_callSJ (d' := 0) (y' := mX10_appends) dX10_word_24 mlX10_172 msX10_appends rfl (by decide) (by decide) (Nat.le_of_ble_eq_true rfl) (c_X10_appendsG l g _ _ hc6) rfl ?_
  refine xe_iload dX10_word_27 rfl ?_
  refine xe_callSJ (d' := 0) (y' := mX10_appends) dX10_word_29 mlX10_172 msX10_appends rfl (by decide) (by decide) (Nat.le_of_ble_eq_true rfl) (c_X10_appendsG l g _ _ hc7) rfl ?_
  refine xe_lreturn dX10_word_32 rfl ?_
  exact ⟨rfl, rfl⟩
def z_I1 : Nat → Nat → Int32 := fun r' => if r' = 124 then upd (q_I (q_hc z_I z_J1 132 130) 124) 17 (-1) else z_I r'
def z_kf : Nat → Nat → Int64
  | 0 => fun _ => 0
  | k + 1 => vp_updL (z_kf k) k (q_e27 (tz_kw.getD k []))
def z_JK (k : Nat) : Nat → Nat → Int64 := fun r => if r = 131 then z_kf k else z_J1 r
theorem z_JK0 {I : Nat → Nat → Int32} {i j : Nat} : q_hc I z_J1 i j = q_hc I (z_JK 0) i j := by
  have e : z_J1 = z_JK 0 := by
    funext r
    unfold z_JK
    by_cases q : r = 131
    · rw [if_pos q, q]
      rfl
    · rw [if_neg q]
  rw [← e]
theorem z_JKs {I : Nat → Nat → Int32} {i j k : Nat} : q_wJ (q_hc I (z_JK k) i j) 131 (vp_updL (q_J (q_hc I (z_JK k) i j) 131) k (q_e27 (tz_kw.getD k []))) = q_hc I (z_JK (k + 1)) i j := by
  have e : (fun r' => if r' = 131 then vp_updL (z_JK k 131) k (q_e27 (tz_kw.getD k [])) else z_JK k r') = z_JK (k + 1) := by
    funext r
    unfold z_JK
    by_cases q : r = 131
    · rw [if_pos q, if_pos q, if_pos rfl]
      rfl
    · rw [if_neg q, if_neg q, if_neg q]
  show (I, _, _) = _
  unfold q_hc
  rw [← e]
  rfl
theorem z_kw : ∀ w, w < 17 → z_kf 17 w = q_e27 (tz_kw.getD w []) := by decide +kernel
set_option maxRecDepth 20000 in
theorem cn_X10_124 (l : Launch) (g : q_GP) {LL : Nat} {xs : Nat → Int32} (hX : q_GX g LL xs) : q_Cd l g 3 mX10_init [.ref 124] (q_hc z_I z_J1 125 123) none (q_hc z_I1 (z_JK 17) 170 168) := by
  refine q_CdN mnX10_init (Nat.le_of_ble_eq_true rfl) ?_
  refine xe_aload_n dX10_init_0 rfl ?_
  refine xe_obj dX10_init_1 mlX10_7 (by decide) (Nat.le_of_ble_eq_true rfl) ?_
  refine xe_aload_n dX10_init_4 rfl ?_
  refine xe_sipush dX10_init_5 ks_2000 ?_
  refine xe_newa_byte (n := 2000) dX10_init_8 (by decide) (show 125 < 1000000000 by decide) ?_
  refine xe_heap (hc_new (t := 101) (n := 2000) rfl rfl rfl (by decide +kernel)) ?_
  refine xe_putP (a := 125) (r := 124) dX10_init_10 flX10_13 (hc_Sh (by decide) rfl) (by decide) rfl (Or.inr ⟨rfl, rfl⟩) (fun _ => rfl) (fun _ => rfl) ?_
  refine xe_heap (hc_P (k := 1) (a := 125) rfl (by decide +kernel)) ?_
  refine xe_aload_n dX10_init_13 rfl ?_
  refine xe_sipush dX10_init_14 ks_2000 ?_
  refine xe_newa_byte (n := 2000) dX10_init_17 (by decide) (show 126 < 1000000000 by decide) ?_
  refine xe_heap (hc_new (t := 101) (n := 2000) rfl rfl rfl (by decide +kernel)) ?_
  refine xe_putP (a := 126) (r := 124) dX10_init_19 flX10_17 (hc_Sh (by decide) rfl) (by decide) rfl (Or.inr ⟨rfl, rfl⟩) (fun _ => rfl) (fun _ => rfl) ?_
  refine xe_heap (hc_P (k := 3) (a := 126) rfl (by decide +kernel)) ?_
  refine xe_aload_n dX10_init_22 rfl ?_
  refine xe_sipush dX10_init_23 ks_403 ?_
  refine xe_newa_int (n := 403) dX10_init_26 (by decide) (show 127 < 1000000000 by decide) ?_
  refine xe_heap (hc_new (t := 100) (n := 403) rfl rfl rfl (by decide +kernel)) ?_
  refine xe_putP (a := 127) (r := 124) dX10_init_28 flX10_20 (hc_Sh (by decide) rfl) (by decide) rfl (Or.inr ⟨rfl, rfl⟩) (fun _ => rfl) (fun _ => rfl) ?_
  refine xe_heap (hc_P (k := 5) (a := 127) rfl (by decide +kernel)) ?_
  refine xe_aload_n dX10_init_31 rfl ?_
  refine xe_sipush dX10_init_32 ks_403 ?_
  refine xe_newa_int (n := 403) dX10_init_35 (by decide) (show 128 < 1000000000 by decide) ?_
  refine xe_heap (hc_new (t := 100) (n := 403) rfl rfl rfl (by decide +kernel)) ?_
  refine xe_putP (a := 128) (r := 124) dX10_init_37 flX10_24 (hc_Sh (by decide) rfl) (by decide) rfl (Or.inr ⟨rfl, rfl⟩) (fun _ => rfl) (fun _ => rfl) ?_
  refine xe_heap (hc_P (k := 6) (a := 128) rfl (by decide +kernel)) ?_
  refine xe_aload_n dX10_init_40 rfl ?_
  refine xe_sipush dX10_init_41 ks_403 ?_
  refine xe_newa_int (n := 403) dX10_init_44 (by decide) (show 129 < 1000000000 by decide) ?_
  refine xe_heap (hc_new (t := 100) (n := 403) rfl rfl rfl (by decide +kernel)) ?_
  refine xe_putP (a := 129) (r := 124) dX10_init_46 flX10_27 (hc_Sh (by decide) rfl) (by decide) rfl (Or.inr ⟨rfl, rfl⟩) (fun _ => rfl) (fun _ => rfl) ?_
  refine xe_heap (hc_P (k := 7) (a := 129) rfl (by decide +kernel)) ?_
  refine xe_aload_n dX10_init_49 rfl ?_
  refine xe_sipush dX10_init_50 ks_403 ?_
  refine xe_newa_long (n := 403) dX10_init_53 (by decide) (show 130 < 1000000000 by decide) ?_
  refine xe_heap (hc_new (t := 103) (n := 403) rfl rfl rfl (by decide +kernel)) ?_
  refine xe_putP (a := 130) (r := 124) dX10_init_55 flX10_30 (hc_Sh (by decide) rfl) (by decide) rfl (Or.inr ⟨rfl, rfl⟩) (fun _ => rfl) (fun _ => rfl) ?_
  refine xe_heap (hc_P (k := 8) (a := 130) rfl (by decide +kernel)) ?_
  refine xe_aload_n dX10_init_58 rfl ?_
  refine xe_bipush dX10_init_59 kb_17 ?_
  refine xe_newa_long (n := 17) dX10_init_61 (by decide) (show 131 < 1000000000 by decide) ?_
  refine xe_heap (hc_new (t := 103) (n := 17) rfl rfl rfl (by decide +kernel)) ?_
  refine xe_putP (a := 131) (r := 124) dX10_init_63 flX10_34 (hc_Sh (by decide) rfl) (by decide) rfl (Or.inr ⟨rfl, rfl⟩) (fun _ => rfl) (fun _ => rfl) ?_
  refine xe_heap (hc_P (k := 9) (a := 131) rfl (by decide +kernel)) ?_
  refine xe_aload_n dX10_init_66 rfl ?_
  refine xe_iconst dX10_init_67 kc_m1 ?_
  refine xe_putI dX10_init_68 flX10_37 (hc_Sh (by decide) rfl) (by decide) rfl (Or.inl rfl) rfl rfl ?_
  refine xe_heap (h2 := q_hc z_I1 z_J1 132 130) rfl ?_
  refine xe_aload_n dX10_init_71 rfl ?_
  refine xe_bipush dX10_init_72 kb_16 ?_
  refine xe_newa_long (n := 16) dX10_init_74 (by decide) (show 132 < 1000000000 by decide) ?_
  refine xe_heap (hc_new (t := 103) (n := 16) rfl rfl rfl (by decide +kernel)) ?_
  refine xe_putP (a := 132) (r := 124) dX10_init_76 flX10_40 (hc_Sh (by decide) rfl) (by decide) rfl (Or.inr ⟨rfl, rfl⟩) (fun _ => rfl) (fun _ => rfl) ?_
  refine xe_heap (hc_P (k := 21) (a := 132) rfl (by decide +kernel)) ?_
  refine xe_aload_n dX10_init_79 rfl ?_
  refine xe_bipush dX10_init_80 kb_16 ?_
  refine xe_newa_int (n := 16) dX10_init_82 (by decide) (show 133 < 1000000000 by decide) ?_
  refine xe_heap (hc_new (t := 100) (n := 16) rfl rfl rfl (by decide +kernel)) ?_
  refine xe_putP (a := 133) (r := 124) dX10_init_84 flX10_43 (hc_Sh (by decide) rfl) (by decide) rfl (Or.inr ⟨rfl, rfl⟩) (fun _ => rfl) (fun _ => rfl) ?_
  refine xe_heap (hc_P (k := 22) (a := 133) rfl (by decide +kernel)) ?_
  refine xe_aload_n dX10_init_87 rfl ?_
  refine xe_bipush dX10_init_88 kb_16 ?_
  refine xe_newa_int (n := 16) dX10_init_90 (by decide) (show 134 < 1000000000 by decide) ?_
  refine xe_heap (hc_new (t := 100) (n := 16) rfl rfl rfl (by decide +kernel)) ?_
  refine xe_putP (a := 134) (r := 124) dX10_init_92 flX10_46 (hc_Sh (by decide) rfl) (by decide) rfl (Or.inr ⟨rfl, rfl⟩) (fun _ => rfl) (fun _ => rfl) ?_
  refine xe_heap (hc_P (k := 23) (a := 134) rfl (by decide +kernel)) ?_
  refine xe_aload_n dX10_init_95 rfl ?_
  refine xe_iconst dX10_init_96 kc_2 ?_
  refine xe_newa_int (n := 2) dX10_init_97 (by decide) (show 135 < 1000000000 by decide) ?_
  refine xe_heap (hc_new (t := 100) (n := 2) rfl rfl rfl (by decide +kernel)) ?_
  refine xe_putP (a := 135) (r := 124) dX10_init_99 flX10_49 (hc_Sh (by decide) rfl) (by decide) rfl (Or.inr ⟨rfl, rfl⟩) (fun _ => rfl) (fun _ => rfl) ?_
  refine xe_heap (hc_P (k := 24) (a := 135) rfl (by decide +kernel)) ?_
  refine xe_aload_n dX10_init_102 rfl ?_
  refine xe_bipush dX10_init_103 kb_16 ?_
  refine xe_newa_int (n := 16) dX10_init_105 (by decide) (show 136 < 1000000000 by decide) ?_
  refine xe_heap (hc_new (t := 100) (n := 16) rfl rfl rfl (by decide +kernel)) ?_
  refine xe_putP (a := 136) (r := 124) dX10_init_107 flX10_52 (hc_Sh (by decide) rfl) (by decide) rfl (Or.inr ⟨rfl, rfl⟩) (fun _ => rfl) (fun _ => rfl) ?_
  refine xe_heap (hc_P (k := 25) (a := 136) rfl (by decide +kernel)) ?_
  refine xe_aload_n dX10_init_110 rfl ?_
  refine xe_iconst dX10_init_111 kc_2 ?_
  refine xe_newa_int (n := 2) dX10_init_112 (by decide) (show 137 < 1000000000 by decide) ?_
  refine xe_heap (hc_new (t := 100) (n := 2) rfl rfl rfl (by decide +kernel)) ?_
  refine xe_putP (a := 137) (r := 124) dX10_init_114 flX10_55 (hc_Sh (by decide) rfl) (by decide) rfl (Or.inr ⟨rfl, rfl⟩) (fun _ => rfl) (fun _ => rfl) ?_
  refine xe_heap (hc_P (k := 26) (a := 137) rfl (by decide +kernel)) ?_
  refine xe_aload_n dX10_init_117 rfl ?_
  refine xe_bipush dX10_init_118 kb_16 ?_
  refine xe_newa_int (n := 16) dX10_init_120 (by decide) (show 138 < 1000000000 by decide) ?_
  refine xe_heap (hc_new (t := 100) (n := 16) rfl rfl rfl (by decide +kernel)) ?_
  refine xe_putP (a := 138) (r := 124) dX10_init_122 flX10_58 (hc_Sh (by decide) rfl) (by decide) rfl (Or.inr ⟨rfl, rfl⟩) (fun _ => rfl) (fun _ => rfl) ?_
  refine xe_heap (hc_P (k := 27) (a := 138) rfl (by decide +kernel)) ?_
  refine xe_aload_n dX10_init_125 rfl ?_
  refine xe_iconst dX10_init_126 kc_2 ?_
  refine xe_newa_int (n := 2) dX10_init_127 (by decide) (show 139 < 1000000000 by decide) ?_
  refine xe_heap (hc_new (t := 100) (n := 2) rfl rfl rfl (by decide +kernel)) ?_
  refine xe_putP (a := 139) (r := 124) dX10_init_129 flX10_61 (hc_Sh (by decide) rfl) (by decide) rfl (Or.inr ⟨rfl, rfl⟩) (fun _ => rfl) (fun _ => rfl) ?_
  refine xe_heap (hc_P (k := 28) (a := 139) rfl (by decide +kernel)) ?_
  refine xe_aload_n dX10_init_132 rfl ?_
  refine xe_bipush dX10_init_133 kb_24 ?_
  refine xe_newa_int (n := 24) dX10_init_135 (by decide) (show 140 < 1000000000 by decide) ?_
  refine xe_heap (hc_new (t := 100) (n := 24) rfl rfl rfl (by decide +kernel)) ?_
  refine xe_putP (a := 140) (r := 124) dX10_init_137 flX10_64 (hc_Sh (by decide) rfl) (by decide) rfl (Or.inr ⟨rfl, rfl⟩) (fun _ => rfl) (fun _ => rfl) ?_
  refine xe_heap (hc_P (k := 29) (a := 140) rfl (by decide +kernel)) ?_
  refine xe_aload_n dX10_init_140 rfl ?_
  refine xe_iconst dX10_init_141 kc_2 ?_
  refine xe_newa_int (n := 2) dX10_init_142 (by decide) (show 141 < 1000000000 by decide) ?_
  refine xe_heap (hc_new (t := 100) (n := 2) rfl rfl rfl (by decide +kernel)) ?_
  refine xe_putP (a := 141) (r := 124) dX10_init_144 flX10_67 (hc_Sh (by decide) rfl) (by decide) rfl (Or.inr ⟨rfl, rfl⟩) (fun _ => rfl) (fun _ => rfl) ?_
  refine xe_heap (hc_P (k := 30) (a := 141) rfl (by decide +kernel)) ?_
  refine xe_aload_n dX10_init_147 rfl ?_
  refine xe_bipush dX10_init_148 kb_40 ?_
  refine xe_newa_int (n := 40) dX10_init_150 (by decide) (show 142 < 1000000000 by decide) ?_
  refine xe_heap (hc_new (t := 100) (n := 40) rfl rfl rfl (by decide +kernel)) ?_
  refine xe_putP (a := 142) (r := 124) dX10_init_152 flX10_70 (hc_Sh (by decide) rfl) (by decide) rfl (Or.inr ⟨rfl, rfl⟩) (fun _ => rfl) (fun _ => rfl) ?_
  refine xe_heap (hc_P (k := 31) (a := 142) rfl (by decide +kernel)) ?_
  refine xe_aload_n dX10_init_155 rfl ?_
  refine xe_bipush dX10_init_156 kb_40 ?_
  refine xe_newa_int (n := 40) dX10_init_158 (by decide) (show 143 < 1000000000 by decide) ?_
  refine xe_heap (hc_new (t := 100) (n := 40) rfl rfl rfl (by decide +kernel)) ?_
  refine xe_putP (a := 143) (r := 124) dX10_init_160 flX10_73 (hc_Sh (by decide) rfl) (by decide) rfl (Or.inr ⟨rfl, rfl⟩) (fun _ => rfl) (fun _ => rfl) ?_
  refine xe_heap (hc_P (k := 32) (a := 143) rfl (by decide +kernel)) ?_
  refine xe_aload_n dX10_init_163 rfl ?_
  refine xe_sipush dX10_init_164 ks_260 ?_
  refine xe_newa_boolean (n := 260) dX10_init_167 (by decide) (show 144 < 1000000000 by decide) ?_
  refine xe_heap (hc_new (t := 102) (n := 260) rfl rfl rfl (by decide +kernel)) ?_
  refine xe_putP (a := 144) (r := 124) dX10_init_169 flX10_76 (hc_Sh (by decide) rfl) (by decide) rfl (Or.inr ⟨rfl, rfl⟩) (fun _ => rfl) (fun _ => rfl) ?_
  refine xe_heap (hc_P (k := 34) (a := 144) rfl (by decide +kernel)) ?_
  refine xe_aload_n dX10_init_172 rfl ?_
  refine xe_sipush dX10_init_173 ks_260 ?_
  refine xe_newa_int (n := 260) dX10_init_176 (by decide) (show 145 < 1000000000 by decide) ?_
  refine xe_heap (hc_new (t := 100) (n := 260) rfl rfl rfl (by decide +kernel)) ?_
  refine xe_putP (a := 145) (r := 124) dX10_init_178 flX10_80 (hc_Sh (by decide) rfl) (by decide) rfl (Or.inr ⟨rfl, rfl⟩) (fun _ => rfl) (fun _ => rfl) ?_
  refine xe_heap (hc_P (k := 35) (a := 145) rfl (by decide +kernel)) ?_
  refine xe_aload_n dX10_init_181 rfl ?_
  refine xe_sipush dX10_init_182 ks_260 ?_
  refine xe_newa_int (n := 260) dX10_init_185 (by decide) (show 146 < 1000000000 by decide) ?_
  refine xe_heap (hc_new (t := 100) (n := 260) rfl rfl rfl (by decide +kernel)) ?_
  refine xe_putP (a := 146) (r := 124) dX10_init_187 flX10_83 (hc_Sh (by decide) rfl) (by decide) rfl (Or.inr ⟨rfl, rfl⟩) (fun _ => rfl) (fun _ => rfl) ?_
  refine xe_heap (hc_P (k := 36) (a := 146) rfl (by decide +kernel)) ?_
  refine xe_aload_n dX10_init_190 rfl ?_
  refine xe_sipush dX10_init_191 ks_260 ?_
  refine xe_newa_int (n := 260) dX10_init_194 (by decide) (show 147 < 1000000000 by decide) ?_
  refine xe_heap (hc_new (t := 100) (n := 260) rfl rfl rfl (by decide +kernel)) ?_
  refine xe_putP (a := 147) (r := 124) dX10_init_196 flX10_86 (hc_Sh (by decide) rfl) (by decide) rfl (Or.inr ⟨rfl, rfl⟩) (fun _ => rfl) (fun _ => rfl) ?_
  refine xe_heap (hc_P (k := 37) (a := 147) rfl (by decide +kernel)) ?_
  refine xe_aload_n dX10_init_199 rfl ?_
  refine xe_sipush dX10_init_200 ks_260 ?_
  refine xe_newa_int (n := 260) dX10_init_203 (by decide) (show 148 < 1000000000 by decide) ?_
  refine xe_heap (hc_new (t := 100) (n := 260) rfl rfl rfl (by decide +kernel)) ?_
  refine xe_putP (a := 148) (r := 124) dX10_init_205 flX10_89 (hc_Sh (by decide) rfl) (by decide) rfl (Or.inr ⟨rfl, rfl⟩) (fun _ => rfl) (fun _ => rfl) ?_
  refine xe_heap (hc_P (k := 38) (a := 148) rfl (by decide +kernel)) ?_
  refine xe_aload_n dX10_init_208 rfl ?_
  refine xe_sipush dX10_init_209 ks_840 ?_
  refine xe_newa_int (n := 840) dX10_init_212 (by decide) (show 149 < 1000000000 by decide) ?_
  refine xe_heap (hc_new (t := 100) (n := 840) rfl rfl rfl (by decide +kernel)) ?_
  refine xe_putP (a := 149) (r := 124) dX10_init_214 flX10_92 (hc_Sh (by decide) rfl) (by decide) rfl (Or.inr ⟨rfl, rfl⟩) (fun _ => rfl) (fun _ => rfl) ?_
  refine xe_heap (hc_P (k := 40) (a := 149) rfl (by decide +kernel)) ?_
  refine xe_aload_n dX10_init_217 rfl ?_
  refine xe_sipush dX10_init_218 ks_840 ?_
  refine xe_newa_int (n := 840) dX10_init_221 (by decide) (show 150 < 1000000000 by decide) ?_
  refine xe_heap (hc_new (t := 100) (n := 840) rfl rfl rfl (by decide +kernel)) ?_
  refine xe_putP (a := 150) (r := 124) dX10_init_223 flX10_95 (hc_Sh (by decide) rfl) (by decide) rfl (Or.inr ⟨rfl, rfl⟩) (fun _ => rfl) (fun _ => rfl) ?_
  refine xe_heap (hc_P (k := 41) (a := 150) rfl (by decide +kernel)) ?_
  refine xe_aload_n dX10_init_226 rfl ?_
  refine xe_bipush dX10_init_227 kb_64 ?_
  refine xe_newa_int (n := 64) dX10_init_229 (by decide) (show 151 < 1000000000 by decide) ?_
  refine xe_heap (hc_new (t := 100) (n := 64) rfl rfl rfl (by decide +kernel)) ?_
  refine xe_putP (a := 151) (r := 124) dX10_init_231 flX10_98 (hc_Sh (by decide) rfl) (by decide) rfl (Or.inr ⟨rfl, rfl⟩) (fun _ => rfl) (fun _ => rfl) ?_
  refine xe_heap (hc_P (k := 42) (a := 151) rfl (by decide +kernel)) ?_
  refine xe_aload_n dX10_init_234 rfl ?_
  refine xe_bipush dX10_init_235 kb_6 ?_
  refine xe_newa_int (n := 6) dX10_init_237 (by decide) (show 152 < 1000000000 by decide) ?_
  refine xe_heap (hc_new (t := 100) (n := 6) rfl rfl rfl (by decide +kernel)) ?_
  refine xe_putP (a := 152) (r := 124) dX10_init_239 flX10_101 (hc_Sh (by decide) rfl) (by decide) rfl (Or.inr ⟨rfl, rfl⟩) (fun _ => rfl) (fun _ => rfl) ?_
  refine xe_heap (hc_P (k := 44) (a := 152) rfl (by decide +kernel)) ?_
  refine xe_aload_n dX10_init_242 rfl ?_
  refine xe_sipush dX10_init_243 ks_400 ?_
  refine xe_newa_int (n := 400) dX10_init_246 (by decide) (show 153 < 1000000000 by decide) ?_
  refine xe_heap (hc_new (t := 100) (n := 400) rfl rfl rfl (by decide +kernel)) ?_
  refine xe_putP (a := 153) (r := 124) dX10_init_248 flX10_104 (hc_Sh (by decide) rfl) (by decide) rfl (Or.inr ⟨rfl, rfl⟩) (fun _ => rfl) (fun _ => rfl) ?_
  refine xe_heap (hc_P (k := 45) (a := 153) rfl (by decide +kernel)) ?_
  refine xe_aload_n dX10_init_251 rfl ?_
  refine xe_sipush dX10_init_252 ks_1720 ?_
  refine xe_newa_int (n := 1720) dX10_init_255 (by decide) (show 154 < 1000000000 by decide) ?_
  refine xe_heap (hc_new (t := 100) (n := 1720) rfl rfl rfl (by decide +kernel)) ?_
  refine xe_putP (a := 154) (r := 124) dX10_init_257 flX10_107 (hc_Sh (by decide) rfl) (by decide) rfl (Or.inr ⟨rfl, rfl⟩) (fun _ => rfl) (fun _ => rfl) ?_
  refine xe_heap (hc_P (k := 47) (a := 154) rfl (by decide +kernel)) ?_
  refine xe_aload_n dX10_init_260 rfl ?_
  refine xe_sipush dX10_init_261 ks_1720 ?_
  refine xe_newa_int (n := 1720) dX10_init_264 (by decide) (show 155 < 1000000000 by decide) ?_
  refine xe_heap (hc_new (t := 100) (n := 1720) rfl rfl rfl (by decide +kernel)) ?_
  refine xe_putP (a := 155) (r := 124) dX10_init_266 flX10_110 (hc_Sh (by decide) rfl) (by decide) rfl (Or.inr ⟨rfl, rfl⟩) (fun _ => rfl) (fun _ => rfl) ?_
  refine xe_heap (hc_P (k := 48) (a := 155) rfl (by decide +kernel)) ?_
  refine xe_aload_n dX10_init_269 rfl ?_
  refine xe_bipush dX10_init_270 kb_8 ?_
  refine xe_newa_int (n := 8) dX10_init_272 (by decide) (show 156 < 1000000000 by decide) ?_
  refine xe_heap (hc_new (t := 100) (n := 8) rfl rfl rfl (by decide +kernel)) ?_
  refine xe_putP (a := 156) (r := 124) dX10_init_274 flX10_113 (hc_Sh (by decide) rfl) (by decide) rfl (Or.inr ⟨rfl, rfl⟩) (fun _ => rfl) (fun _ => rfl) ?_
  refine xe_heap (hc_P (k := 49) (a := 156) rfl (by decide +kernel)) ?_
  refine xe_aload_n dX10_init_277 rfl ?_
  refine xe_bipush dX10_init_278 kb_8 ?_
  refine xe_newa_int (n := 8) dX10_init_280 (by decide) (show 157 < 1000000000 by decide) ?_
  refine xe_heap (hc_new (t := 100) (n := 8) rfl rfl rfl (by decide +kernel)) ?_
  refine xe_putP (a := 157) (r := 124) dX10_init_282 flX10_116 (hc_Sh (by decide) rfl) (by decide) rfl (Or.inr ⟨rfl, rfl⟩) (fun _ => rfl) (fun _ => rfl) ?_
  refine xe_heap (hc_P (k := 50) (a := 157) rfl (by decide +kernel)) ?_
  refine xe_aload_n dX10_init_285 rfl ?_
  refine xe_ldc dX10_init_286 coX10_119 ?_
  refine xe_top (v' := nI 43000) (by decide +kernel) ?_
  refine xe_newa_int (n := 43000) dX10_init_288 (by decide) (show 158 < 1000000000 by decide) ?_
  refine xe_heap (hc_new (t := 100) (n := 43000) rfl rfl rfl (by decide +kernel)) ?_
  refine xe_putP (a := 158) (r := 124) dX10_init_290 flX10_120 (hc_Sh (by decide) rfl) (by decide) rfl (Or.inr ⟨rfl, rfl⟩) (fun _ => rfl) (fun _ => rfl) ?_
  refine xe_heap (hc_P (k := 52) (a := 158) rfl (by decide +kernel)) ?_
  refine xe_aload_n dX10_init_293 rfl ?_
  refine xe_sipush dX10_init_294 ks_256 ?_
  refine xe_newa_int (n := 256) dX10_init_297 (by decide) (show 159 < 1000000000 by decide) ?_
  refine xe_heap (hc_new (t := 100) (n := 256) rfl rfl rfl (by decide +kernel)) ?_
  refine xe_putP (a := 159) (r := 124) dX10_init_299 flX10_123 (hc_Sh (by decide) rfl) (by decide) rfl (Or.inr ⟨rfl, rfl⟩) (fun _ => rfl) (fun _ => rfl) ?_
  refine xe_heap (hc_P (k := 53) (a := 159) rfl (by decide +kernel)) ?_
  refine xe_aload_n dX10_init_302 rfl ?_
  refine xe_sipush dX10_init_303 ks_256 ?_
  refine xe_newa_int (n := 256) dX10_init_306 (by decide) (show 160 < 1000000000 by decide) ?_
  refine xe_heap (hc_new (t := 100) (n := 256) rfl rfl rfl (by decide +kernel)) ?_
  refine xe_putP (a := 160) (r := 124) dX10_init_308 flX10_126 (hc_Sh (by decide) rfl) (by decide) rfl (Or.inr ⟨rfl, rfl⟩) (fun _ => rfl) (fun _ => rfl) ?_
  refine xe_heap (hc_P (k := 54) (a := 160) rfl (by decide +kernel)) ?_
  refine xe_aload_n dX10_init_311 rfl ?_
  refine xe_sipush dX10_init_312 ks_3609 ?_
  refine xe_newa_int (n := 3609) dX10_init_315 (by decide) (show 161 < 1000000000 by decide) ?_
  refine xe_heap (hc_new (t := 100) (n := 3609) rfl rfl rfl (by decide +kernel)) ?_
  refine xe_putP (a := 161) (r := 124) dX10_init_317 flX10_129 (hc_Sh (by decide) rfl) (by decide) rfl (Or.inr ⟨rfl, rfl⟩) (fun _ => rfl) (fun _ => rfl) ?_
  refine xe_heap (hc_P (k := 55) (a := 161) rfl (by decide +kernel)) ?_
  refine xe_aload_n dX10_init_320 rfl ?_
  refine xe_sipush dX10_init_321 ks_2048 ?_
  refine xe_newa_int (n := 2048) dX10_init_324 (by decide) (show 162 < 1000000000 by decide) ?_
  refine xe_heap (hc_new (t := 100) (n := 2048) rfl rfl rfl (by decide +kernel)) ?_
  refine xe_putP (a := 162) (r := 124) dX10_init_326 flX10_132 (hc_Sh (by decide) rfl) (by decide) rfl (Or.inr ⟨rfl, rfl⟩) (fun _ => rfl) (fun _ => rfl) ?_
  refine xe_heap (hc_P (k := 56) (a := 162) rfl (by decide +kernel)) ?_
  refine xe_aload_n dX10_init_329 rfl ?_
  refine xe_sipush dX10_init_330 ks_256 ?_
  refine xe_newa_int (n := 256) dX10_init_333 (by decide) (show 163 < 1000000000 by decide) ?_
  refine xe_heap (hc_new (t := 100) (n := 256) rfl rfl rfl (by decide +kernel)) ?_
  refine xe_putP (a := 163) (r := 124) dX10_init_335 flX10_135 (hc_Sh (by decide) rfl) (by decide) rfl (Or.inr ⟨rfl, rfl⟩) (fun _ => rfl) (fun _ => rfl) ?_
  refine xe_heap (hc_P (k := 57) (a := 163) rfl (by decide +kernel)) ?_
  refine xe_aload_n dX10_init_338 rfl ?_
  refine xe_bipush dX10_init_339 kb_8 ?_
  refine xe_newa_int (n := 8) dX10_init_341 (by decide) (show 164 < 1000000000 by decide) ?_
  refine xe_heap (hc_new (t := 100) (n := 8) rfl rfl rfl (by decide +kernel)) ?_
  refine xe_putP (a := 164) (r := 124) dX10_init_343 flX10_138 (hc_Sh (by decide) rfl) (by decide) rfl (Or.inr ⟨rfl, rfl⟩) (fun _ => rfl) (fun _ => rfl) ?_
  refine xe_heap (hc_P (k := 58) (a := 164) rfl (by decide +kernel)) ?_
  refine xe_aload_n dX10_init_346 rfl ?_
  refine xe_bipush dX10_init_347 kb_8 ?_
  refine xe_newa_int (n := 8) dX10_init_349 (by decide) (show 165 < 1000000000 by decide) ?_
  refine xe_heap (hc_new (t := 100) (n := 8) rfl rfl rfl (by decide +kernel)) ?_
  refine xe_putP (a := 165) (r := 124) dX10_init_351 flX10_141 (hc_Sh (by decide) rfl) (by decide) rfl (Or.inr ⟨rfl, rfl⟩) (fun _ => rfl) (fun _ => rfl) ?_
  refine xe_heap (hc_P (k := 59) (a := 165) rfl (by decide +kernel)) ?_
  refine xe_aload_n dX10_init_354 rfl ?_
  refine xe_bipush dX10_init_355 kb_20 ?_
  refine xe_newa_int (n := 20) dX10_init_357 (by decide) (show 166 < 1000000000 by decide) ?_
  refine xe_heap (hc_new (t := 100) (n := 20) rfl rfl rfl (by decide +kernel)) ?_
  refine xe_putP (a := 166) (r := 124) dX10_init_359 flX10_144 (hc_Sh (by decide) rfl) (by decide) rfl (Or.inr ⟨rfl, rfl⟩) (fun _ => rfl) (fun _ => rfl) ?_
  refine xe_heap (hc_P (k := 63) (a := 166) rfl (by decide +kernel)) ?_
  refine xe_aload_n dX10_init_362 rfl ?_
  refine xe_bipush dX10_init_363 kb_20 ?_
  refine xe_newa_int (n := 20) dX10_init_365 (by decide) (show 167 < 1000000000 by decide) ?_
  refine xe_heap (hc_new (t := 100) (n := 20) rfl rfl rfl (by decide +kernel)) ?_
  refine xe_putP (a := 167) (r := 124) dX10_init_367 flX10_147 (hc_Sh (by decide) rfl) (by decide) rfl (Or.inr ⟨rfl, rfl⟩) (fun _ => rfl) (fun _ => rfl) ?_
  refine xe_heap (hc_P (k := 64) (a := 167) rfl (by decide +kernel)) ?_
  refine xe_aload_n dX10_init_370 rfl ?_
  refine xe_iconst dX10_init_371 kc_3 ?_
  refine xe_newa_boolean (n := 3) dX10_init_372 (by decide) (show 168 < 1000000000 by decide) ?_
  refine xe_heap (hc_new (t := 102) (n := 3) rfl rfl rfl (by decide +kernel)) ?_
  refine xe_putP (a := 168) (r := 124) dX10_init_374 flX10_150 (hc_Sh (by decide) rfl) (by decide) rfl (Or.inr ⟨rfl, rfl⟩) (fun _ => rfl) (fun _ => rfl) ?_
  refine xe_heap (hc_P (k := 65) (a := 168) rfl (by decide +kernel)) ?_
  refine xe_aload_n dX10_init_377 rfl ?_
  refine xe_sipush dX10_init_378 ks_5160 ?_
  refine xe_newa_int (n := 5160) dX10_init_381 (by decide) (show 169 < 1000000000 by decide) ?_
  refine xe_heap (hc_new (t := 100) (n := 5160) rfl rfl rfl (by decide +kernel)) ?_
  refine xe_putP (a := 169) (r := 124) dX10_init_383 flX10_153 (hc_Sh (by decide) rfl) (by decide) rfl (Or.inr ⟨rfl, rfl⟩) (fun _ => rfl) (fun _ => rfl) ?_
  refine xe_heap (hc_P (k := 66) (a := 169) rfl (by decide +kernel)) ?_
  refine xe_heap z_JK0 ?_
  refine xe_aload_n dX10_init_386 rfl ?_
  refine xe_getP (a := 131) dX10_init_387 flX10_34 (hc_Sh (by decide) rfl) (by decide) rfl (show hc_p 168 124 9 = some 131 by decide +kernel) ?_
  refine xe_iconst dX10_init_390 kc_0 ?_
  refine xe_bipush dX10_init_391 kb_109 ?_
  refine xe_bipush dX10_init_393 kb_97 ?_
  refine xe_bipush dX10_init_395 kb_110 ?_
  refine xe_iconst dX10_init_397 kc_0 ?_
  refine xe_iconst dX10_init_398 kc_0 ?_
  refine xe_iconst dX10_init_399 kc_0 ?_
  refine xe_iconst dX10_init_400 kc_0 ?_
  refine xe_callSJ (d' := 1) (y' := mX10_word) (as := [.int (nI 109), .int (nI 97), .int (nI 110), .int (nI 0), .int (nI 0), .int (nI 0), .int (nI 0)]) (rest := [.int (nI 0), .ref 131]) dX10_init_401 mlX10_156 msX10_word rfl (by decide) (by decide) (Nat.le_of_ble_eq_true rfl) (c_X10_word l g _ (Or.inr ⟨by decide, by decide⟩) (Or.inr ⟨by decide, by decide⟩) (Or.inr ⟨by decide, by decide⟩) (Or.inl rfl) (Or.inl rfl) (Or.inl rfl) (Or.inl rfl)) rfl ?_
  refine xe_topJ (v' := q_e27 (tz_kw.getD 0 [])) (by decide +kernel) ?_
  refine xn_last (n := 17) dX10_init_404 (hc_Sh (by decide) rfl) (by decide) (by decide) ?_
  refine xe_heap z_JKs ?_
  refine xe_aload_n dX10_init_405 rfl ?_
  refine xe_getP (a := 131) dX10_init_406 flX10_34 (hc_Sh (by decide) rfl) (by decide) rfl (show hc_p 168 124 9 = some 131 by decide +kernel) ?_
  refine xe_iconst dX10_init_409 kc_1 ?_
  refine xe_bipush dX10_init_410 kb_100 ?_
  refine xe_bipush dX10_init_412 kb_101 ?_
  refine xe_bipush dX10_init_414 kb_101 ?_
  refine xe_bipush dX10_init_416 kb_100 ?_
  refine xe_iconst dX10_init_418 kc_0 ?_
  refine xe_iconst dX10_init_419 kc_0 ?_
  refine xe_iconst dX10_init_420 kc_0 ?_
  refine xe_callSJ (d' := 1) (y' := mX10_word) (as := [.int (nI 100), .int (nI 101), .int (nI 101), .int (nI 100), .int (nI 0), .int (nI 0), .int (nI 0)]) (rest := [.int (nI 1), .ref 131]) dX10_init_421 mlX10_156 msX10_word rfl (by decide) (by decide) (Nat.le_of_ble_eq_true rfl) (c_X10_word l g _ (Or.inr ⟨by decide, by decide⟩) (Or.inr ⟨by decide, by decide⟩) (Or.inr ⟨by decide, by decide⟩) (Or.inr ⟨by decide, by decide⟩) (Or.inl rfl) (Or.inl rfl) (Or.inl rfl)) rfl ?_
  refine xe_topJ (v' := q_e27 (tz_kw.getD 1 [])) (by decide +kernel) ?_
  refine xn_last (n := 17) dX10_init_424 (hc_Sh (by decide) rfl) (by decide) (by decide) ?_
  refine xe_heap z_JKs ?_
  refine xe_aload_n dX10_init_425 rfl ?_
  refine xe_getP (a := 131) dX10_init_426 flX10_34 (hc_Sh (by decide) rfl) (by decide) rfl (show hc_p 168 124 9 = some 131 by decide +kernel) ?_
  refine xe_iconst dX10_init_429 kc_2 ?_
  refine xe_bipush dX10_init_430 kb_102 ?_
  refine xe_bipush dX10_init_432 kb_105 ?_
  refine xe_bipush dX10_init_434 kb_110 ?_
  refine xe_bipush dX10_init_436 kb_101 ?_
  refine xe_iconst dX10_init_438 kc_0 ?_
  refine xe_iconst dX10_init_439 kc_0 ?_
  refine xe_iconst dX10_init_440 kc_0 ?_
  refine xe_callSJ (d' := 1) (y' := mX10_word) (as := [.int (nI 102), .int (nI 105), .int (nI 110), .int (nI 101), .int (nI 0), .int (nI 0), .int (nI 0)]) (rest := [.int (nI 2), .ref 131]) dX10_init_441 mlX10_156 msX10_word rfl (by decide) (by decide) (Nat.le_of_ble_eq_true rfl) (c_X10_word l g _ (Or.inr ⟨by decide, by decide⟩) (Or.inr ⟨by decide, by decide⟩) (Or.inr ⟨by decide, by decide⟩) (Or.inr ⟨by decide, by decide⟩) (Or.inl rfl) (Or.inl rfl) (Or.inl rfl)) rfl ?_
  refine xe_topJ (v' := q_e27 (tz_kw.getD 2 [])) (by decide +kernel) ?_
  refine xn_last (n := 17) dX10_init_444 (hc_Sh (by decide) rfl) (by decide) (by decide) ?_
  refine xe_heap z_JKs ?_
  refine xe_aload_n dX10_init_445 rfl ?_
  refine xe_getP (a := 131) dX10_init_446 flX10_34 (hc_Sh (by decide) rfl) (by decide) rfl (show hc_p 168 124 9 = some 131 by decide +kernel) ?_
  refine xe_iconst dX10_init_449 kc_3 ?_
  refine xe_bipush dX10_init_450 kb_103 ?_
  refine xe_bipush dX10_init_452 kb_114 ?_
  refine xe_bipush dX10_init_454 kb_111 ?_
  refine xe_bipush dX10_init_456 kb_119 ?_
  refine xe_iconst dX10_init_458 kc_0 ?_
  refine xe_iconst dX10_init_459 kc_0 ?_
  refine xe_iconst dX10_init_460 kc_0 ?_
  refine xe_callSJ (d' := 1) (y' := mX10_word) (as := [.int (nI 103), .int (nI 114), .int (nI 111), .int (nI 119), .int (nI 0), .int (nI 0), .int (nI 0)]) (rest := [.int (nI 3), .ref 131]) dX10_init_461 mlX10_156 msX10_word rfl (by decide) (by decide) (Nat.le_of_ble_eq_true rfl) (c_X10_word l g _ (Or.inr ⟨by decide, by decide⟩) (Or.inr ⟨by decide, by decide⟩) (Or.inr ⟨by decide, by decide⟩) (Or.inr ⟨by decide, by decide⟩) (Or.inl rfl) (Or.inl rfl) (Or.inl rfl)) rfl ?_
  refine xe_topJ (v' := q_e27 (tz_kw.getD 3 [])) (by decide +kernel) ?_
  refine xn_last (n := 17) dX10_init_464 (hc_Sh (by decide) rfl) (by decide) (by decide) ?_
  refine xe_heap z_JKs ?_
  refine xe_aload_n dX10_init_465 rfl ?_
  refine xe_getP (a := 131) dX10_init_466 flX10_34 (hc_Sh (by decide) rfl) (by decide) rfl (show hc_p 168 124 9 = some 131 by decide +kernel) ?_
  refine xe_iconst dX10_init_469 kc_4 ?_
  refine xe_bipush dX10_init_470 kb_119 ?_
  refine xe_bipush dX10_init_472 kb_97 ?_
  refine xe_bipush dX10_init_474 kb_114 ?_
  refine xe_bipush dX10_init_476 kb_109 ?_
  refine xe_iconst dX10_init_478 kc_0 ?_
  refine xe_iconst dX10_init_479 kc_0 ?_
  refine xe_iconst dX10_init_480 kc_0 ?_
  refine xe_callSJ (d' := 1) (y' := mX10_word) (as := [.int (nI 119), .int (nI 97), .int (nI 114), .int (nI 109), .int (nI 0), .int (nI 0), .int (nI 0)]) (rest := [.int (nI 4), .ref 131]) dX10_init_481 mlX10_156 msX10_word rfl (by decide) (by decide) (Nat.le_of_ble_eq_true rfl) (c_X10_word l g _ (Or.inr ⟨by decide, by decide⟩) (Or.inr ⟨by decide, by decide⟩) (Or.inr ⟨by decide, by decide⟩) (Or.inr ⟨by decide, by decide⟩) (Or.inl rfl) (Or.inl rfl) (Or.inl rfl)) rfl ?_
  refine xe_topJ (v' := q_e27 (tz_kw.getD 4 [])) (by decide +kernel) ?_
  refine xn_last (n := 17) dX10_init_484 (hc_Sh (by decide) rfl) (by decide) (by decide) ?_
  refine xe_heap z_JKs ?_
  refine xe_aload_n dX10_init_485 rfl ?_
  refine xe_getP (a := 131) dX10_init_486 flX10_34 (hc_Sh (by decide) rfl) (by decide) rfl (show hc_p 168 124 9 = some 131 by decide +kernel) ?_
  refine xe_iconst dX10_init_489 kc_5 ?_
  refine xe_bipush dX10_init_490 kb_118 ?_
  refine xe_bipush dX10_init_492 kb_111 ?_
  refine xe_bipush dX10_init_494 kb_116 ?_
  refine xe_bipush dX10_init_496 kb_101 ?_
  refine xe_iconst dX10_init_498 kc_0 ?_
  refine xe_iconst dX10_init_499 kc_0 ?_
  refine xe_iconst dX10_init_500 kc_0 ?_
  refine xe_callSJ (d' := 1) (y' := mX10_word) (as := [.int (nI 118), .int (nI 111), .int (nI 116), .int (nI 101), .int (nI 0), .int (nI 0), .int (nI 0)]) (rest := [.int (nI 5), .ref 131]) dX10_init_501 mlX10_156 msX10_word rfl (by decide) (by decide) (Nat.le_of_ble_eq_true rfl) (c_X10_word l g _ (Or.inr ⟨by decide, by decide⟩) (Or.inr ⟨by decide, by decide⟩) (Or.inr ⟨by decide, by decide⟩) (Or.inr ⟨by decide, by decide⟩) (Or.inl rfl) (Or.inl rfl) (Or.inl rfl)) rfl ?_
  refine xe_topJ (v' := q_e27 (tz_kw.getD 5 [])) (by decide +kernel) ?_
  refine xn_last (n := 17) dX10_init_504 (hc_Sh (by decide) rfl) (by decide) (by decide) ?_
  refine xe_heap z_JKs ?_
  refine xe_aload_n dX10_init_505 rfl ?_
  refine xe_getP (a := 131) dX10_init_506 flX10_34 (hc_Sh (by decide) rfl) (by decide) rfl (show hc_p 168 124 9 = some 131 by decide +kernel) ?_
  refine xe_bipush dX10_init_509 kb_6 ?_
  refine xe_bipush dX10_init_511 kb_99 ?_
  refine xe_bipush dX10_init_513 kb_111 ?_
  refine xe_bipush dX10_init_515 kb_108 ?_
  refine xe_bipush dX10_init_517 kb_100 ?_
  refine xe_iconst dX10_init_519 kc_0 ?_
  refine xe_iconst dX10_init_520 kc_0 ?_
  refine xe_iconst dX10_init_521 kc_0 ?_
  refine xe_callSJ (d' := 1) (y' := mX10_word) (as := [.int (nI 99), .int (nI 111), .int (nI 108), .int (nI 100), .int (nI 0), .int (nI 0), .int (nI 0)]) (rest := [.int (nI 6), .ref 131]) dX10_init_522 mlX10_156 msX10_word rfl (by decide) (by decide) (Nat.le_of_ble_eq_true rfl) (c_X10_word l g _ (Or.inr ⟨by decide, by decide⟩) (Or.inr ⟨by decide, by decide⟩) (Or.inr ⟨by decide, by decide⟩) (Or.inr ⟨by decide, by decide⟩) (Or.inl rfl) (Or.inl rfl) (Or.inl rfl)) rfl ?_
  refine xe_topJ (v' := q_e27 (tz_kw.getD 6 [])) (by decide +kernel) ?_
  refine xn_last (n := 17) dX10_init_525 (hc_Sh (by decide) rfl) (by decide) (by decide) ?_
  refine xe_heap z_JKs ?_
  refine xe_aload_n dX10_init_526 rfl ?_
  refine xe_getP (a := 131) dX10_init_527 flX10_34 (hc_Sh (by decide) rfl) (by decide) rfl (show hc_p 168 124 9 = some 131 by decide +kernel) ?_
  refine xe_bipush dX10_init_530 kb_7 ?_
  refine xe_bipush dX10_init_532 kb_109 ?_
  refine xe_bipush dX10_init_534 kb_111 ?_
  refine xe_bipush dX10_init_536 kb_117 ?_
  refine xe_bipush dX10_init_538 kb_108 ?_
  refine xe_bipush dX10_init_540 kb_116 ?_
  refine xe_iconst dX10_init_542 kc_0 ?_
  refine xe_iconst dX10_init_543 kc_0 ?_
  refine xe_callSJ (d' := 1) (y' := mX10_word) (as := [.int (nI 109), .int (nI 111), .int (nI 117), .int (nI 108), .int (nI 116), .int (nI 0), .int (nI 0)]) (rest := [.int (nI 7), .ref 131]) dX10_init_544 mlX10_156 msX10_word rfl (by decide) (by decide) (Nat.le_of_ble_eq_true rfl) (c_X10_word l g _ (Or.inr ⟨by decide, by decide⟩) (Or.inr ⟨by decide, by decide⟩) (Or.inr ⟨by decide, by decide⟩) (Or.inr ⟨by decide, by decide⟩) (Or.inr ⟨by decide, by decide⟩) (Or.inl rfl) (Or.inl rfl)) rfl ?_
  refine xe_topJ (v' := q_e27 (tz_kw.getD 7 [])) (by decide +kernel) ?_
  refine xn_last (n := 17) dX10_init_547 (hc_Sh (by decide) rfl) (by decide) (by decide) ?_
  refine xe_heap z_JKs ?_
  refine xe_aload_n dX10_init_548 rfl ?_
  refine xe_getP (a := 131) dX10_init_549 flX10_34 (hc_Sh (by decide) rfl) (by decide) rfl (show hc_p 168 124 9 = some 131 by decide +kernel) ?_
  refine xe_bipush dX10_init_552 kb_8 ?_
  refine xe_bipush dX10_init_554 kb_105 ?_
  refine xe_bipush dX10_init_556 kb_102 ?_
  refine xe_iconst dX10_init_558 kc_0 ?_
  refine xe_iconst dX10_init_559 kc_0 ?_
  refine xe_iconst dX10_init_560 kc_0 ?_
  refine xe_iconst dX10_init_561 kc_0 ?_
  refine xe_iconst dX10_init_562 kc_0 ?_
  refine xe_callSJ (d' := 1) (y' := mX10_word) (as := [.int (nI 105), .int (nI 102), .int (nI 0), .int (nI 0), .int (nI 0), .int (nI 0), .int (nI 0)]) (rest := [.int (nI 8), .ref 131]) dX10_init_563 mlX10_156 msX10_word rfl (by decide) (by decide) (Nat.le_of_ble_eq_true rfl) (c_X10_word l g _ (Or.inr ⟨by decide, by decide⟩) (Or.inr ⟨by decide, by decide⟩) (Or.inl rfl) (Or.inl rfl) (Or.inl rfl) (Or.inl rfl) (Or.inl rfl)) rfl ?_
  refine xe_topJ (v' := q_e27 (tz_kw.getD 8 [])) (by decide +kernel) ?_
  refine xn_last (n := 17) dX10_init_566 (hc_Sh (by decide) rfl) (by decide) (by decide) ?_
  refine xe_heap z_JKs ?_
  refine xe_aload_n dX10_init_567 rfl ?_
  refine xe_getP (a := 131) dX10_init_568 flX10_34 (hc_Sh (by decide) rfl) (by decide) rfl (show hc_p 168 124 9 = some 131 by decide +kernel) ?_
  refine xe_bipush dX10_init_571 kb_9 ?_
  refine xe_bipush dX10_init_573 kb_116 ?_
  refine xe_bipush dX10_init_575 kb_104 ?_
  refine xe_bipush dX10_init_577 kb_101 ?_
  refine xe_bipush dX10_init_579 kb_110 ?_
  refine xe_iconst dX10_init_581 kc_0 ?_
  refine xe_iconst dX10_init_582 kc_0 ?_
  refine xe_iconst dX10_init_583 kc_0 ?_
  refine xe_callSJ (d' := 1) (y' := mX10_word) (as := [.int (nI 116), .int (nI 104), .int (nI 101), .int (nI 110), .int (nI 0), .int (nI 0), .int (nI 0)]) (rest := [.int (nI 9), .ref 131]) dX10_init_584 mlX10_156 msX10_word rfl (by decide) (by decide) (Nat.le_of_ble_eq_true rfl) (c_X10_word l g _ (Or.inr ⟨by decide, by decide⟩) (Or.inr ⟨by decide, by decide⟩) (Or.inr ⟨by decide, by decide⟩) (Or.inr ⟨by decide, by decide⟩) (Or.inl rfl) (Or.inl rfl) (Or.inl rfl)) rfl ?_
  refine xe_topJ (v' := q_e27 (tz_kw.getD 9 [])) (by decide +kernel) ?_
  refine xn_last (n := 17) dX10_init_587 (hc_Sh (by decide) rfl) (by decide) (by decide) ?_
  refine xe_heap z_JKs ?_
  refine xe_aload_n dX10_init_588 rfl ?_
  refine xe_getP (a := 131) dX10_init_589 flX10_34 (hc_Sh (by decide) rfl) (by decide) rfl (show hc_p 168 124 9 = some 131 by decide +kernel) ?_
  refine xe_bipush dX10_init_592 kb_10 ?_
  refine xe_bipush dX10_init_594 kb_101 ?_
  refine xe_bipush dX10_init_596 kb_108 ?_
  refine xe_bipush dX10_init_598 kb_115 ?_
  refine xe_bipush dX10_init_600 kb_101 ?_
  refine xe_iconst dX10_init_602 kc_0 ?_
  refine xe_iconst dX10_init_603 kc_0 ?_
  refine xe_iconst dX10_init_604 kc_0 ?_
  refine xe_callSJ (d' := 1) (y' := mX10_word) (as := [.int (nI 101), .int (nI 108), .int (nI 115), .int (nI 101), .int (nI 0), .int (nI 0), .int (nI 0)]) (rest := [.int (nI 10), .ref 131]) dX10_init_605 mlX10_156 msX10_word rfl (by decide) (by decide) (Nat.le_of_ble_eq_true rfl) (c_X10_word l g _ (Or.inr ⟨by decide, by decide⟩) (Or.inr ⟨by decide, by decide⟩) (Or.inr ⟨by decide, by decide⟩) (Or.inr ⟨by decide, by decide⟩) (Or.inl rfl) (Or.inl rfl) (Or.inl rfl)) rfl ?_
  refine xe_topJ (v' := q_e27 (tz_kw.getD 10 [])) (by decide +kernel) ?_
  refine xn_last (n := 17) dX10_init_608 (hc_Sh (by decide) rfl) (by decide) (by decide) ?_
  refine xe_heap z_JKs ?_
  refine xe_aload_n dX10_init_609 rfl ?_
  refine xe_getP (a := 131) dX10_init_610 flX10_34 (hc_Sh (by decide) rfl) (by decide) rfl (show hc_p 168 124 9 = some 131 by decide +kernel) ?_
  refine xe_bipush dX10_init_613 kb_11 ?_
  refine xe_bipush dX10_init_615 kb_104 ?_
  refine xe_bipush dX10_init_617 kb_97 ?_
  refine xe_bipush dX10_init_619 kb_118 ?_
  refine xe_bipush dX10_init_621 kb_101 ?_
  refine xe_iconst dX10_init_623 kc_0 ?_
  refine xe_iconst dX10_init_624 kc_0 ?_
  refine xe_iconst dX10_init_625 kc_0 ?_
  refine xe_callSJ (d' := 1) (y' := mX10_word) (as := [.int (nI 104), .int (nI 97), .int (nI 118), .int (nI 101), .int (nI 0), .int (nI 0), .int (nI 0)]) (rest := [.int (nI 11), .ref 131]) dX10_init_626 mlX10_156 msX10_word rfl (by decide) (by decide) (Nat.le_of_ble_eq_true rfl) (c_X10_word l g _ (Or.inr ⟨by decide, by decide⟩) (Or.inr ⟨by decide, by decide⟩) (Or.inr ⟨by decide, by decide⟩) (Or.inr ⟨by decide, by decide⟩) (Or.inl rfl) (Or.inl rfl) (Or.inl rfl)) rfl ?_
  refine xe_topJ (v' := q_e27 (tz_kw.getD 11 [])) (by decide +kernel) ?_
  refine xn_last (n := 17) dX10_init_629 (hc_Sh (by decide) rfl) (by decide) (by decide) ?_
  refine xe_heap z_JKs ?_
  refine xe_aload_n dX10_init_630 rfl ?_
  refine xe_getP (a := 131) dX10_init_631 flX10_34 (hc_Sh (by decide) rfl) (by decide) rfl (show hc_p 168 124 9 = some 131 by decide +kernel) ?_
  refine xe_bipush dX10_init_634 kb_12 ?_
  refine xe_bipush dX10_init_636 kb_116 ?_
  refine xe_bipush dX10_init_638 kb_105 ?_
  refine xe_bipush dX10_init_640 kb_109 ?_
  refine xe_bipush dX10_init_642 kb_101 ?_
  refine xe_bipush dX10_init_644 kb_115 ?_
  refine xe_iconst dX10_init_646 kc_0 ?_
  refine xe_iconst dX10_init_647 kc_0 ?_
  refine xe_callSJ (d' := 1) (y' := mX10_word) (as := [.int (nI 116), .int (nI 105), .int (nI 109), .int (nI 101), .int (nI 115), .int (nI 0), .int (nI 0)]) (rest := [.int (nI 12), .ref 131]) dX10_init_648 mlX10_156 msX10_word rfl (by decide) (by decide) (Nat.le_of_ble_eq_true rfl) (c_X10_word l g _ (Or.inr ⟨by decide, by decide⟩) (Or.inr ⟨by decide, by decide⟩) (Or.inr ⟨by decide, by decide⟩) (Or.inr ⟨by decide, by decide⟩) (Or.inr ⟨by decide, by decide⟩) (Or.inl rfl) (Or.inl rfl)) rfl ?_
  refine xe_topJ (v' := q_e27 (tz_kw.getD 12 [])) (by decide +kernel) ?_
  refine xn_last (n := 17) dX10_init_651 (hc_Sh (by decide) rfl) (by decide) (by decide) ?_
  refine xe_heap z_JKs ?_
  refine xe_aload_n dX10_init_652 rfl ?_
  refine xe_getP (a := 131) dX10_init_653 flX10_34 (hc_Sh (by decide) rfl) (by decide) rfl (show hc_p 168 124 9 = some 131 by decide +kernel) ?_
  refine xe_bipush dX10_init_656 kb_13 ?_
  refine xe_bipush dX10_init_658 kb_119 ?_
  refine xe_bipush dX10_init_660 kb_101 ?_
  refine xe_bipush dX10_init_662 kb_101 ?_
  refine xe_bipush dX10_init_664 kb_107 ?_
  refine xe_iconst dX10_init_666 kc_0 ?_
  refine xe_iconst dX10_init_667 kc_0 ?_
  refine xe_iconst dX10_init_668 kc_0 ?_
  refine xe_callSJ (d' := 1) (y' := mX10_word) (as := [.int (nI 119), .int (nI 101), .int (nI 101), .int (nI 107), .int (nI 0), .int (nI 0), .int (nI 0)]) (rest := [.int (nI 13), .ref 131]) dX10_init_669 mlX10_156 msX10_word rfl (by decide) (by decide) (Nat.le_of_ble_eq_true rfl) (c_X10_word l g _ (Or.inr ⟨by decide, by decide⟩) (Or.inr ⟨by decide, by decide⟩) (Or.inr ⟨by decide, by decide⟩) (Or.inr ⟨by decide, by decide⟩) (Or.inl rfl) (Or.inl rfl) (Or.inl rfl)) rfl ?_
  refine xe_topJ (v' := q_e27 (tz_kw.getD 13 [])) (by decide +kernel) ?_
  refine xn_last (n := 17) dX10_init_672 (hc_Sh (by decide) rfl) (by decide) (by decide) ?_
  refine xe_heap z_JKs ?_
  refine xe_aload_n dX10_init_673 rfl ?_
  refine xe_getP (a := 131) dX10_init_674 flX10_34 (hc_Sh (by decide) rfl) (by decide) rfl (show hc_p 168 124 9 = some 131 by decide +kernel) ?_
  refine xe_bipush dX10_init_677 kb_14 ?_
  refine xe_bipush dX10_init_679 kb_119 ?_
  refine xe_bipush dX10_init_681 kb_105 ?_
  refine xe_bipush dX10_init_683 kb_110 ?_
  refine xe_bipush dX10_init_685 kb_100 ?_
  refine xe_iconst dX10_init_687 kc_0 ?_
  refine xe_iconst dX10_init_688 kc_0 ?_
  refine xe_iconst dX10_init_689 kc_0 ?_
  refine xe_callSJ (d' := 1) (y' := mX10_word) (as := [.int (nI 119), .int (nI 105), .int (nI 110), .int (nI 100), .int (nI 0), .int (nI 0), .int (nI 0)]) (rest := [.int (nI 14), .ref 131]) dX10_init_690 mlX10_156 msX10_word rfl (by decide) (by decide) (Nat.le_of_ble_eq_true rfl) (c_X10_word l g _ (Or.inr ⟨by decide, by decide⟩) (Or.inr ⟨by decide, by decide⟩) (Or.inr ⟨by decide, by decide⟩) (Or.inr ⟨by decide, by decide⟩) (Or.inl rfl) (Or.inl rfl) (Or.inl rfl)) rfl ?_
  refine xe_topJ (v' := q_e27 (tz_kw.getD 14 [])) (by decide +kernel) ?_
  refine xn_last (n := 17) dX10_init_693 (hc_Sh (by decide) rfl) (by decide) (by decide) ?_
  refine xe_heap z_JKs ?_
  refine xe_aload_n dX10_init_694 rfl ?_
  refine xe_getP (a := 131) dX10_init_695 flX10_34 (hc_Sh (by decide) rfl) (by decide) rfl (show hc_p 168 124 9 = some 131 by decide +kernel) ?_
  refine xe_bipush dX10_init_698 kb_15 ?_
  refine xe_bipush dX10_init_700 kb_99 ?_
  refine xe_bipush dX10_init_702 kb_104 ?_
  refine xe_bipush dX10_init_704 kb_101 ?_
  refine xe_bipush dX10_init_706 kb_115 ?_
  refine xe_bipush dX10_init_708 kb_116 ?_
  refine xe_iconst dX10_init_710 kc_0 ?_
  refine xe_iconst dX10_init_711 kc_0 ?_
  refine xe_callSJ (d' := 1) (y' := mX10_word) (as := [.int (nI 99), .int (nI 104), .int (nI 101), .int (nI 115), .int (nI 116), .int (nI 0), .int (nI 0)]) (rest := [.int (nI 15), .ref 131]) dX10_init_712 mlX10_156 msX10_word rfl (by decide) (by decide) (Nat.le_of_ble_eq_true rfl) (c_X10_word l g _ (Or.inr ⟨by decide, by decide⟩) (Or.inr ⟨by decide, by decide⟩) (Or.inr ⟨by decide, by decide⟩) (Or.inr ⟨by decide, by decide⟩) (Or.inr ⟨by decide, by decide⟩) (Or.inl rfl) (Or.inl rfl)) rfl ?_
  refine xe_topJ (v' := q_e27 (tz_kw.getD 15 [])) (by decide +kernel) ?_
  refine xn_last (n := 17) dX10_init_715 (hc_Sh (by decide) rfl) (by decide) (by decide) ?_
  refine xe_heap z_JKs ?_
  refine xe_aload_n dX10_init_716 rfl ?_
  refine xe_getP (a := 131) dX10_init_717 flX10_34 (hc_Sh (by decide) rfl) (by decide) rfl (show hc_p 168 124 9 = some 131 by decide +kernel) ?_
  refine xe_bipush dX10_init_720 kb_16 ?_
  refine xe_bipush dX10_init_722 kb_114 ?_
  refine xe_bipush dX10_init_724 kb_97 ?_
  refine xe_bipush dX10_init_726 kb_110 ?_
  refine xe_bipush dX10_init_728 kb_107 ?_
  refine xe_iconst dX10_init_730 kc_0 ?_
  refine xe_iconst dX10_init_731 kc_0 ?_
  refine xe_iconst dX10_init_732 kc_0 ?_
  refine xe_callSJ (d' := 1) (y' := mX10_word) (as := [.int (nI 114), .int (nI 97), .int (nI 110), .int (nI 107), .int (nI 0), .int (nI 0), .int (nI 0)]) (rest := [.int (nI 16), .ref 131]) dX10_init_733 mlX10_156 msX10_word rfl (by decide) (by decide) (Nat.le_of_ble_eq_true rfl) (c_X10_word l g _ (Or.inr ⟨by decide, by decide⟩) (Or.inr ⟨by decide, by decide⟩) (Or.inr ⟨by decide, by decide⟩) (Or.inr ⟨by decide, by decide⟩) (Or.inl rfl) (Or.inl rfl) (Or.inl rfl)) rfl ?_
  refine xe_topJ (v' := q_e27 (tz_kw.getD 16 [])) (by decide +kernel) ?_
  refine xn_last (n := 17) dX10_init_736 (hc_Sh (by decide) rfl) (by decide) (by decide) ?_
  refine xe_heap z_JKs ?_
  refine xe_return dX10_init_737 rfl ?_
  exact ⟨rfl, rfl⟩
