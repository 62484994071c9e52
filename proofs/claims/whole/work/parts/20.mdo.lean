/-! the reference: what is done -/
/-- it is kept: the row R is what is now -/
def q_kept (h : q_H) (u : Nat) (R : Nat → Int32) (h1 : q_H) : Prop := ∃ h2, q_mag h h2 ∧ q_I h2 155 = R ∧ h1 = q_keep h2 u
theorem q_m1_ne {F T k j : Nat} {s : (Nat → Int32) × Int32} (hF : F < 9) (hT : T < 9) (hk : k < 8) (hj : 72 ≤ j) : (q_m1 F T s k).1 j = s.1 j := by
  unfold q_m1
  show upd (upd s.1 _ _) _ _ j = _
  rw [pk_un (by omega), pk_un (by omega)]
theorem q_mvs_ne {F T f j : Nat} {R : Nat → Int32} {n : Int32} (hF : F < 9) (hT : T < 9) (hf : f < 8) (hj : 72 ≤ j) : ∀ i, i ≤ 8 → (q_mvs F T f R n i).1 j = R j
  | 0, _ => q_m1_ne hF hT hf hj
  | i + 1, hi => by
    have ih := q_mvs_ne (R := R) (n := n) hF hT hf hj i (by omega)
    unfold q_mvs
    split
    · exact ih
    · exact (q_m1_ne hF hT (by omega) hj).trans ih
/-- how many feathers come by a fine, and the row behind it -/
def q_fn (R C : Nat → Int32) (LW : q_LW) (lv nc w m d : Nat) : Int32 := if q_fin R C LW lv nc w m d ≤ q_s8 R (8 * m) then q_fin R C LW lv nc w m d else q_s8 R (8 * m)
def q_fnT (R : Nat → Int32) (n : Int32) (m d : Nat) : Nat → Int32 := upd (q_mvs m 8 m R n 8).1 (136 + 8 * m + d) ((q_mvs m 8 m R n 8).1 (136 + 8 * m + d) + nI 1)
def q_fnE (R : Nat → Int32) (n : Int32) (m d E w : Nat) : Nat → Int32 := upd (upd (upd (upd (upd R (210 + 5 * E) (nI m)) (210 + 5 * E + 1) (nI d)) (210 + 5 * E + 2) (nI w)) (210 + 5 * E + 3) n) (210 + 5 * E + 4) (nI 0)
def q_fnR (R : Nat → Int32) (n : Int32) (m d E w : Nat) : Nat → Int32 := upd (q_fnE (q_fnT R n m d) n m d E w) 201 (nI (E + 1))
theorem c_X10_fine_t (l : Launch) (g : q_GP) (h : q_H) (hs : q_Stat h) {lv nm nd nc mo : Nat} (hp : rm_P h lv nm nd nc mo) {LW : q_LW} (hL : rm_L h lv LW) {w : Nat} (hw : q_I h 154 200 = nI w) (hw2 : w < 2 ^ 20) {u E : Nat} (hu : q_I h 124 51 = nI u) (hu2 : u ≤ 25) (hE : q_I h 154 201 = nI E) (hE2 : E ≤ 300) {m d : Nat} (hm : m < nm) (hd : d < nd) (hE3 : E < 300) : q_Ct l g 3 mX10_fine [.ref 124, .int (nI m), .int (nI d)] h (fun r h1 => r = some (.int (q_fn (q_cpy (q_I h 154) (q_I h 155) 1720) (q_I h 140) LW lv nc w m d)) ∧ q_kept h u (q_fnR (q_cpy (q_I h 154) (q_I h 155) 1720) (q_fn (q_cpy (q_I h 154) (q_I h 155) 1720) (q_I h 140) LW lv nc w m d) m d E w) h1) := by
  obtain ⟨p1, p2, p3, p4, p5, p6, p7, p8, p9, p10⟩ := id hp
  have h1 := q_ltn_t (by omega : nm < 2 ^ 31) hm
  have h2 := q_ltn_t (by omega : nd < 2 ^ 31) hd
  refine q_CtV mvX10_fine (Nat.le_of_ble_eq_true rfl) ?_
  refine xe_aload_n dX10_fine_0 rfl ?_
  refine xe_iload_n dX10_fine_1 rfl ?_
  refine xe_callVI (d' := 1) (y' := mX10_isMan) dX10_fine_2 mlX10_340 mvX10_isMan rfl (st124 hs) (by decide) rfl (by decide) (by decide) (Nat.le_of_ble_eq_true rfl) (c_X10_isManv l g _ (by exact hs) (by exact hp) _ (by assumption)) rfl ?_
  refine xn_if_eq (tgt := 16) dX10_fine_5 rfl (by omega) (fun c1 => ?_) (fun c1 => ?_)
  · omega
  · refine xe_aload_n dX10_fine_8 rfl ?_
    refine xe_iload_n dX10_fine_9 rfl ?_
    refine xe_callVI (d' := 1) (y' := mX10_isDeed) dX10_fine_10 mlX10_359 mvX10_isDeed rfl (st124 hs) (by decide) rfl (by decide) (by decide) (Nat.le_of_ble_eq_true rfl) (c_X10_isDeedv l g _ (by exact hs) (by exact hp) _ (by assumption)) rfl ?_
    refine xn_if_ne (tgt := 18) dX10_fine_13 rfl (by omega) (fun c2 => ?_) (fun c2 => ?_)
    · refine xe_aload_n dX10_fine_18 rfl ?_
      refine xe_getP dX10_fine_19 flX10_107 (st124 hs) (by decide) rfl (sp124_47 hs) ?_
      refine xe_sipush dX10_fine_22 ks_201 ?_
      refine xn_ialdv dX10_fine_25 (st154 hs) (by omega) (by decide) (v := nI E) (hE) ?_
      refine xe_sipush dX10_fine_26 ks_300 ?_
      refine xn_icmp_ne (tgt := 35) dX10_fine_29 rfl (by omega) (by omega) (fun c3 => ?_) (fun c3 => ?_)
      · refine xe_aload_n dX10_fine_35 rfl ?_
        refine xe_callVV (d' := 0) (y' := mX10_copiesAll) dX10_fine_36 mlX10_366 mvX10_copiesAll rfl (st124 hs) (by decide) rfl (by decide) (by decide) (Nat.le_of_ble_eq_true rfl) (c_X10_copiesAll l g _ (by exact hs)) rfl ?_
        refine xe_aload_n dX10_fine_39 rfl ?_
        refine xe_iload_n dX10_fine_40 rfl ?_
        refine xe_callVI (d' := 0) (y' := mX10_haveOf) dX10_fine_41 mlX10_319 mvX10_haveOf rfl (st124 hs) (by decide) rfl (by decide) (by decide) (Nat.le_of_ble_eq_true rfl) (c_X10_haveOf l g _ (by exact hs) _ (by omega)) rfl ?_
        refine xe_top (v' := q_s8 (q_cpy (q_I h 154) (q_I h 155) 1720) (8 * m)) rfl ?_
        refine xe_istore_n (i := 3) dX10_fine_44 rfl (by decide) rfl ?_
        refine xe_aload_n dX10_fine_45 rfl ?_
        refine xe_iload_n dX10_fine_46 rfl ?_
        refine xe_iload_n dX10_fine_47 rfl ?_
        refine xe_callVIq (d' := 2) (y' := mX10_fineOf) dX10_fine_48 mlX10_362 mvX10_fineOf rfl (st124 hs) (by decide) rfl (by decide) (by decide) (Nat.le_of_ble_eq_true rfl) (c_X10_fineOf l g _ (by exact hs) (by exact hp) (by exact rm_L_of (h := h) ⟨rfl, rfl, rfl, rfl, rfl, rfl, rfl, rfl, rfl⟩ hL) (by exact hw) (by omega) _ _ (by omega) (by omega)) rfl (fun h1 hq => ?_)
        obtain ⟨V1, p1, b1, rfl⟩ := hq
        refine xe_top (v' := q_fin (q_cpy (q_I h 154) (q_I h 155) 1720) (q_I h 140) LW lv nc w m d) rfl ?_
        refine xe_istore dX10_fine_51 (by decide) rfl ?_
        refine xe_iload dX10_fine_53 rfl ?_
        refine xe_iload_n dX10_fine_55 rfl ?_
        refine xe_icmp_le (tgt := 62) dX10_fine_56 rfl (fun c4 => ?_) (fun c4 => ?_)
        · have e5 : q_fn (q_cpy (q_I h 154) (q_I h 155) 1720) (q_I h 140) LW lv nc w m d = q_fin (q_cpy (q_I h 154) (q_I h 155) 1720) (q_I h 140) LW lv nc w m d := if_pos c4
          refine xe_aload_n dX10_fine_62 rfl ?_
          refine xe_iload_n dX10_fine_63 rfl ?_
          refine xe_bipush dX10_fine_64 kb_8 ?_
          refine xe_iload dX10_fine_66 rfl ?_
          refine xe_iload_n dX10_fine_68 rfl ?_
          refine xe_callVV (d' := 0) (y' := mX10_moves) dX10_fine_69 mlX10_369 mvX10_moves rfl (st124 hs) (by decide) rfl (by decide) (by decide) (Nat.le_of_ble_eq_true rfl) (c_X10_moves l g _ (by exact hs) _ _ _ _ (by omega) (by omega) (by omega)) rfl ?_
          refine xe_aload_n dX10_fine_72 rfl ?_
          refine xe_getP dX10_fine_73 flX10_110 (st124 hs) (by decide) rfl (sp124_48 hs) ?_
          refine xe_sipush dX10_fine_76 ks_136 ?_
          refine xe_bipush dX10_fine_79 kb_8 ?_
          refine xe_iload_n dX10_fine_81 rfl ?_
          refine xn_imul dX10_fine_82 ?_
          refine xn_iadd dX10_fine_83 ?_
          refine xe_iload_n dX10_fine_84 rfl ?_
          refine xn_iadd dX10_fine_85 ?_
          refine xe_dup2 dX10_fine_86 rfl rfl ?_
          refine xn_iald dX10_fine_87 (st155 hs) (by omega) (by decide) ?_
          refine xe_iconst dX10_fine_88 kc_1 ?_
          refine xe_iadd dX10_fine_89 ?_
          refine xn_iast dX10_fine_90 (st155 hs) (by omega) (by decide) ?_
          refine xe_sipush dX10_fine_91 ks_210 ?_
          refine xe_iconst dX10_fine_94 kc_5 ?_
          refine xe_aload_n dX10_fine_95 rfl ?_
          refine xe_getP dX10_fine_96 flX10_110 (st124 hs) (by decide) rfl (sp124_48 hs) ?_
          refine xe_sipush dX10_fine_99 ks_201 ?_
          refine xn_ialdv dX10_fine_102 (st155 hs) (by omega) (by decide) (v := nI E) (by show upd _ _ _ 201 = nI E; rw [pk_un (by omega)]; exact (q_mvs_ne (by omega) (by decide) (by omega) (by decide) 8 (by decide)).trans hE) ?_
          refine xn_imul dX10_fine_103 ?_
          refine xn_iadd dX10_fine_104 ?_
          refine xe_istore dX10_fine_105 (by decide) rfl ?_
          refine xe_aload_n dX10_fine_107 rfl ?_
          refine xe_getP dX10_fine_108 flX10_110 (st124 hs) (by decide) rfl (sp124_48 hs) ?_
          refine xe_iload dX10_fine_111 rfl ?_
          refine xe_iload_n dX10_fine_113 rfl ?_
          refine xn_iast dX10_fine_114 (st155 hs) (by omega) (by decide) ?_
          refine xe_aload_n dX10_fine_115 rfl ?_
          refine xe_getP dX10_fine_116 flX10_110 (st124 hs) (by decide) rfl (sp124_48 hs) ?_
          refine xe_iload dX10_fine_119 rfl ?_
          refine xe_iconst dX10_fine_121 kc_1 ?_
          refine xn_iadd dX10_fine_122 ?_
          refine xe_iload_n dX10_fine_123 rfl ?_
          refine xn_iast dX10_fine_124 (st155 hs) (by omega) (by decide) ?_
          refine xe_aload_n dX10_fine_125 rfl ?_
          refine xe_getP dX10_fine_126 flX10_110 (st124 hs) (by decide) rfl (sp124_48 hs) ?_
          refine xe_iload dX10_fine_129 rfl ?_
          refine xe_iconst dX10_fine_131 kc_2 ?_
          refine xn_iadd dX10_fine_132 ?_
          refine xe_aload_n dX10_fine_133 rfl ?_
          refine xe_getP dX10_fine_134 flX10_110 (st124 hs) (by decide) rfl (sp124_48 hs) ?_
          refine xe_sipush dX10_fine_137 ks_200 ?_
          refine xn_ialdv dX10_fine_140 (st155 hs) (by omega) (by decide) (v := nI w) (by show upd _ _ _ 200 = nI w; rw [pk_un (by omega)]; show upd _ _ _ 200 = nI w; rw [pk_un (by omega)]; show upd _ _ _ 200 = nI w; rw [pk_un (by omega)]; exact (q_mvs_ne (by omega) (by decide) (by omega) (by decide) 8 (by decide)).trans hw) ?_
          refine xn_iast dX10_fine_141 (st155 hs) (by omega) (by decide) ?_
          refine xe_aload_n dX10_fine_142 rfl ?_
          refine xe_getP dX10_fine_143 flX10_110 (st124 hs) (by decide) rfl (sp124_48 hs) ?_
          refine xe_iload dX10_fine_146 rfl ?_
          refine xe_iconst dX10_fine_148 kc_3 ?_
          refine xn_iadd dX10_fine_149 ?_
          refine xe_iload dX10_fine_150 rfl ?_
          refine xn_iast dX10_fine_152 (st155 hs) (by omega) (by decide) ?_
          refine xe_aload_n dX10_fine_153 rfl ?_
          refine xe_getP dX10_fine_154 flX10_110 (st124 hs) (by decide) rfl (sp124_48 hs) ?_
          refine xe_iload dX10_fine_157 rfl ?_
          refine xe_iconst dX10_fine_159 kc_4 ?_
          refine xn_iadd dX10_fine_160 ?_
          refine xe_iconst dX10_fine_161 kc_0 ?_
          refine xn_iast dX10_fine_162 (st155 hs) (by omega) (by decide) ?_
          refine xe_aload_n dX10_fine_163 rfl ?_
          refine xe_getP dX10_fine_164 flX10_110 (st124 hs) (by decide) rfl (sp124_48 hs) ?_
          refine xe_sipush dX10_fine_167 ks_201 ?_
          refine xe_dup2 dX10_fine_170 rfl rfl ?_
          refine xn_ialdv dX10_fine_171 (st155 hs) (by omega) (by decide) (v := nI E) (by show upd _ _ _ 201 = nI E; rw [pk_un (by omega)]; show upd _ _ _ 201 = nI E; rw [pk_un (by omega)]; show upd _ _ _ 201 = nI E; rw [pk_un (by omega)]; show upd _ _ _ 201 = nI E; rw [pk_un (by omega)]; show upd _ _ _ 201 = nI E; rw [pk_un (by omega)]; show upd _ _ _ 201 = nI E; rw [pk_un (by omega)]; exact (q_mvs_ne (by omega) (by decide) (by omega) (by decide) 8 (by decide)).trans hE) ?_
          refine xe_iconst dX10_fine_172 kc_1 ?_
          refine xn_iadd dX10_fine_173 ?_
          refine xn_iast dX10_fine_174 (st155 hs) (by omega) (by decide) ?_
          refine xe_heap (h2 := q_wI (q_s3 (q_wI h 155 (q_cpy (q_I h 154) (q_I h 155) 1720)) V1 p1 b1) 155 (q_fnR (q_cpy (q_I h 154) (q_I h 155) 1720) (q_fin (q_cpy (q_I h 154) (q_I h 155) 1720) (q_I h 140) LW lv nc w m d) m d E w)) (by simp only [q_wwI]; rfl) ?_
          refine xe_aload_n dX10_fine_175 rfl ?_
          refine xe_callVV (d' := 0) (y' := mX10_keeps) dX10_fine_176 mlX10_373 mvX10_keeps rfl (st124 hs) (by decide) rfl (by decide) (by decide) (Nat.le_of_ble_eq_true rfl) (c_X10_keeps l g _ (by exact hs) _ (by exact hu) (by omega)) rfl ?_
          refine xe_iload dX10_fine_179 rfl ?_
          refine xe_ireturn dX10_fine_181 rfl (by first | rfl | decide +kernel) ?_
          rw [e5]
          exact ⟨rfl, _, q_mag_w (q_mag_row _ _ _ _ _) _ rfl (by decide), rfl, rfl⟩
        · have e5 : q_fn (q_cpy (q_I h 154) (q_I h 155) 1720) (q_I h 140) LW lv nc w m d = q_s8 (q_cpy (q_I h 154) (q_I h 155) 1720) (8 * m) := if_neg c4
          refine xe_iload_n dX10_fine_59 rfl ?_
          refine xe_istore dX10_fine_60 (by decide) rfl ?_
          refine xe_aload_n dX10_fine_62 rfl ?_
          refine xe_iload_n dX10_fine_63 rfl ?_
          refine xe_bipush dX10_fine_64 kb_8 ?_
          refine xe_iload dX10_fine_66 rfl ?_
          refine xe_iload_n dX10_fine_68 rfl ?_
          refine xe_callVV (d' := 0) (y' := mX10_moves) dX10_fine_69 mlX10_369 mvX10_moves rfl (st124 hs) (by decide) rfl (by decide) (by decide) (Nat.le_of_ble_eq_true rfl) (c_X10_moves l g _ (by exact hs) _ _ _ _ (by omega) (by omega) (by omega)) rfl ?_
          refine xe_aload_n dX10_fine_72 rfl ?_
          refine xe_getP dX10_fine_73 flX10_110 (st124 hs) (by decide) rfl (sp124_48 hs) ?_
          refine xe_sipush dX10_fine_76 ks_136 ?_
          refine xe_bipush dX10_fine_79 kb_8 ?_
          refine xe_iload_n dX10_fine_81 rfl ?_
          refine xn_imul dX10_fine_82 ?_
          refine xn_iadd dX10_fine_83 ?_
          refine xe_iload_n dX10_fine_84 rfl ?_
          refine xn_iadd dX10_fine_85 ?_
          refine xe_dup2 dX10_fine_86 rfl rfl ?_
          refine xn_iald dX10_fine_87 (st155 hs) (by omega) (by decide) ?_
          refine xe_iconst dX10_fine_88 kc_1 ?_
          refine xe_iadd dX10_fine_89 ?_
          refine xn_iast dX10_fine_90 (st155 hs) (by omega) (by decide) ?_
          refine xe_sipush dX10_fine_91 ks_210 ?_
          refine xe_iconst dX10_fine_94 kc_5 ?_
          refine xe_aload_n dX10_fine_95 rfl ?_
          refine xe_getP dX10_fine_96 flX10_110 (st124 hs) (by decide) rfl (sp124_48 hs) ?_
          refine xe_sipush dX10_fine_99 ks_201 ?_
          refine xn_ialdv dX10_fine_102 (st155 hs) (by omega) (by decide) (v := nI E) (by show upd _ _ _ 201 = nI E; rw [pk_un (by omega)]; exact (q_mvs_ne (by omega) (by decide) (by omega) (by decide) 8 (by decide)).trans hE) ?_
          refine xn_imul dX10_fine_103 ?_
          refine xn_iadd dX10_fine_104 ?_
          refine xe_istore dX10_fine_105 (by decide) rfl ?_
          refine xe_aload_n dX10_fine_107 rfl ?_
          refine xe_getP dX10_fine_108 flX10_110 (st124 hs) (by decide) rfl (sp124_48 hs) ?_
          refine xe_iload dX10_fine_111 rfl ?_
          refine xe_iload_n dX10_fine_113 rfl ?_
          refine xn_iast dX10_fine_114 (st155 hs) (by omega) (by decide) ?_
          refine xe_aload_n dX10_fine_115 rfl ?_
          refine xe_getP dX10_fine_116 flX10_110 (st124 hs) (by decide) rfl (sp124_48 hs) ?_
          refine xe_iload dX10_fine_119 rfl ?_
          refine xe_iconst dX10_fine_121 kc_1 ?_
          refine xn_iadd dX10_fine_122 ?_
          refine xe_iload_n dX10_fine_123 rfl ?_
          refine xn_iast dX10_fine_124 (st155 hs) (by omega) (by decide) ?_
          refine xe_aload_n dX10_fine_125 rfl ?_
          refine xe_getP dX10_fine_126 flX10_110 (st124 hs) (by decide) rfl (sp124_48 hs) ?_
          refine xe_iload dX10_fine_129 rfl ?_
          refine xe_iconst dX10_fine_131 kc_2 ?_
          refine xn_iadd dX10_fine_132 ?_
          refine xe_aload_n dX10_fine_133 rfl ?_
          refine xe_getP dX10_fine_134 flX10_110 (st124 hs) (by decide) rfl (sp124_48 hs) ?_
          refine xe_sipush dX10_fine_137 ks_200 ?_
          refine xn_ialdv dX10_fine_140 (st155 hs) (by omega) (by decide) (v := nI w) (by show upd _ _ _ 200 = nI w; rw [pk_un (by omega)]; show upd _ _ _ 200 = nI w; rw [pk_un (by omega)]; show upd _ _ _ 200 = nI w; rw [pk_un (by omega)]; exact (q_mvs_ne (by omega) (by decide) (by omega) (by decide) 8 (by decide)).trans hw) ?_
          refine xn_iast dX10_fine_141 (st155 hs) (by omega) (by decide) ?_
          refine xe_aload_n dX10_fine_142 rfl ?_
          refine xe_getP dX10_fine_143 flX10_110 (st124 hs) (by decide) rfl (sp124_48 hs) ?_
          refine xe_iload dX10_fine_146 rfl ?_
          refine xe_iconst dX10_fine_148 kc_3 ?_
          refine xn_iadd dX10_fine_149 ?_
          refine xe_iload dX10_fine_150 rfl ?_
          refine xn_iast dX10_fine_152 (st155 hs) (by omega) (by decide) ?_
          refine xe_aload_n dX10_fine_153 rfl ?_
          refine xe_getP dX10_fine_154 flX10_110 (st124 hs) (by decide) rfl (sp124_48 hs) ?_
          refine xe_iload dX10_fine_157 rfl ?_
          refine xe_iconst dX10_fine_159 kc_4 ?_
          refine xn_iadd dX10_fine_160 ?_
          refine xe_iconst dX10_fine_161 kc_0 ?_
          refine xn_iast dX10_fine_162 (st155 hs) (by omega) (by decide) ?_
          refine xe_aload_n dX10_fine_163 rfl ?_
          refine xe_getP dX10_fine_164 flX10_110 (st124 hs) (by decide) rfl (sp124_48 hs) ?_
          refine xe_sipush dX10_fine_167 ks_201 ?_
          refine xe_dup2 dX10_fine_170 rfl rfl ?_
          refine xn_ialdv dX10_fine_171 (st155 hs) (by omega) (by decide) (v := nI E) (by show upd _ _ _ 201 = nI E; rw [pk_un (by omega)]; show upd _ _ _ 201 = nI E; rw [pk_un (by omega)]; show upd _ _ _ 201 = nI E; rw [pk_un (by omega)]; show upd _ _ _ 201 = nI E; rw [pk_un (by omega)]; show upd _ _ _ 201 = nI E; rw [pk_un (by omega)]; show upd _ _ _ 201 = nI E; rw [pk_un (by omega)]; exact (q_mvs_ne (by omega) (by decide) (by omega) (by decide) 8 (by decide)).trans hE) ?_
          refine xe_iconst dX10_fine_172 kc_1 ?_
          refine xn_iadd dX10_fine_173 ?_
          refine xn_iast dX10_fine_174 (st155 hs) (by omega) (by decide) ?_
          refine xe_heap (h2 := q_wI (q_s3 (q_wI h 155 (q_cpy (q_I h 154) (q_I h 155) 1720)) V1 p1 b1) 155 (q_fnR (q_cpy (q_I h 154) (q_I h 155) 1720) (q_s8 (q_cpy (q_I h 154) (q_I h 155) 1720) (8 * m)) m d E w)) (by simp only [q_wwI]; rfl) ?_
          refine xe_aload_n dX10_fine_175 rfl ?_
          refine xe_callVV (d' := 0) (y' := mX10_keeps) dX10_fine_176 mlX10_373 mvX10_keeps rfl (st124 hs) (by decide) rfl (by decide) (by decide) (Nat.le_of_ble_eq_true rfl) (c_X10_keeps l g _ (by exact hs) _ (by exact hu) (by omega)) rfl ?_
          refine xe_iload dX10_fine_179 rfl ?_
          refine xe_ireturn dX10_fine_181 rfl (by first | rfl | decide +kernel) ?_
          rw [e5]
          exact ⟨rfl, _, q_mag_w (q_mag_row _ _ _ _ _) _ rfl (by decide), rfl, rfl⟩
      · omega
    · omega
theorem c_X10_fine_n (l : Launch) (g : q_GP) (h : q_H) (hs : q_Stat h) {lv nm nd nc mo : Nat} (hp : rm_P h lv nm nd nc mo) {m d : Nat} (hm : m < nm) (hd : d < nd) (hE : q_I h 154 201 = nI 300) : q_Cd l g 3 mX10_fine [.ref 124, .int (nI m), .int (nI d)] h (some (.int (-2))) h := by
  obtain ⟨p1, p2, p3, p4, p5, p6, p7, p8, p9, p10⟩ := id hp
  have h1 := q_ltn_t (by omega : nm < 2 ^ 31) hm
  have h2 := q_ltn_t (by omega : nd < 2 ^ 31) hd
  refine q_CdV mvX10_fine (Nat.le_of_ble_eq_true rfl) ?_
  refine xe_aload_n dX10_fine_0 rfl ?_
  refine xe_iload_n dX10_fine_1 rfl ?_
  refine xe_callVI (d' := 1) (y' := mX10_isMan) dX10_fine_2 mlX10_340 mvX10_isMan rfl (st124 hs) (by decide) rfl (by decide) (by decide) (Nat.le_of_ble_eq_true rfl) (c_X10_isManv l g _ (by exact hs) (by exact hp) _ (by assumption)) rfl ?_
  refine xn_if_eq (tgt := 16) dX10_fine_5 rfl (by omega) (fun c1 => ?_) (fun c1 => ?_)
  · omega
  · refine xe_aload_n dX10_fine_8 rfl ?_
    refine xe_iload_n dX10_fine_9 rfl ?_
    refine xe_callVI (d' := 1) (y' := mX10_isDeed) dX10_fine_10 mlX10_359 mvX10_isDeed rfl (st124 hs) (by decide) rfl (by decide) (by decide) (Nat.le_of_ble_eq_true rfl) (c_X10_isDeedv l g _ (by exact hs) (by exact hp) _ (by assumption)) rfl ?_
    refine xn_if_ne (tgt := 18) dX10_fine_13 rfl (by omega) (fun c2 => ?_) (fun c2 => ?_)
    · refine xe_aload_n dX10_fine_18 rfl ?_
      refine xe_getP dX10_fine_19 flX10_107 (st124 hs) (by decide) rfl (sp124_47 hs) ?_
      refine xe_sipush dX10_fine_22 ks_201 ?_
      refine xn_ialdv dX10_fine_25 (st154 hs) (by omega) (by decide) (v := nI 300) (hE) ?_
      refine xe_sipush dX10_fine_26 ks_300 ?_
      refine xn_icmp_ne (tgt := 35) dX10_fine_29 rfl (by omega) (by omega) (fun c3 => ?_) (fun c3 => ?_)
      · omega
      · refine xe_bipush dX10_fine_32 kb_m2 ?_
        refine xe_ireturn dX10_fine_34 rfl (by first | rfl | decide +kernel) ?_
        exact ⟨rfl, rfl⟩
    · omega
theorem c_X10_fine_f (l : Launch) (g : q_GP) (h : q_H) (hs : q_Stat h) {lv nm nd nc mo : Nat} (hp : rm_P h lv nm nd nc mo) (x z : Int32) (hxz : ¬ (q_isN x nm ∧ q_isN z nd)) : q_Cd l g 3 mX10_fine [.ref 124, .int x, .int z] h (some (.int (-1))) h := by
  obtain ⟨p1, p2, p3, p4, p5, p6, p7, p8, p9, p10⟩ := id hp
  by_cases h1 : q_isN x nm
  · have e1 : q_ltn x nm = nI 1 := by
      obtain ⟨k, hk, rfl⟩ := q_isN_of (by omega) h1
      exact q_ltn_t (by omega) hk
    have e2 := q_ltn_f (by omega : nd < 2 ^ 31) (fun q => hxz ⟨h1, q⟩)
    refine q_CdV mvX10_fine (Nat.le_of_ble_eq_true rfl) ?_
    refine xe_aload_n dX10_fine_0 rfl ?_
    refine xe_iload_n dX10_fine_1 rfl ?_
    refine xe_callVI (d' := 1) (y' := mX10_isMan) dX10_fine_2 mlX10_340 mvX10_isMan rfl (st124 hs) (by decide) rfl (by decide) (by decide) (Nat.le_of_ble_eq_true rfl) (c_X10_isManv l g _ (by exact hs) (by exact hp) _ (by assumption)) rfl ?_
    refine xn_if_eq (tgt := 16) dX10_fine_5 rfl (by omega) (fun c1 => ?_) (fun c1 => ?_)
    · omega
    · refine xe_aload_n dX10_fine_8 rfl ?_
      refine xe_iload_n dX10_fine_9 rfl ?_
      refine xe_callVI (d' := 1) (y' := mX10_isDeed) dX10_fine_10 mlX10_359 mvX10_isDeed rfl (st124 hs) (by decide) rfl (by decide) (by decide) (Nat.le_of_ble_eq_true rfl) (c_X10_isDeedv l g _ (by exact hs) (by exact hp) _ (by assumption)) rfl ?_
      refine xn_if_ne (tgt := 18) dX10_fine_13 rfl (by omega) (fun c2 => ?_) (fun c2 => ?_)
      · omega
      · refine xe_iconst dX10_fine_16 kc_m1 ?_
        refine xe_ireturn dX10_fine_17 rfl (by first | rfl | decide +kernel) ?_
        exact ⟨rfl, rfl⟩
  · have e1 := q_ltn_f (by omega : nm < 2 ^ 31) h1
    refine q_CdV mvX10_fine (Nat.le_of_ble_eq_true rfl) ?_
    refine xe_aload_n dX10_fine_0 rfl ?_
    refine xe_iload_n dX10_fine_1 rfl ?_
    refine xe_callVI (d' := 1) (y' := mX10_isMan) dX10_fine_2 mlX10_340 mvX10_isMan rfl (st124 hs) (by decide) rfl (by decide) (by decide) (Nat.le_of_ble_eq_true rfl) (c_X10_isManv l g _ (by exact hs) (by exact hp) _ (by assumption)) rfl ?_
    refine xn_if_eq (tgt := 16) dX10_fine_5 rfl (by omega) (fun c1 => ?_) (fun c1 => ?_)
    · refine xe_iconst dX10_fine_16 kc_m1 ?_
      refine xe_ireturn dX10_fine_17 rfl (by first | rfl | decide +kernel) ?_
      exact ⟨rfl, rfl⟩
    · omega
/-- so many may go over -/
def q_can (R : Nat → Int32) (a b : Nat) (n : Int32) : Prop := nI 1 ≤ n ∧ n ≤ q_s8 R (8 * a) ∧ n ≤ nI 9999 - q_s8 R (8 * b)
theorem c_X10_goesOver_t (l : Launch) (g : q_GP) (h : q_H) (hs : q_Stat h) {lv nm nd nc mo : Nat} (hp : rm_P h lv nm nd nc mo) {a b : Nat} (ha : a < nm) (hb : b < nm) (hab : ¬ a = b) (n : Int32) (hc : q_can (q_cpy (q_I h 154) (q_I h 155) 1720) a b n) : q_Cd l g 3 mX10_goesOver [.ref 124, .int (nI a), .int (nI b), .int n] h (some (.int (nI 1))) (q_wI h 155 (q_mvs a b a (q_cpy (q_I h 154) (q_I h 155) 1720) n 8).1) := by
  obtain ⟨p1, p2, p3, p4, p5, p6, p7, p8, p9, p10⟩ := id hp
  refine q_CdV mvX10_goesOver (Nat.le_of_ble_eq_true rfl) ?_
  refine xe_aload_n dX10_goesOver_0 rfl ?_
  refine xe_iload_n dX10_goesOver_1 rfl ?_
  refine xe_iload_n dX10_goesOver_2 rfl ?_
  refine xe_callVI (d' := 2) (y' := mX10_areTwo) dX10_goesOver_3 mlX10_355 mvX10_areTwo rfl (st124 hs) (by decide) rfl (by decide) (by decide) (Nat.le_of_ble_eq_true rfl) (c_X10_areTwo_t l g _ (by exact hs) (by exact hp) (by omega) (by omega) (by omega)) rfl ?_
  refine xn_if_eq (tgt := 14) dX10_goesOver_6 rfl (by omega) (fun c1 => ?_) (fun c1 => ?_)
  · omega
  · refine xe_iload_n dX10_goesOver_9 rfl ?_
    refine xe_iconst dX10_goesOver_10 kc_1 ?_
    refine xe_icmp_ge (tgt := 16) dX10_goesOver_11 rfl (fun c2 => ?_) (fun c2 => ?_)
    · refine xe_aload_n dX10_goesOver_16 rfl ?_
      refine xe_callVV (d' := 0) (y' := mX10_copiesAll) dX10_goesOver_17 mlX10_366 mvX10_copiesAll rfl (st124 hs) (by decide) rfl (by decide) (by decide) (Nat.le_of_ble_eq_true rfl) (c_X10_copiesAll l g _ (by exact hs)) rfl ?_
      refine xe_iload_n dX10_goesOver_20 rfl ?_
      refine xe_aload_n dX10_goesOver_21 rfl ?_
      refine xe_iload_n dX10_goesOver_22 rfl ?_
      refine xe_callVI (d' := 0) (y' := mX10_haveOf) dX10_goesOver_23 mlX10_319 mvX10_haveOf rfl (st124 hs) (by decide) rfl (by decide) (by decide) (Nat.le_of_ble_eq_true rfl) (c_X10_haveOf l g _ (by exact hs) _ (by omega)) rfl ?_
      refine xe_icmp_gt (tgt := 42) dX10_goesOver_26 rfl (fun c3 => ?_) (fun c3 => ?_)
      · exact absurd hc.2.1 (Int32.not_le.mpr c3)
      · refine xe_iload_n dX10_goesOver_29 rfl ?_
        refine xe_sipush dX10_goesOver_30 ks_9999 ?_
        refine xe_aload_n dX10_goesOver_33 rfl ?_
        refine xe_iload_n dX10_goesOver_34 rfl ?_
        refine xe_callVI (d' := 0) (y' := mX10_haveOf) dX10_goesOver_35 mlX10_319 mvX10_haveOf rfl (st124 hs) (by decide) rfl (by decide) (by decide) (Nat.le_of_ble_eq_true rfl) (c_X10_haveOf l g _ (by exact hs) _ (by omega)) rfl ?_
        refine xe_isub dX10_goesOver_38 ?_
        refine xe_icmp_le (tgt := 44) dX10_goesOver_39 rfl (fun c4 => ?_) (fun c4 => ?_)
        · refine xe_aload_n dX10_goesOver_44 rfl ?_
          refine xe_iload_n dX10_goesOver_45 rfl ?_
          refine xe_iload_n dX10_goesOver_46 rfl ?_
          refine xe_iload_n dX10_goesOver_47 rfl ?_
          refine xe_iload_n dX10_goesOver_48 rfl ?_
          refine xe_callVV (d' := 0) (y' := mX10_moves) dX10_goesOver_49 mlX10_369 mvX10_moves rfl (st124 hs) (by decide) rfl (by decide) (by decide) (Nat.le_of_ble_eq_true rfl) (c_X10_moves l g _ (by exact hs) _ _ _ _ (by omega) (by omega) (by omega)) rfl ?_
          refine xe_iconst dX10_goesOver_52 kc_1 ?_
          refine xe_ireturn dX10_goesOver_53 rfl (by first | rfl | decide +kernel) ?_
          exact ⟨rfl, by simp only [q_wwI]; rfl⟩
        · exact absurd hc.2.2 c4
    · exact absurd hc.1 c2
theorem c_X10_goesOver_n (l : Launch) (g : q_GP) (h : q_H) (hs : q_Stat h) {lv nm nd nc mo : Nat} (hp : rm_P h lv nm nd nc mo) {a b : Nat} (ha : a < nm) (hb : b < nm) (hab : ¬ a = b) (n : Int32) (hc : ¬ q_can (q_cpy (q_I h 154) (q_I h 155) 1720) a b n) : q_Ct l g 3 mX10_goesOver [.ref 124, .int (nI a), .int (nI b), .int n] h (fun r h1 => r = some (.int (nI 0)) ∧ ∃ R, h1 = q_wI h 155 R) := by
  obtain ⟨p1, p2, p3, p4, p5, p6, p7, p8, p9, p10⟩ := id hp
  refine q_CtV mvX10_goesOver (Nat.le_of_ble_eq_true rfl) ?_
  refine xe_aload_n dX10_goesOver_0 rfl ?_
  refine xe_iload_n dX10_goesOver_1 rfl ?_
  refine xe_iload_n dX10_goesOver_2 rfl ?_
  refine xe_callVI (d' := 2) (y' := mX10_areTwo) dX10_goesOver_3 mlX10_355 mvX10_areTwo rfl (st124 hs) (by decide) rfl (by decide) (by decide) (Nat.le_of_ble_eq_true rfl) (c_X10_areTwo_t l g _ (by exact hs) (by exact hp) (by omega) (by omega) (by omega)) rfl ?_
  refine xn_if_eq (tgt := 14) dX10_goesOver_6 rfl (by omega) (fun c1 => ?_) (fun c1 => ?_)
  · omega
  · refine xe_iload_n dX10_goesOver_9 rfl ?_
    refine xe_iconst dX10_goesOver_10 kc_1 ?_
    refine xe_icmp_ge (tgt := 16) dX10_goesOver_11 rfl (fun c2 => ?_) (fun c2 => ?_)
    · have c_1 := c2
      refine xe_aload_n dX10_goesOver_16 rfl ?_
      refine xe_callVV (d' := 0) (y' := mX10_copiesAll) dX10_goesOver_17 mlX10_366 mvX10_copiesAll rfl (st124 hs) (by decide) rfl (by decide) (by decide) (Nat.le_of_ble_eq_true rfl) (c_X10_copiesAll l g _ (by exact hs)) rfl ?_
      refine xe_iload_n dX10_goesOver_20 rfl ?_
      refine xe_aload_n dX10_goesOver_21 rfl ?_
      refine xe_iload_n dX10_goesOver_22 rfl ?_
      refine xe_callVI (d' := 0) (y' := mX10_haveOf) dX10_goesOver_23 mlX10_319 mvX10_haveOf rfl (st124 hs) (by decide) rfl (by decide) (by decide) (Nat.le_of_ble_eq_true rfl) (c_X10_haveOf l g _ (by exact hs) _ (by omega)) rfl ?_
      refine xe_icmp_gt (tgt := 42) dX10_goesOver_26 rfl (fun c3 => ?_) (fun c3 => ?_)
      · refine xe_iconst dX10_goesOver_42 kc_0 ?_
        refine xe_ireturn dX10_goesOver_43 rfl (by first | rfl | decide +kernel) ?_
        exact ⟨rfl, _, rfl⟩
      · have c_2 := Int32.not_lt.mp c3
        refine xe_iload_n dX10_goesOver_29 rfl ?_
        refine xe_sipush dX10_goesOver_30 ks_9999 ?_
        refine xe_aload_n dX10_goesOver_33 rfl ?_
        refine xe_iload_n dX10_goesOver_34 rfl ?_
        refine xe_callVI (d' := 0) (y' := mX10_haveOf) dX10_goesOver_35 mlX10_319 mvX10_haveOf rfl (st124 hs) (by decide) rfl (by decide) (by decide) (Nat.le_of_ble_eq_true rfl) (c_X10_haveOf l g _ (by exact hs) _ (by omega)) rfl ?_
        refine xe_isub dX10_goesOver_38 ?_
        refine xe_icmp_le (tgt := 44) dX10_goesOver_39 rfl (fun c4 => ?_) (fun c4 => ?_)
        · exact absurd ⟨c_1, c_2, c4⟩ hc
        · refine xe_iconst dX10_goesOver_42 kc_0 ?_
          refine xe_ireturn dX10_goesOver_43 rfl (by first | rfl | decide +kernel) ?_
          exact ⟨rfl, _, rfl⟩
    · refine xe_iconst dX10_goesOver_14 kc_0 ?_
      refine xe_ireturn dX10_goesOver_15 rfl (by first | rfl | decide +kernel) ?_
      exact ⟨rfl, _, (q_wsI h 155).symm⟩
theorem c_X10_goesOver_f (l : Launch) (g : q_GP) (h : q_H) (hs : q_Stat h) {lv nm nd nc mo : Nat} (hp : rm_P h lv nm nd nc mo) (x z n : Int32) (hxz : ¬ q_two x z nm) : q_Cd l g 3 mX10_goesOver [.ref 124, .int x, .int z, .int n] h (some (.int (nI 0))) h := by
  obtain ⟨p1, p2, p3, p4, p5, p6, p7, p8, p9, p10⟩ := id hp
  refine q_CdV mvX10_goesOver (Nat.le_of_ble_eq_true rfl) ?_
  refine xe_aload_n dX10_goesOver_0 rfl ?_
  refine xe_iload_n dX10_goesOver_1 rfl ?_
  refine xe_iload_n dX10_goesOver_2 rfl ?_
  refine xe_callVI (d' := 2) (y' := mX10_areTwo) dX10_goesOver_3 mlX10_355 mvX10_areTwo rfl (st124 hs) (by decide) rfl (by decide) (by decide) (Nat.le_of_ble_eq_true rfl) (c_X10_areTwo_f l g _ (by exact hs) (by exact hp) _ _ hxz) rfl ?_
  refine xn_if_eq (tgt := 14) dX10_goesOver_6 rfl (by omega) (fun c1 => ?_) (fun c1 => ?_)
  · refine xe_iconst dX10_goesOver_14 kc_0 ?_
    refine xe_ireturn dX10_goesOver_15 rfl (by first | rfl | decide +kernel) ?_
    exact ⟨rfl, rfl⟩
  · omega
def q_lnR (R : Nat → Int32) (a b : Nat) (n : Int32) : Nat → Int32 := upd (q_mvs a b a R n 8).1 (72 + 8 * b + a) ((q_mvs a b a R n 8).1 (72 + 8 * b + a) + n)
def q_rpR (R : Nat → Int32) (a b : Nat) (n : Int32) : Nat → Int32 := upd (q_mvs a b a R n 8).1 (72 + 8 * a + b) ((q_mvs a b a R n 8).1 (72 + 8 * a + b) - n)
theorem c_X10_stuff_t (l : Launch) (g : q_GP) (h : q_H) (hs : q_Stat h) {lv nm nd nc mo : Nat} (hp : rm_P h lv nm nd nc mo) {u : Nat} (hu : q_I h 124 51 = nI u) (hu2 : u ≤ 25) {a b : Nat} (ha : a < nm) (hb : b < nm) (hab : ¬ a = b) (n : Int32) (hc : q_can (q_cpy (q_I h 154) (q_I h 155) 1720) a b n) : q_Ct l g 4 mX10_stuff [.ref 124, .int (nI a), .int (nI b), .int n] h (fun r h1 => r = some (.int (nI 1)) ∧ q_kept h u ((q_mvs a b a (q_cpy (q_I h 154) (q_I h 155) 1720) n 8).1) h1) := by
  obtain ⟨p1, p2, p3, p4, p5, p6, p7, p8, p9, p10⟩ := id hp
  refine q_CtV mvX10_stuff (Nat.le_of_ble_eq_true rfl) ?_
  refine xe_aload_n dX10_stuff_0 rfl ?_
  refine xe_iload_n dX10_stuff_1 rfl ?_
  refine xe_iload_n dX10_stuff_2 rfl ?_
  refine xe_iload_n dX10_stuff_3 rfl ?_
  refine xe_callVI (d' := 3) (y' := mX10_goesOver) dX10_stuff_4 mlX10_376 mvX10_goesOver rfl (st124 hs) (by decide) rfl (by decide) (by decide) (Nat.le_of_ble_eq_true rfl) (c_X10_goesOver_t l g _ (by exact hs) (by exact hp) ha hb hab n (by exact hc)) rfl ?_
  refine xn_if_ne (tgt := 12) dX10_stuff_7 rfl (by omega) (fun c1 => ?_) (fun c1 => ?_)
  · refine xe_heap (h2 := q_wI h 155 ((q_mvs a b a (q_cpy (q_I h 154) (q_I h 155) 1720) n 8).1)) (by first | rfl | (simp only [q_wwI]; rfl)) ?_
    refine xe_aload_n dX10_stuff_12 rfl ?_
    refine xe_callVV (d' := 0) (y' := mX10_keeps) dX10_stuff_13 mlX10_373 mvX10_keeps rfl (st124 hs) (by decide) rfl (by decide) (by decide) (Nat.le_of_ble_eq_true rfl) (c_X10_keeps l g _ (by exact hs) _ (by exact hu) (by omega)) rfl ?_
    refine xe_iconst dX10_stuff_16 kc_1 ?_
    refine xe_ireturn dX10_stuff_17 rfl (by first | rfl | decide +kernel) ?_
    exact ⟨rfl, _, q_mag_w (q_mag_r h) _ rfl (by decide), rfl, rfl⟩
  · omega
theorem c_X10_stuff_n (l : Launch) (g : q_GP) (h : q_H) (hs : q_Stat h) {lv nm nd nc mo : Nat} (hp : rm_P h lv nm nd nc mo) {a b : Nat} (ha : a < nm) (hb : b < nm) (hab : ¬ a = b) (n : Int32) (hc : ¬ q_can (q_cpy (q_I h 154) (q_I h 155) 1720) a b n) : q_Ct l g 4 mX10_stuff [.ref 124, .int (nI a), .int (nI b), .int n] h (fun r h1 => r = some (.int (nI 0)) ∧ q_mag h h1) := by
  obtain ⟨p1, p2, p3, p4, p5, p6, p7, p8, p9, p10⟩ := id hp
  refine q_CtV mvX10_stuff (Nat.le_of_ble_eq_true rfl) ?_
  refine xe_aload_n dX10_stuff_0 rfl ?_
  refine xe_iload_n dX10_stuff_1 rfl ?_
  refine xe_iload_n dX10_stuff_2 rfl ?_
  refine xe_iload_n dX10_stuff_3 rfl ?_
  refine xe_callVIq (d' := 3) (y' := mX10_goesOver) dX10_stuff_4 mlX10_376 mvX10_goesOver rfl (st124 hs) (by decide) rfl (by decide) (by decide) (Nat.le_of_ble_eq_true rfl) (c_X10_goesOver_n l g _ (by exact hs) (by exact hp) ha hb hab n (by exact hc)) rfl (fun h1 hq => ?_)
  obtain ⟨R1, rfl⟩ := hq
  refine xn_if_ne (tgt := 12) dX10_stuff_7 rfl (by omega) (fun c1 => ?_) (fun c1 => ?_)
  · omega
  · refine xe_iconst dX10_stuff_10 kc_0 ?_
    refine xe_ireturn dX10_stuff_11 rfl (by first | rfl | decide +kernel) ?_
    exact ⟨rfl, q_mag_w (q_mag_r h) _ rfl (by decide)⟩
theorem c_X10_stuff_f (l : Launch) (g : q_GP) (h : q_H) (hs : q_Stat h) {lv nm nd nc mo : Nat} (hp : rm_P h lv nm nd nc mo) (x z n : Int32) (hxz : ¬ q_two x z nm) : q_Cd l g 4 mX10_stuff [.ref 124, .int x, .int z, .int n] h (some (.int (nI 0))) h := by
  obtain ⟨p1, p2, p3, p4, p5, p6, p7, p8, p9, p10⟩ := id hp
  refine q_CdV mvX10_stuff (Nat.le_of_ble_eq_true rfl) ?_
  refine xe_aload_n dX10_stuff_0 rfl ?_
  refine xe_iload_n dX10_stuff_1 rfl ?_
  refine xe_iload_n dX10_stuff_2 rfl ?_
  refine xe_iload_n dX10_stuff_3 rfl ?_
  refine xe_callVI (d' := 3) (y' := mX10_goesOver) dX10_stuff_4 mlX10_376 mvX10_goesOver rfl (st124 hs) (by decide) rfl (by decide) (by decide) (Nat.le_of_ble_eq_true rfl) (c_X10_goesOver_f l g _ (by exact hs) (by exact hp) x z n hxz) rfl ?_
  refine xn_if_ne (tgt := 12) dX10_stuff_7 rfl (by omega) (fun c1 => ?_) (fun c1 => ?_)
  · omega
  · refine xe_iconst dX10_stuff_10 kc_0 ?_
    refine xe_ireturn dX10_stuff_11 rfl (by first | rfl | decide +kernel) ?_
    exact ⟨rfl, rfl⟩
theorem c_X10_lend_t (l : Launch) (g : q_GP) (h : q_H) (hs : q_Stat h) {lv nm nd nc mo : Nat} (hp : rm_P h lv nm nd nc mo) {u : Nat} (hu : q_I h 124 51 = nI u) (hu2 : u ≤ 25) {a b : Nat} (ha : a < nm) (hb : b < nm) (hab : ¬ a = b) (n : Int32) (hc : q_can (q_cpy (q_I h 154) (q_I h 155) 1720) a b n) : q_Ct l g 4 mX10_lend [.ref 124, .int (nI a), .int (nI b), .int n] h (fun r h1 => r = some (.int (nI 1)) ∧ q_kept h u (q_lnR (q_cpy (q_I h 154) (q_I h 155) 1720) a b n) h1) := by
  obtain ⟨p1, p2, p3, p4, p5, p6, p7, p8, p9, p10⟩ := id hp
  refine q_CtV mvX10_lend (Nat.le_of_ble_eq_true rfl) ?_
  refine xe_aload_n dX10_lend_0 rfl ?_
  refine xe_iload_n dX10_lend_1 rfl ?_
  refine xe_iload_n dX10_lend_2 rfl ?_
  refine xe_iload_n dX10_lend_3 rfl ?_
  refine xe_callVI (d' := 3) (y' := mX10_goesOver) dX10_lend_4 mlX10_376 mvX10_goesOver rfl (st124 hs) (by decide) rfl (by decide) (by decide) (Nat.le_of_ble_eq_true rfl) (c_X10_goesOver_t l g _ (by exact hs) (by exact hp) ha hb hab n (by exact hc)) rfl ?_
  refine xn_if_ne (tgt := 12) dX10_lend_7 rfl (by omega) (fun c1 => ?_) (fun c1 => ?_)
  · refine xe_aload_n dX10_lend_12 rfl ?_
    refine xe_getP dX10_lend_13 flX10_110 (st124 hs) (by decide) rfl (sp124_48 hs) ?_
    refine xe_bipush dX10_lend_16 kb_72 ?_
    refine xe_bipush dX10_lend_18 kb_8 ?_
    refine xe_iload_n dX10_lend_20 rfl ?_
    refine xn_imul dX10_lend_21 ?_
    refine xn_iadd dX10_lend_22 ?_
    refine xe_iload_n dX10_lend_23 rfl ?_
    refine xn_iadd dX10_lend_24 ?_
    refine xe_dup2 dX10_lend_25 rfl rfl ?_
    refine xn_iald dX10_lend_26 (st155 hs) (by omega) (by decide) ?_
    refine xe_iload_n dX10_lend_27 rfl ?_
    refine xe_iadd dX10_lend_28 ?_
    refine xn_iast dX10_lend_29 (st155 hs) (by omega) (by decide) ?_
    refine xe_heap (h2 := q_wI h 155 (q_lnR (q_cpy (q_I h 154) (q_I h 155) 1720) a b n)) (by first | rfl | (simp only [q_wwI]; rfl)) ?_
    refine xe_aload_n dX10_lend_30 rfl ?_
    refine xe_callVV (d' := 0) (y' := mX10_keeps) dX10_lend_31 mlX10_373 mvX10_keeps rfl (st124 hs) (by decide) rfl (by decide) (by decide) (Nat.le_of_ble_eq_true rfl) (c_X10_keeps l g _ (by exact hs) _ (by exact hu) (by omega)) rfl ?_
    refine xe_iconst dX10_lend_34 kc_1 ?_
    refine xe_ireturn dX10_lend_35 rfl (by first | rfl | decide +kernel) ?_
    exact ⟨rfl, _, q_mag_w (q_mag_r h) _ rfl (by decide), rfl, rfl⟩
  · omega
theorem c_X10_lend_n (l : Launch) (g : q_GP) (h : q_H) (hs : q_Stat h) {lv nm nd nc mo : Nat} (hp : rm_P h lv nm nd nc mo) {a b : Nat} (ha : a < nm) (hb : b < nm) (hab : ¬ a = b) (n : Int32) (hc : ¬ q_can (q_cpy (q_I h 154) (q_I h 155) 1720) a b n) : q_Ct l g 4 mX10_lend [.ref 124, .int (nI a), .int (nI b), .int n] h (fun r h1 => r = some (.int (nI 0)) ∧ q_mag h h1) := by
  obtain ⟨p1, p2, p3, p4, p5, p6, p7, p8, p9, p10⟩ := id hp
  refine q_CtV mvX10_lend (Nat.le_of_ble_eq_true rfl) ?_
  refine xe_aload_n dX10_lend_0 rfl ?_
  refine xe_iload_n dX10_lend_1 rfl ?_
  refine xe_iload_n dX10_lend_2 rfl ?_
  refine xe_iload_n dX10_lend_3 rfl ?_
  refine xe_callVIq (d' := 3) (y' := mX10_goesOver) dX10_lend_4 mlX10_376 mvX10_goesOver rfl (st124 hs) (by decide) rfl (by decide) (by decide) (Nat.le_of_ble_eq_true rfl) (c_X10_goesOver_n l g _ (by exact hs) (by exact hp) ha hb hab n (by exact hc)) rfl (fun h1 hq => ?_)
  obtain ⟨R1, rfl⟩ := hq
  refine xn_if_ne (tgt := 12) dX10_lend_7 rfl (by omega) (fun c1 => ?_) (fun c1 => ?_)
  · omega
  · refine xe_iconst dX10_lend_10 kc_0 ?_
    refine xe_ireturn dX10_lend_11 rfl (by first | rfl | decide +kernel) ?_
    exact ⟨rfl, q_mag_w (q_mag_r h) _ rfl (by decide)⟩
theorem c_X10_lend_f (l : Launch) (g : q_GP) (h : q_H) (hs : q_Stat h) {lv nm nd nc mo : Nat} (hp : rm_P h lv nm nd nc mo) (x z n : Int32) (hxz : ¬ q_two x z nm) : q_Cd l g 4 mX10_lend [.ref 124, .int x, .int z, .int n] h (some (.int (nI 0))) h := by
  obtain ⟨p1, p2, p3, p4, p5, p6, p7, p8, p9, p10⟩ := id hp
  refine q_CdV mvX10_lend (Nat.le_of_ble_eq_true rfl) ?_
  refine xe_aload_n dX10_lend_0 rfl ?_
  refine xe_iload_n dX10_lend_1 rfl ?_
  refine xe_iload_n dX10_lend_2 rfl ?_
  refine xe_iload_n dX10_lend_3 rfl ?_
  refine xe_callVI (d' := 3) (y' := mX10_goesOver) dX10_lend_4 mlX10_376 mvX10_goesOver rfl (st124 hs) (by decide) rfl (by decide) (by decide) (Nat.le_of_ble_eq_true rfl) (c_X10_goesOver_f l g _ (by exact hs) (by exact hp) x z n hxz) rfl ?_
  refine xn_if_ne (tgt := 12) dX10_lend_7 rfl (by omega) (fun c1 => ?_) (fun c1 => ?_)
  · omega
  · refine xe_iconst dX10_lend_10 kc_0 ?_
    refine xe_ireturn dX10_lend_11 rfl (by first | rfl | decide +kernel) ?_
    exact ⟨rfl, rfl⟩
