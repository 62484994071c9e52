/-! the law's rounds -/
theorem q_ad_4 {g : q_GP} : q_ad g 1000000004 = q_SA g 4 := q_ad_o (g := g) (i := 4)
def mL (n : String) : q_MI := (⟨RL, n, "([I)Z"⟩, cL_law, 4, ret)
def lw_QQ (r : Option Value) (h1 : q_H) : Prop := r = some (.int (nI 1)) ∧ q_N h1 ≤ 600000 ∧ q_K h1 ≤ 7302250
section QL
variable {l : Launch} {g : q_GP} {d : Nat} {y : q_MI} {pc : Nat} {L : List (Nat × Value)} {S : List Value} {h : q_H} {Q : Option Value → q_H → Prop} {LL : Nat} {xs : Nat → Int32}
theorem xe_sld {j : Nat} (hd : decode y.2.1 pc = .ok (.iaload, 1)) (hX : q_GX g LL xs) (hj : j < LL) (hL : LL < 2 ^ 31) (K : q_Ex l g d y (pc + 1) L (.int (xs j) :: S) h Q) : q_Ex l g d y pc L (.int (nI j) :: .ref 1000000004 :: S) h Q := by
  obtain ⟨rv, h', q, n1, k1, G⟩ := K
  refine ⟨rv, h', q, n1, k1, fun p e R s m args below meth c H locs ls cells slots M hl hW hS hc hkk => ?_⟩
  have M0 := M
  obtain ⟨hx, hb, hret, hml, hown, hts, hlocks, hnm, hfr, hlo, hK, hXs, hG, hB⟩ := M
  obtain ⟨x1, x2, x3, x4, x5, x6, x7, x8, x9, x10, x11⟩ := hX s hXs
  rw [List.map_cons, List.map_cons, show q_cv g (.ref 1000000004) = .ref (q_SA g 4) from congrArg Value.ref q_ad_4]
  exact va_sld hx hb x10 (Nat.lt_of_lt_of_le x11 hB) (Nat.not_le.mpr x11) hS (i := nI j) (vp_in_nI hj hL) hd (by rw [nI_clamp (by omega)]; exact G p e R s m args below meth c H locs ls cells slots M0 hl hW hS hc hkk)
theorem xe_slen (hd : decode y.2.1 pc = .ok (.arraylength, 1)) (hX : q_GX g LL xs) (K : q_Ex l g d y (pc + 1) L (.int (nI LL) :: S) h Q) : q_Ex l g d y pc L (.ref 1000000004 :: S) h Q := by
  obtain ⟨rv, h', q, n1, k1, G⟩ := K
  refine ⟨rv, h', q, n1, k1, fun p e R s m args below meth c H locs ls cells slots M hl hW hS hc hkk => ?_⟩
  have M0 := M
  obtain ⟨hx, hb, hret, hml, hown, hts, hlocks, hnm, hfr, hlo, hK, hXs, hG, hB⟩ := M
  obtain ⟨x1, x2, x3, x4, x5, x6, x7, x8, x9, x10, x11⟩ := hX s hXs
  rw [List.map_cons, show q_cv g (.ref 1000000004) = .ref (q_SA g 4) from congrArg Value.ref q_ad_4]
  exact va_slen hx hb x10 (Nat.lt_of_lt_of_le x11 hB) (Nat.not_le.mpr x11) hS hd (G p e R s m args below meth c H locs ls cells slots M0 hl hW hS hc hkk)
end QL
theorem and31 (x : Int32) : ∃ k, k < 32 ∧ x &&& nI 31 = nI k := by
  refine ⟨(x.toBitVec &&& 31#32).toNat, ?_, ?_⟩
  · rw [BitVec.toNat_and]
    exact Nat.lt_succ_of_le Nat.and_le_right
  · apply Int32.toBitVec_inj.mp
    rw [Int32.toBitVec_and]
    show x.toBitVec &&& 31#32 = BitVec.ofNat 32 (x.toBitVec &&& 31#32).toNat
    rw [BitVec.ofNat_toNat, BitVec.setWidth_eq]
theorem lw_c0 (l : Launch) (g : q_GP) (n : String) {LL : Nat} {xs : Nat → Int32} (hL : LL ≤ 3072) (hX : q_GX g LL xs) {i : Nat} (hi : 6 * i + 6 ≤ LL) {h : q_H} (hR : RR i h) {Q : Option Value → q_H → Prop} (K : ∀ h2, RR (i + 1) h2 → q_Ex l g 60 (mL n) 1065 [(0, .ref 1000000004), (1, .ref 0), (2, .ref 124), (3, .int (nI (6 * i)))] [] h2 Q) : q_Ex l g 60 (mL n) 172 [(0, .ref 1000000004), (1, .ref 0), (2, .ref 124), (3, .int (nI (6 * i)))] [] h Q := by
  obtain ⟨d1, Q1, hd1, C1, F⟩ := st_feed l g (show i ≤ 512 by omega) hR (xs (6 * i + 1)) (xs (6 * i + 2)) (xs (6 * i + 3)) (xs (6 * i + 4)) (xs (6 * i + 5))
  refine xe_aload_n dL_law_172 rfl ?_
  refine xe_aload_n dL_law_173 rfl ?_
  refine xe_iload_n dL_law_174 rfl ?_
  refine xe_iconst dL_law_175 kc_1 ?_
  refine xn_iadd dL_law_176 ?_
  refine xe_sld dL_law_177 hX (by omega) (by omega) ?_
  refine xe_aload_n dL_law_178 rfl ?_
  refine xe_iload_n dL_law_179 rfl ?_
  refine xe_iconst dL_law_180 kc_2 ?_
  refine xn_iadd dL_law_181 ?_
  refine xe_sld dL_law_182 hX (by omega) (by omega) ?_
  refine xe_aload_n dL_law_183 rfl ?_
  refine xe_iload_n dL_law_184 rfl ?_
  refine xe_iconst dL_law_185 kc_3 ?_
  refine xn_iadd dL_law_186 ?_
  refine xe_sld dL_law_187 hX (by omega) (by omega) ?_
  refine xe_aload_n dL_law_188 rfl ?_
  refine xe_iload_n dL_law_189 rfl ?_
  refine xe_iconst dL_law_190 kc_4 ?_
  refine xn_iadd dL_law_191 ?_
  refine xe_sld dL_law_192 hX (by omega) (by omega) ?_
  refine xe_aload_n dL_law_193 rfl ?_
  refine xe_iload_n dL_law_194 rfl ?_
  refine xe_iconst dL_law_195 kc_5 ?_
  refine xn_iadd dL_law_196 ?_
  refine xe_sld dL_law_197 hX (by omega) (by omega) ?_
  refine xe_callV (d' := d1) (y' := mX9_feed) (b := 0) (ci := 9) (nb := 15) (as := [.int (xs (6 * i + 1)), .int (xs (6 * i + 2)), .int (xs (6 * i + 3)), .int (xs (6 * i + 4)), .int (xs (6 * i + 5))]) (rest := []) dL_law_198 mlL_13 mvX9_feed rfl (st0 hR.1.1) (by decide) rfl (by omega) (by decide) (Nat.le_of_ble_eq_true rfl) C1 rfl (fun r1 h1 q1 => ?_)
  obtain ⟨v, d2, hd2, rfl, hs1, C2⟩ := F r1 h1 q1
  refine xe_aload_n dL_law_201 rfl ?_
  refine xe_aload_n dL_law_202 rfl ?_
  refine xe_iload_n dL_law_203 rfl ?_
  refine xe_iconst dL_law_204 kc_1 ?_
  refine xn_iadd dL_law_205 ?_
  refine xe_sld dL_law_206 hX (by omega) (by omega) ?_
  refine xe_aload_n dL_law_207 rfl ?_
  refine xe_iload_n dL_law_208 rfl ?_
  refine xe_iconst dL_law_209 kc_2 ?_
  refine xn_iadd dL_law_210 ?_
  refine xe_sld dL_law_211 hX (by omega) (by omega) ?_
  refine xe_aload_n dL_law_212 rfl ?_
  refine xe_iload_n dL_law_213 rfl ?_
  refine xe_iconst dL_law_214 kc_3 ?_
  refine xn_iadd dL_law_215 ?_
  refine xe_sld dL_law_216 hX (by omega) (by omega) ?_
  refine xe_aload_n dL_law_217 rfl ?_
  refine xe_iload_n dL_law_218 rfl ?_
  refine xe_iconst dL_law_219 kc_4 ?_
  refine xn_iadd dL_law_220 ?_
  refine xe_sld dL_law_221 hX (by omega) (by omega) ?_
  refine xe_aload_n dL_law_222 rfl ?_
  refine xe_iload_n dL_law_223 rfl ?_
  refine xe_iconst dL_law_224 kc_5 ?_
  refine xn_iadd dL_law_225 ?_
  refine xe_sld dL_law_226 hX (by omega) (by omega) ?_
  refine xe_callV (d' := d2) (y' := mX10_feed) (b := 124) (ci := 10) (nb := 67) (as := [.int (xs (6 * i + 1)), .int (xs (6 * i + 2)), .int (xs (6 * i + 3)), .int (xs (6 * i + 4)), .int (xs (6 * i + 5))]) (rest := [.int v]) dL_law_227 mlL_17 mvX10_feed rfl (st124 hs1) (by decide) rfl (by omega) (by decide) (Nat.le_of_ble_eq_true rfl) C2 rfl (fun r2 h2 q2 => ?_)
  obtain ⟨rfl, R2⟩ := q2
  exact xe_icmp_eq (tgt := 1065) dL_law_230 rfl (fun _ => K h2 R2) (fun c => absurd rfl c)
theorem lw_c1 (l : Launch) (g : q_GP) (n : String) {LL : Nat} {xs : Nat → Int32} (hL : LL ≤ 3072) (hX : q_GX g LL xs) {i : Nat} (hi : 6 * i + 6 ≤ LL) {h : q_H} (hR : RR i h) {Q : Option Value → q_H → Prop} (K : ∀ h2, RR (i + 1) h2 → q_Ex l g 60 (mL n) 1065 [(0, .ref 1000000004), (1, .ref 0), (2, .ref 124), (3, .int (nI (6 * i)))] [] h2 Q) : q_Ex l g 60 (mL n) 235 [(0, .ref 1000000004), (1, .ref 0), (2, .ref 124), (3, .int (nI (6 * i)))] [] h Q := by
  obtain ⟨d1, Q1, hd1, C1, F⟩ := st_back l g (show i ≤ 512 by omega) hR (xs (6 * i + 1))
  refine xe_aload_n dL_law_235 rfl ?_
  refine xe_aload_n dL_law_236 rfl ?_
  refine xe_iload_n dL_law_237 rfl ?_
  refine xe_iconst dL_law_238 kc_1 ?_
  refine xn_iadd dL_law_239 ?_
  refine xe_sld dL_law_240 hX (by omega) (by omega) ?_
  refine xe_callV (d' := d1) (y' := mX9_back) (b := 0) (ci := 9) (nb := 15) (as := [.int (xs (6 * i + 1))]) (rest := []) dL_law_241 mlL_18 mvX9_back rfl (st0 hR.1.1) (by decide) rfl (by omega) (by decide) (Nat.le_of_ble_eq_true rfl) C1 rfl (fun r1 h1 q1 => ?_)
  obtain ⟨v, d2, hd2, rfl, hs1, C2⟩ := F r1 h1 q1
  refine xe_aload_n dL_law_244 rfl ?_
  refine xe_aload_n dL_law_245 rfl ?_
  refine xe_iload_n dL_law_246 rfl ?_
  refine xe_iconst dL_law_247 kc_1 ?_
  refine xn_iadd dL_law_248 ?_
  refine xe_sld dL_law_249 hX (by omega) (by omega) ?_
  refine xe_callV (d' := d2) (y' := mX10_back) (b := 124) (ci := 10) (nb := 67) (as := [.int (xs (6 * i + 1))]) (rest := [.int v]) dL_law_250 mlL_22 mvX10_back rfl (st124 hs1) (by decide) rfl (by omega) (by decide) (Nat.le_of_ble_eq_true rfl) C2 rfl (fun r2 h2 q2 => ?_)
  obtain ⟨rfl, R2⟩ := q2
  exact xe_icmp_eq (tgt := 1065) dL_law_253 rfl (fun _ => K h2 R2) (fun c => absurd rfl c)
theorem lw_c2 (l : Launch) (g : q_GP) (n : String) {LL : Nat} {xs : Nat → Int32} (hL : LL ≤ 3072) (hX : q_GX g LL xs) {i : Nat} (hi : 6 * i + 6 ≤ LL) {h : q_H} (hR : RR i h) {Q : Option Value → q_H → Prop} (K : ∀ h2, RR (i + 1) h2 → q_Ex l g 60 (mL n) 1065 [(0, .ref 1000000004), (1, .ref 0), (2, .ref 124), (3, .int (nI (6 * i)))] [] h2 Q) : q_Ex l g 60 (mL n) 258 [(0, .ref 1000000004), (1, .ref 0), (2, .ref 124), (3, .int (nI (6 * i)))] [] h Q := by
  obtain ⟨d1, Q1, hd1, C1, F⟩ := st_read l g (show i ≤ 512 by omega) hR hX
  refine xe_aload_n dL_law_258 rfl ?_
  refine xe_callV (d' := d1) (y' := mX9_read) (b := 0) (ci := 9) (nb := 15) (as := []) (rest := []) dL_law_259 mlL_23 mvX9_read rfl (st0 hR.1.1) (by decide) rfl (by omega) (by decide) (Nat.le_of_ble_eq_true rfl) C1 rfl (fun r1 h1 q1 => ?_)
  obtain ⟨v, d2, hd2, rfl, hs1, C2⟩ := F r1 h1 q1
  refine xe_aload_n dL_law_262 rfl ?_
  refine xe_callV (d' := d2) (y' := mX10_read) (b := 124) (ci := 10) (nb := 67) (as := []) (rest := [.int v]) dL_law_263 mlL_27 mvX10_read rfl (st124 hs1) (by decide) rfl (by omega) (by decide) (Nat.le_of_ble_eq_true rfl) C2 rfl (fun r2 h2 q2 => ?_)
  obtain ⟨rfl, R2⟩ := q2
  exact xe_icmp_eq (tgt := 1065) dL_law_266 rfl (fun _ => K h2 R2) (fun c => absurd rfl c)
theorem lw_c3 (l : Launch) (g : q_GP) (n : String) {LL : Nat} {xs : Nat → Int32} (hL : LL ≤ 3072) (hX : q_GX g LL xs) {i : Nat} (hi : 6 * i + 6 ≤ LL) {h : q_H} (hR : RR i h) {Q : Option Value → q_H → Prop} (K : ∀ h2, RR (i + 1) h2 → q_Ex l g 60 (mL n) 1065 [(0, .ref 1000000004), (1, .ref 0), (2, .ref 124), (3, .int (nI (6 * i)))] [] h2 Q) : q_Ex l g 60 (mL n) 271 [(0, .ref 1000000004), (1, .ref 0), (2, .ref 124), (3, .int (nI (6 * i)))] [] h Q := by
  obtain ⟨d1, Q1, hd1, C1, F⟩ := st_place l g (show i ≤ 512 by omega) hR
  refine xe_aload_n dL_law_271 rfl ?_
  refine xe_callV (d' := d1) (y' := mX9_place) (b := 0) (ci := 9) (nb := 15) (as := []) (rest := []) dL_law_272 mlL_28 mvX9_place rfl (st0 hR.1.1) (by decide) rfl (by omega) (by decide) (Nat.le_of_ble_eq_true rfl) C1 rfl (fun r1 h1 q1 => ?_)
  obtain ⟨v, d2, hd2, rfl, hs1, C2⟩ := F r1 h1 q1
  refine xe_aload_n dL_law_275 rfl ?_
  refine xe_callV (d' := d2) (y' := mX10_place) (b := 124) (ci := 10) (nb := 67) (as := []) (rest := [.int v]) dL_law_276 mlL_31 mvX10_place rfl (st124 hs1) (by decide) rfl (by omega) (by decide) (Nat.le_of_ble_eq_true rfl) C2 rfl (fun r2 h2 q2 => ?_)
  obtain ⟨rfl, R2⟩ := q2
  exact xe_icmp_eq (tgt := 1065) dL_law_279 rfl (fun _ => K h2 R2) (fun c => absurd rfl c)
theorem lw_c4 (l : Launch) (g : q_GP) (n : String) {LL : Nat} {xs : Nat → Int32} (hL : LL ≤ 3072) (hX : q_GX g LL xs) {i : Nat} (hi : 6 * i + 6 ≤ LL) {h : q_H} (hR : RR i h) {Q : Option Value → q_H → Prop} (K : ∀ h2, RR (i + 1) h2 → q_Ex l g 60 (mL n) 1065 [(0, .ref 1000000004), (1, .ref 0), (2, .ref 124), (3, .int (nI (6 * i)))] [] h2 Q) : q_Ex l g 60 (mL n) 284 [(0, .ref 1000000004), (1, .ref 0), (2, .ref 124), (3, .int (nI (6 * i)))] [] h Q := by
  obtain ⟨d1, Q1, hd1, C1, F⟩ := st_man l g (show i ≤ 512 by omega) hR (xs (6 * i + 1)) (xs (6 * i + 2))
  refine xe_aload_n dL_law_284 rfl ?_
  refine xe_aload_n dL_law_285 rfl ?_
  refine xe_iload_n dL_law_286 rfl ?_
  refine xe_iconst dL_law_287 kc_1 ?_
  refine xn_iadd dL_law_288 ?_
  refine xe_sld dL_law_289 hX (by omega) (by omega) ?_
  refine xe_aload_n dL_law_290 rfl ?_
  refine xe_iload_n dL_law_291 rfl ?_
  refine xe_iconst dL_law_292 kc_2 ?_
  refine xn_iadd dL_law_293 ?_
  refine xe_sld dL_law_294 hX (by omega) (by omega) ?_
  refine xe_callV (d' := d1) (y' := mX9_man) (b := 0) (ci := 9) (nb := 15) (as := [.int (xs (6 * i + 1)), .int (xs (6 * i + 2))]) (rest := []) dL_law_295 mlL_32 mvX9_man rfl (st0 hR.1.1) (by decide) rfl (by omega) (by decide) (Nat.le_of_ble_eq_true rfl) C1 rfl (fun r1 h1 q1 => ?_)
  obtain ⟨v, d2, hd2, rfl, hs1, C2⟩ := F r1 h1 q1
  refine xe_aload_n dL_law_298 rfl ?_
  refine xe_aload_n dL_law_299 rfl ?_
  refine xe_iload_n dL_law_300 rfl ?_
  refine xe_iconst dL_law_301 kc_1 ?_
  refine xn_iadd dL_law_302 ?_
  refine xe_sld dL_law_303 hX (by omega) (by omega) ?_
  refine xe_aload_n dL_law_304 rfl ?_
  refine xe_iload_n dL_law_305 rfl ?_
  refine xe_iconst dL_law_306 kc_2 ?_
  refine xn_iadd dL_law_307 ?_
  refine xe_sld dL_law_308 hX (by omega) (by omega) ?_
  refine xe_callV (d' := d2) (y' := mX10_man) (b := 124) (ci := 10) (nb := 67) (as := [.int (xs (6 * i + 1)), .int (xs (6 * i + 2))]) (rest := [.int v]) dL_law_309 mlL_36 mvX10_man rfl (st124 hs1) (by decide) rfl (by omega) (by decide) (Nat.le_of_ble_eq_true rfl) C2 rfl (fun r2 h2 q2 => ?_)
  obtain ⟨rfl, R2⟩ := q2
  exact xe_icmp_eq (tgt := 1065) dL_law_312 rfl (fun _ => K h2 R2) (fun c => absurd rfl c)
theorem lw_c5 (l : Launch) (g : q_GP) (n : String) {LL : Nat} {xs : Nat → Int32} (hL : LL ≤ 3072) (hX : q_GX g LL xs) {i : Nat} (hi : 6 * i + 6 ≤ LL) {h : q_H} (hR : RR i h) {Q : Option Value → q_H → Prop} (K : ∀ h2, RR (i + 1) h2 → q_Ex l g 60 (mL n) 1065 [(0, .ref 1000000004), (1, .ref 0), (2, .ref 124), (3, .int (nI (6 * i)))] [] h2 Q) : q_Ex l g 60 (mL n) 317 [(0, .ref 1000000004), (1, .ref 0), (2, .ref 124), (3, .int (nI (6 * i)))] [] h Q := by
  obtain ⟨d1, Q1, hd1, C1, F⟩ := st_led l g (show i ≤ 512 by omega) hR (xs (6 * i + 1)) (xs (6 * i + 2))
  refine xe_aload_n dL_law_317 rfl ?_
  refine xe_aload_n dL_law_318 rfl ?_
  refine xe_iload_n dL_law_319 rfl ?_
  refine xe_iconst dL_law_320 kc_1 ?_
  refine xn_iadd dL_law_321 ?_
  refine xe_sld dL_law_322 hX (by omega) (by omega) ?_
  refine xe_aload_n dL_law_323 rfl ?_
  refine xe_iload_n dL_law_324 rfl ?_
  refine xe_iconst dL_law_325 kc_2 ?_
  refine xn_iadd dL_law_326 ?_
  refine xe_sld dL_law_327 hX (by omega) (by omega) ?_
  refine xe_callV (d' := d1) (y' := mX9_led) (b := 0) (ci := 9) (nb := 15) (as := [.int (xs (6 * i + 1)), .int (xs (6 * i + 2))]) (rest := []) dL_law_328 mlL_37 mvX9_led rfl (st0 hR.1.1) (by decide) rfl (by omega) (by decide) (Nat.le_of_ble_eq_true rfl) C1 rfl (fun r1 h1 q1 => ?_)
  obtain ⟨v, d2, hd2, rfl, hs1, C2⟩ := F r1 h1 q1
  refine xe_aload_n dL_law_331 rfl ?_
  refine xe_aload_n dL_law_332 rfl ?_
  refine xe_iload_n dL_law_333 rfl ?_
  refine xe_iconst dL_law_334 kc_1 ?_
  refine xn_iadd dL_law_335 ?_
  refine xe_sld dL_law_336 hX (by omega) (by omega) ?_
  refine xe_aload_n dL_law_337 rfl ?_
  refine xe_iload_n dL_law_338 rfl ?_
  refine xe_iconst dL_law_339 kc_2 ?_
  refine xn_iadd dL_law_340 ?_
  refine xe_sld dL_law_341 hX (by omega) (by omega) ?_
  refine xe_callV (d' := d2) (y' := mX10_led) (b := 124) (ci := 10) (nb := 67) (as := [.int (xs (6 * i + 1)), .int (xs (6 * i + 2))]) (rest := [.int v]) dL_law_342 mlL_40 mvX10_led rfl (st124 hs1) (by decide) rfl (by omega) (by decide) (Nat.le_of_ble_eq_true rfl) C2 rfl (fun r2 h2 q2 => ?_)
  obtain ⟨rfl, R2⟩ := q2
  exact xe_icmp_eq (tgt := 1065) dL_law_345 rfl (fun _ => K h2 R2) (fun c => absurd rfl c)
theorem lw_c6 (l : Launch) (g : q_GP) (n : String) {LL : Nat} {xs : Nat → Int32} (hL : LL ≤ 3072) (hX : q_GX g LL xs) {i : Nat} (hi : 6 * i + 6 ≤ LL) {h : q_H} (hR : RR i h) {Q : Option Value → q_H → Prop} (K : ∀ h2, RR (i + 1) h2 → q_Ex l g 60 (mL n) 1065 [(0, .ref 1000000004), (1, .ref 0), (2, .ref 124), (3, .int (nI (6 * i)))] [] h2 Q) : q_Ex l g 60 (mL n) 350 [(0, .ref 1000000004), (1, .ref 0), (2, .ref 124), (3, .int (nI (6 * i)))] [] h Q := by
  obtain ⟨d1, Q1, hd1, C1, F⟩ := st_debt l g (show i ≤ 512 by omega) hR (xs (6 * i + 1)) (xs (6 * i + 2))
  refine xe_aload_n dL_law_350 rfl ?_
  refine xe_aload_n dL_law_351 rfl ?_
  refine xe_iload_n dL_law_352 rfl ?_
  refine xe_iconst dL_law_353 kc_1 ?_
  refine xn_iadd dL_law_354 ?_
  refine xe_sld dL_law_355 hX (by omega) (by omega) ?_
  refine xe_aload_n dL_law_356 rfl ?_
  refine xe_iload_n dL_law_357 rfl ?_
  refine xe_iconst dL_law_358 kc_2 ?_
  refine xn_iadd dL_law_359 ?_
  refine xe_sld dL_law_360 hX (by omega) (by omega) ?_
  refine xe_callV (d' := d1) (y' := mX9_debt) (b := 0) (ci := 9) (nb := 15) (as := [.int (xs (6 * i + 1)), .int (xs (6 * i + 2))]) (rest := []) dL_law_361 mlL_41 mvX9_debt rfl (st0 hR.1.1) (by decide) rfl (by omega) (by decide) (Nat.le_of_ble_eq_true rfl) C1 rfl (fun r1 h1 q1 => ?_)
  obtain ⟨v, d2, hd2, rfl, hs1, C2⟩ := F r1 h1 q1
  refine xe_aload_n dL_law_364 rfl ?_
  refine xe_aload_n dL_law_365 rfl ?_
  refine xe_iload_n dL_law_366 rfl ?_
  refine xe_iconst dL_law_367 kc_1 ?_
  refine xn_iadd dL_law_368 ?_
  refine xe_sld dL_law_369 hX (by omega) (by omega) ?_
  refine xe_aload_n dL_law_370 rfl ?_
  refine xe_iload_n dL_law_371 rfl ?_
  refine xe_iconst dL_law_372 kc_2 ?_
  refine xn_iadd dL_law_373 ?_
  refine xe_sld dL_law_374 hX (by omega) (by omega) ?_
  refine xe_callV (d' := d2) (y' := mX10_debt) (b := 124) (ci := 10) (nb := 67) (as := [.int (xs (6 * i + 1)), .int (xs (6 * i + 2))]) (rest := [.int v]) dL_law_375 mlL_44 mvX10_debt rfl (st124 hs1) (by decide) rfl (by omega) (by decide) (Nat.le_of_ble_eq_true rfl) C2 rfl (fun r2 h2 q2 => ?_)
  obtain ⟨rfl, R2⟩ := q2
  exact xe_icmp_eq (tgt := 1065) dL_law_378 rfl (fun _ => K h2 R2) (fun c => absurd rfl c)
theorem lw_c7 (l : Launch) (g : q_GP) (n : String) {LL : Nat} {xs : Nat → Int32} (hL : LL ≤ 3072) (hX : q_GX g LL xs) {i : Nat} (hi : 6 * i + 6 ≤ LL) {h : q_H} (hR : RR i h) {Q : Option Value → q_H → Prop} (K : ∀ h2, RR (i + 1) h2 → q_Ex l g 60 (mL n) 1065 [(0, .ref 1000000004), (1, .ref 0), (2, .ref 124), (3, .int (nI (6 * i)))] [] h2 Q) : q_Ex l g 60 (mL n) 383 [(0, .ref 1000000004), (1, .ref 0), (2, .ref 124), (3, .int (nI (6 * i)))] [] h Q := by
  obtain ⟨d1, Q1, hd1, C1, F⟩ := st_tariff l g (show i ≤ 512 by omega) hR (xs (6 * i + 1)) (xs (6 * i + 2))
  refine xe_aload_n dL_law_383 rfl ?_
  refine xe_aload_n dL_law_384 rfl ?_
  refine xe_iload_n dL_law_385 rfl ?_
  refine xe_iconst dL_law_386 kc_1 ?_
  refine xn_iadd dL_law_387 ?_
  refine xe_sld dL_law_388 hX (by omega) (by omega) ?_
  refine xe_aload_n dL_law_389 rfl ?_
  refine xe_iload_n dL_law_390 rfl ?_
  refine xe_iconst dL_law_391 kc_2 ?_
  refine xn_iadd dL_law_392 ?_
  refine xe_sld dL_law_393 hX (by omega) (by omega) ?_
  refine xe_callV (d' := d1) (y' := mX9_tariff) (b := 0) (ci := 9) (nb := 15) (as := [.int (xs (6 * i + 1)), .int (xs (6 * i + 2))]) (rest := []) dL_law_394 mlL_45 mvX9_tariff rfl (st0 hR.1.1) (by decide) rfl (by omega) (by decide) (Nat.le_of_ble_eq_true rfl) C1 rfl (fun r1 h1 q1 => ?_)
  obtain ⟨v, d2, hd2, rfl, hs1, C2⟩ := F r1 h1 q1
  refine xe_aload_n dL_law_397 rfl ?_
  refine xe_aload_n dL_law_398 rfl ?_
  refine xe_iload_n dL_law_399 rfl ?_
  refine xe_iconst dL_law_400 kc_1 ?_
  refine xn_iadd dL_law_401 ?_
  refine xe_sld dL_law_402 hX (by omega) (by omega) ?_
  refine xe_aload_n dL_law_403 rfl ?_
  refine xe_iload_n dL_law_404 rfl ?_
  refine xe_iconst dL_law_405 kc_2 ?_
  refine xn_iadd dL_law_406 ?_
  refine xe_sld dL_law_407 hX (by omega) (by omega) ?_
  refine xe_callV (d' := d2) (y' := mX10_tariff) (b := 124) (ci := 10) (nb := 67) (as := [.int (xs (6 * i + 1)), .int (xs (6 * i + 2))]) (rest := [.int v]) dL_law_408 mlL_48 mvX10_tariff rfl (st124 hs1) (by decide) rfl (by omega) (by decide) (Nat.le_of_ble_eq_true rfl) C2 rfl (fun r2 h2 q2 => ?_)
  obtain ⟨rfl, R2⟩ := q2
  exact xe_icmp_eq (tgt := 1065) dL_law_411 rfl (fun _ => K h2 R2) (fun c => absurd rfl c)
theorem lw_c8 (l : Launch) (g : q_GP) (n : String) {LL : Nat} {xs : Nat → Int32} (hL : LL ≤ 3072) (hX : q_GX g LL xs) {i : Nat} (hi : 6 * i + 6 ≤ LL) {h : q_H} (hR : RR i h) {Q : Option Value → q_H → Prop} (K : ∀ h2, RR (i + 1) h2 → q_Ex l g 60 (mL n) 1065 [(0, .ref 1000000004), (1, .ref 0), (2, .ref 124), (3, .int (nI (6 * i)))] [] h2 Q) : q_Ex l g 60 (mL n) 416 [(0, .ref 1000000004), (1, .ref 0), (2, .ref 124), (3, .int (nI (6 * i)))] [] h Q := by
  obtain ⟨d1, Q1, hd1, C1, F⟩ := st_fine l g (show i ≤ 512 by omega) hR (xs (6 * i + 1)) (xs (6 * i + 2))
  refine xe_aload_n dL_law_416 rfl ?_
  refine xe_aload_n dL_law_417 rfl ?_
  refine xe_iload_n dL_law_418 rfl ?_
  refine xe_iconst dL_law_419 kc_1 ?_
  refine xn_iadd dL_law_420 ?_
  refine xe_sld dL_law_421 hX (by omega) (by omega) ?_
  refine xe_aload_n dL_law_422 rfl ?_
  refine xe_iload_n dL_law_423 rfl ?_
  refine xe_iconst dL_law_424 kc_2 ?_
  refine xn_iadd dL_law_425 ?_
  refine xe_sld dL_law_426 hX (by omega) (by omega) ?_
  refine xe_callV (d' := d1) (y' := mX9_fine) (b := 0) (ci := 9) (nb := 15) (as := [.int (xs (6 * i + 1)), .int (xs (6 * i + 2))]) (rest := []) dL_law_427 mlL_49 mvX9_fine rfl (st0 hR.1.1) (by decide) rfl (by omega) (by decide) (Nat.le_of_ble_eq_true rfl) C1 rfl (fun r1 h1 q1 => ?_)
  obtain ⟨v, d2, hd2, rfl, hs1, C2⟩ := F r1 h1 q1
  refine xe_aload_n dL_law_430 rfl ?_
  refine xe_aload_n dL_law_431 rfl ?_
  refine xe_iload_n dL_law_432 rfl ?_
  refine xe_iconst dL_law_433 kc_1 ?_
  refine xn_iadd dL_law_434 ?_
  refine xe_sld dL_law_435 hX (by omega) (by omega) ?_
  refine xe_aload_n dL_law_436 rfl ?_
  refine xe_iload_n dL_law_437 rfl ?_
  refine xe_iconst dL_law_438 kc_2 ?_
  refine xn_iadd dL_law_439 ?_
  refine xe_sld dL_law_440 hX (by omega) (by omega) ?_
  refine xe_callV (d' := d2) (y' := mX10_fine) (b := 124) (ci := 10) (nb := 67) (as := [.int (xs (6 * i + 1)), .int (xs (6 * i + 2))]) (rest := [.int v]) dL_law_441 mlL_52 mvX10_fine rfl (st124 hs1) (by decide) rfl (by omega) (by decide) (Nat.le_of_ble_eq_true rfl) C2 rfl (fun r2 h2 q2 => ?_)
  obtain ⟨rfl, R2⟩ := q2
  exact xe_icmp_eq (tgt := 1065) dL_law_444 rfl (fun _ => K h2 R2) (fun c => absurd rfl c)
theorem lw_c9 (l : Launch) (g : q_GP) (n : String) {LL : Nat} {xs : Nat → Int32} (hL : LL ≤ 3072) (hX : q_GX g LL xs) {i : Nat} (hi : 6 * i + 6 ≤ LL) {h : q_H} (hR : RR i h) {Q : Option Value → q_H → Prop} (K : ∀ h2, RR (i + 1) h2 → q_Ex l g 60 (mL n) 1065 [(0, .ref 1000000004), (1, .ref 0), (2, .ref 124), (3, .int (nI (6 * i)))] [] h2 Q) : q_Ex l g 60 (mL n) 449 [(0, .ref 1000000004), (1, .ref 0), (2, .ref 124), (3, .int (nI (6 * i)))] [] h Q := by
  obtain ⟨d1, Q1, hd1, C1, F⟩ := st_entry l g (show i ≤ 512 by omega) hR (xs (6 * i + 1)) (xs (6 * i + 2))
  refine xe_aload_n dL_law_449 rfl ?_
  refine xe_aload_n dL_law_450 rfl ?_
  refine xe_iload_n dL_law_451 rfl ?_
  refine xe_iconst dL_law_452 kc_1 ?_
  refine xn_iadd dL_law_453 ?_
  refine xe_sld dL_law_454 hX (by omega) (by omega) ?_
  refine xe_aload_n dL_law_455 rfl ?_
  refine xe_iload_n dL_law_456 rfl ?_
  refine xe_iconst dL_law_457 kc_2 ?_
  refine xn_iadd dL_law_458 ?_
  refine xe_sld dL_law_459 hX (by omega) (by omega) ?_
  refine xe_callV (d' := d1) (y' := mX9_entry) (b := 0) (ci := 9) (nb := 15) (as := [.int (xs (6 * i + 1)), .int (xs (6 * i + 2))]) (rest := []) dL_law_460 mlL_53 mvX9_entry rfl (st0 hR.1.1) (by decide) rfl (by omega) (by decide) (Nat.le_of_ble_eq_true rfl) C1 rfl (fun r1 h1 q1 => ?_)
  obtain ⟨v, d2, hd2, rfl, hs1, C2⟩ := F r1 h1 q1
  refine xe_aload_n dL_law_463 rfl ?_
  refine xe_aload_n dL_law_464 rfl ?_
  refine xe_iload_n dL_law_465 rfl ?_
  refine xe_iconst dL_law_466 kc_1 ?_
  refine xn_iadd dL_law_467 ?_
  refine xe_sld dL_law_468 hX (by omega) (by omega) ?_
  refine xe_aload_n dL_law_469 rfl ?_
  refine xe_iload_n dL_law_470 rfl ?_
  refine xe_iconst dL_law_471 kc_2 ?_
  refine xn_iadd dL_law_472 ?_
  refine xe_sld dL_law_473 hX (by omega) (by omega) ?_
  refine xe_callV (d' := d2) (y' := mX10_entry) (b := 124) (ci := 10) (nb := 67) (as := [.int (xs (6 * i + 1)), .int (xs (6 * i + 2))]) (rest := [.int v]) dL_law_474 mlL_56 mvX10_entry rfl (st124 hs1) (by decide) rfl (by omega) (by decide) (Nat.le_of_ble_eq_true rfl) C2 rfl (fun r2 h2 q2 => ?_)
  obtain ⟨rfl, R2⟩ := q2
  exact xe_icmp_eq (tgt := 1065) dL_law_477 rfl (fun _ => K h2 R2) (fun c => absurd rfl c)
theorem lw_c10 (l : Launch) (g : q_GP) (n : String) {LL : Nat} {xs : Nat → Int32} (hL : LL ≤ 3072) (hX : q_GX g LL xs) {i : Nat} (hi : 6 * i + 6 ≤ LL) {h : q_H} (hR : RR i h) {Q : Option Value → q_H → Prop} (K : ∀ h2, RR (i + 1) h2 → q_Ex l g 60 (mL n) 1065 [(0, .ref 1000000004), (1, .ref 0), (2, .ref 124), (3, .int (nI (6 * i)))] [] h2 Q) : q_Ex l g 60 (mL n) 482 [(0, .ref 1000000004), (1, .ref 0), (2, .ref 124), (3, .int (nI (6 * i)))] [] h Q := by
  obtain ⟨d1, Q1, hd1, C1, F⟩ := st_appeal l g (show i ≤ 512 by omega) hR (xs (6 * i + 1))
  refine xe_aload_n dL_law_482 rfl ?_
  refine xe_aload_n dL_law_483 rfl ?_
  refine xe_iload_n dL_law_484 rfl ?_
  refine xe_iconst dL_law_485 kc_1 ?_
  refine xn_iadd dL_law_486 ?_
  refine xe_sld dL_law_487 hX (by omega) (by omega) ?_
  refine xe_callV (d' := d1) (y' := mX9_appeal) (b := 0) (ci := 9) (nb := 15) (as := [.int (xs (6 * i + 1))]) (rest := []) dL_law_488 mlL_57 mvX9_appeal rfl (st0 hR.1.1) (by decide) rfl (by omega) (by decide) (Nat.le_of_ble_eq_true rfl) C1 rfl (fun r1 h1 q1 => ?_)
  obtain ⟨v, d2, hd2, rfl, hs1, C2⟩ := F r1 h1 q1
  refine xe_aload_n dL_law_491 rfl ?_
  refine xe_aload_n dL_law_492 rfl ?_
  refine xe_iload_n dL_law_493 rfl ?_
  refine xe_iconst dL_law_494 kc_1 ?_
  refine xn_iadd dL_law_495 ?_
  refine xe_sld dL_law_496 hX (by omega) (by omega) ?_
  refine xe_callV (d' := d2) (y' := mX10_appeal) (b := 124) (ci := 10) (nb := 67) (as := [.int (xs (6 * i + 1))]) (rest := [.int v]) dL_law_497 mlL_60 mvX10_appeal rfl (st124 hs1) (by decide) rfl (by omega) (by decide) (Nat.le_of_ble_eq_true rfl) C2 rfl (fun r2 h2 q2 => ?_)
  obtain ⟨rfl, R2⟩ := q2
  exact xe_icmp_eq (tgt := 1065) dL_law_500 rfl (fun _ => K h2 R2) (fun c => absurd rfl c)
theorem lw_c11 (l : Launch) (g : q_GP) (n : String) {LL : Nat} {xs : Nat → Int32} (hL : LL ≤ 3072) (hX : q_GX g LL xs) {i : Nat} (hi : 6 * i + 6 ≤ LL) {h : q_H} (hR : RR i h) {Q : Option Value → q_H → Prop} (K : ∀ h2, RR (i + 1) h2 → q_Ex l g 60 (mL n) 1065 [(0, .ref 1000000004), (1, .ref 0), (2, .ref 124), (3, .int (nI (6 * i)))] [] h2 Q) : q_Ex l g 60 (mL n) 505 [(0, .ref 1000000004), (1, .ref 0), (2, .ref 124), (3, .int (nI (6 * i)))] [] h Q := by
  obtain ⟨d1, Q1, hd1, C1, F⟩ := st_stuff l g (show i ≤ 512 by omega) hR (xs (6 * i + 1)) (xs (6 * i + 2)) (xs (6 * i + 3))
  refine xe_aload_n dL_law_505 rfl ?_
  refine xe_aload_n dL_law_506 rfl ?_
  refine xe_iload_n dL_law_507 rfl ?_
  refine xe_iconst dL_law_508 kc_1 ?_
  refine xn_iadd dL_law_509 ?_
  refine xe_sld dL_law_510 hX (by omega) (by omega) ?_
  refine xe_aload_n dL_law_511 rfl ?_
  refine xe_iload_n dL_law_512 rfl ?_
  refine xe_iconst dL_law_513 kc_2 ?_
  refine xn_iadd dL_law_514 ?_
  refine xe_sld dL_law_515 hX (by omega) (by omega) ?_
  refine xe_aload_n dL_law_516 rfl ?_
  refine xe_iload_n dL_law_517 rfl ?_
  refine xe_iconst dL_law_518 kc_3 ?_
  refine xn_iadd dL_law_519 ?_
  refine xe_sld dL_law_520 hX (by omega) (by omega) ?_
  refine xe_callV (d' := d1) (y' := mX9_stuff) (b := 0) (ci := 9) (nb := 15) (as := [.int (xs (6 * i + 1)), .int (xs (6 * i + 2)), .int (xs (6 * i + 3))]) (rest := []) dL_law_521 mlL_61 mvX9_stuff rfl (st0 hR.1.1) (by decide) rfl (by omega) (by decide) (Nat.le_of_ble_eq_true rfl) C1 rfl (fun r1 h1 q1 => ?_)
  obtain ⟨v, d2, hd2, rfl, hs1, C2⟩ := F r1 h1 q1
  refine xe_aload_n dL_law_524 rfl ?_
  refine xe_aload_n dL_law_525 rfl ?_
  refine xe_iload_n dL_law_526 rfl ?_
  refine xe_iconst dL_law_527 kc_1 ?_
  refine xn_iadd dL_law_528 ?_
  refine xe_sld dL_law_529 hX (by omega) (by omega) ?_
  refine xe_aload_n dL_law_530 rfl ?_
  refine xe_iload_n dL_law_531 rfl ?_
  refine xe_iconst dL_law_532 kc_2 ?_
  refine xn_iadd dL_law_533 ?_
  refine xe_sld dL_law_534 hX (by omega) (by omega) ?_
  refine xe_aload_n dL_law_535 rfl ?_
  refine xe_iload_n dL_law_536 rfl ?_
  refine xe_iconst dL_law_537 kc_3 ?_
  refine xn_iadd dL_law_538 ?_
  refine xe_sld dL_law_539 hX (by omega) (by omega) ?_
  refine xe_callV (d' := d2) (y' := mX10_stuff) (b := 124) (ci := 10) (nb := 67) (as := [.int (xs (6 * i + 1)), .int (xs (6 * i + 2)), .int (xs (6 * i + 3))]) (rest := [.int v]) dL_law_540 mlL_65 mvX10_stuff rfl (st124 hs1) (by decide) rfl (by omega) (by decide) (Nat.le_of_ble_eq_true rfl) C2 rfl (fun r2 h2 q2 => ?_)
  obtain ⟨rfl, R2⟩ := q2
  exact xe_icmp_eq (tgt := 1065) dL_law_543 rfl (fun _ => K h2 R2) (fun c => absurd rfl c)
theorem lw_c12 (l : Launch) (g : q_GP) (n : String) {LL : Nat} {xs : Nat → Int32} (hL : LL ≤ 3072) (hX : q_GX g LL xs) {i : Nat} (hi : 6 * i + 6 ≤ LL) {h : q_H} (hR : RR i h) {Q : Option Value → q_H → Prop} (K : ∀ h2, RR (i + 1) h2 → q_Ex l g 60 (mL n) 1065 [(0, .ref 1000000004), (1, .ref 0), (2, .ref 124), (3, .int (nI (6 * i)))] [] h2 Q) : q_Ex l g 60 (mL n) 548 [(0, .ref 1000000004), (1, .ref 0), (2, .ref 124), (3, .int (nI (6 * i)))] [] h Q := by
  obtain ⟨d1, Q1, hd1, C1, F⟩ := st_lend l g (show i ≤ 512 by omega) hR (xs (6 * i + 1)) (xs (6 * i + 2)) (xs (6 * i + 3))
  refine xe_aload_n dL_law_548 rfl ?_
  refine xe_aload_n dL_law_549 rfl ?_
  refine xe_iload_n dL_law_550 rfl ?_
  refine xe_iconst dL_law_551 kc_1 ?_
  refine xn_iadd dL_law_552 ?_
  refine xe_sld dL_law_553 hX (by omega) (by omega) ?_
  refine xe_aload_n dL_law_554 rfl ?_
  refine xe_iload_n dL_law_555 rfl ?_
  refine xe_iconst dL_law_556 kc_2 ?_
  refine xn_iadd dL_law_557 ?_
  refine xe_sld dL_law_558 hX (by omega) (by omega) ?_
  refine xe_aload_n dL_law_559 rfl ?_
  refine xe_iload_n dL_law_560 rfl ?_
  refine xe_iconst dL_law_561 kc_3 ?_
  refine xn_iadd dL_law_562 ?_
  refine xe_sld dL_law_563 hX (by omega) (by omega) ?_
  refine xe_callV (d' := d1) (y' := mX9_lend) (b := 0) (ci := 9) (nb := 15) (as := [.int (xs (6 * i + 1)), .int (xs (6 * i + 2)), .int (xs (6 * i + 3))]) (rest := []) dL_law_564 mlL_66 mvX9_lend rfl (st0 hR.1.1) (by decide) rfl (by omega) (by decide) (Nat.le_of_ble_eq_true rfl) C1 rfl (fun r1 h1 q1 => ?_)
  obtain ⟨v, d2, hd2, rfl, hs1, C2⟩ := F r1 h1 q1
  refine xe_aload_n dL_law_567 rfl ?_
  refine xe_aload_n dL_law_568 rfl ?_
  refine xe_iload_n dL_law_569 rfl ?_
  refine xe_iconst dL_law_570 kc_1 ?_
  refine xn_iadd dL_law_571 ?_
  refine xe_sld dL_law_572 hX (by omega) (by omega) ?_
  refine xe_aload_n dL_law_573 rfl ?_
  refine xe_iload_n dL_law_574 rfl ?_
  refine xe_iconst dL_law_575 kc_2 ?_
  refine xn_iadd dL_law_576 ?_
  refine xe_sld dL_law_577 hX (by omega) (by omega) ?_
  refine xe_aload_n dL_law_578 rfl ?_
  refine xe_iload_n dL_law_579 rfl ?_
  refine xe_iconst dL_law_580 kc_3 ?_
  refine xn_iadd dL_law_581 ?_
  refine xe_sld dL_law_582 hX (by omega) (by omega) ?_
  refine xe_callV (d' := d2) (y' := mX10_lend) (b := 124) (ci := 10) (nb := 67) (as := [.int (xs (6 * i + 1)), .int (xs (6 * i + 2)), .int (xs (6 * i + 3))]) (rest := [.int v]) dL_law_583 mlL_69 mvX10_lend rfl (st124 hs1) (by decide) rfl (by omega) (by decide) (Nat.le_of_ble_eq_true rfl) C2 rfl (fun r2 h2 q2 => ?_)
  obtain ⟨rfl, R2⟩ := q2
  exact xe_icmp_eq (tgt := 1065) dL_law_586 rfl (fun _ => K h2 R2) (fun c => absurd rfl c)
theorem lw_c13 (l : Launch) (g : q_GP) (n : String) {LL : Nat} {xs : Nat → Int32} (hL : LL ≤ 3072) (hX : q_GX g LL xs) {i : Nat} (hi : 6 * i + 6 ≤ LL) {h : q_H} (hR : RR i h) {Q : Option Value → q_H → Prop} (K : ∀ h2, RR (i + 1) h2 → q_Ex l g 60 (mL n) 1065 [(0, .ref 1000000004), (1, .ref 0), (2, .ref 124), (3, .int (nI (6 * i)))] [] h2 Q) : q_Ex l g 60 (mL n) 591 [(0, .ref 1000000004), (1, .ref 0), (2, .ref 124), (3, .int (nI (6 * i)))] [] h Q := by
  obtain ⟨d1, Q1, hd1, C1, F⟩ := st_repay l g (show i ≤ 512 by omega) hR (xs (6 * i + 1)) (xs (6 * i + 2)) (xs (6 * i + 3))
  refine xe_aload_n dL_law_591 rfl ?_
  refine xe_aload_n dL_law_592 rfl ?_
  refine xe_iload_n dL_law_593 rfl ?_
  refine xe_iconst dL_law_594 kc_1 ?_
  refine xn_iadd dL_law_595 ?_
  refine xe_sld dL_law_596 hX (by omega) (by omega) ?_
  refine xe_aload_n dL_law_597 rfl ?_
  refine xe_iload_n dL_law_598 rfl ?_
  refine xe_iconst dL_law_599 kc_2 ?_
  refine xn_iadd dL_law_600 ?_
  refine xe_sld dL_law_601 hX (by omega) (by omega) ?_
  refine xe_aload_n dL_law_602 rfl ?_
  refine xe_iload_n dL_law_603 rfl ?_
  refine xe_iconst dL_law_604 kc_3 ?_
  refine xn_iadd dL_law_605 ?_
  refine xe_sld dL_law_606 hX (by omega) (by omega) ?_
  refine xe_callV (d' := d1) (y' := mX9_repay) (b := 0) (ci := 9) (nb := 15) (as := [.int (xs (6 * i + 1)), .int (xs (6 * i + 2)), .int (xs (6 * i + 3))]) (rest := []) dL_law_607 mlL_70 mvX9_repay rfl (st0 hR.1.1) (by decide) rfl (by omega) (by decide) (Nat.le_of_ble_eq_true rfl) C1 rfl (fun r1 h1 q1 => ?_)
  obtain ⟨v, d2, hd2, rfl, hs1, C2⟩ := F r1 h1 q1
  refine xe_aload_n dL_law_610 rfl ?_
  refine xe_aload_n dL_law_611 rfl ?_
  refine xe_iload_n dL_law_612 rfl ?_
  refine xe_iconst dL_law_613 kc_1 ?_
  refine xn_iadd dL_law_614 ?_
  refine xe_sld dL_law_615 hX (by omega) (by omega) ?_
  refine xe_aload_n dL_law_616 rfl ?_
  refine xe_iload_n dL_law_617 rfl ?_
  refine xe_iconst dL_law_618 kc_2 ?_
  refine xn_iadd dL_law_619 ?_
  refine xe_sld dL_law_620 hX (by omega) (by omega) ?_
  refine xe_aload_n dL_law_621 rfl ?_
  refine xe_iload_n dL_law_622 rfl ?_
  refine xe_iconst dL_law_623 kc_3 ?_
  refine xn_iadd dL_law_624 ?_
  refine xe_sld dL_law_625 hX (by omega) (by omega) ?_
  refine xe_callV (d' := d2) (y' := mX10_repay) (b := 124) (ci := 10) (nb := 67) (as := [.int (xs (6 * i + 1)), .int (xs (6 * i + 2)), .int (xs (6 * i + 3))]) (rest := [.int v]) dL_law_626 mlL_74 mvX10_repay rfl (st124 hs1) (by decide) rfl (by omega) (by decide) (Nat.le_of_ble_eq_true rfl) C2 rfl (fun r2 h2 q2 => ?_)
  obtain ⟨rfl, R2⟩ := q2
  exact xe_icmp_eq (tgt := 1065) dL_law_629 rfl (fun _ => K h2 R2) (fun c => absurd rfl c)
theorem lw_c14 (l : Launch) (g : q_GP) (n : String) {LL : Nat} {xs : Nat → Int32} (hL : LL ≤ 3072) (hX : q_GX g LL xs) {i : Nat} (hi : 6 * i + 6 ≤ LL) {h : q_H} (hR : RR i h) {Q : Option Value → q_H → Prop} (K : ∀ h2, RR (i + 1) h2 → q_Ex l g 60 (mL n) 1065 [(0, .ref 1000000004), (1, .ref 0), (2, .ref 124), (3, .int (nI (6 * i)))] [] h2 Q) : q_Ex l g 60 (mL n) 634 [(0, .ref 1000000004), (1, .ref 0), (2, .ref 124), (3, .int (nI (6 * i)))] [] h Q := by
  obtain ⟨d1, Q1, hd1, C1, F⟩ := st_weeks l g (show i ≤ 512 by omega) hR (xs (6 * i + 1))
  refine xe_aload_n dL_law_634 rfl ?_
  refine xe_aload_n dL_law_635 rfl ?_
  refine xe_iload_n dL_law_636 rfl ?_
  refine xe_iconst dL_law_637 kc_1 ?_
  refine xn_iadd dL_law_638 ?_
  refine xe_sld dL_law_639 hX (by omega) (by omega) ?_
  refine xe_callV (d' := d1) (y' := mX9_weeks) (b := 0) (ci := 9) (nb := 15) (as := [.int (xs (6 * i + 1))]) (rest := []) dL_law_640 mlL_75 mvX9_weeks rfl (st0 hR.1.1) (by decide) rfl (by omega) (by decide) (Nat.le_of_ble_eq_true rfl) C1 rfl (fun r1 h1 q1 => ?_)
  obtain ⟨v, d2, hd2, rfl, hs1, C2⟩ := F r1 h1 q1
  refine xe_aload_n dL_law_643 rfl ?_
  refine xe_aload_n dL_law_644 rfl ?_
  refine xe_iload_n dL_law_645 rfl ?_
  refine xe_iconst dL_law_646 kc_1 ?_
  refine xn_iadd dL_law_647 ?_
  refine xe_sld dL_law_648 hX (by omega) (by omega) ?_
  refine xe_callV (d' := d2) (y' := mX10_weeks) (b := 124) (ci := 10) (nb := 67) (as := [.int (xs (6 * i + 1))]) (rest := [.int v]) dL_law_649 mlL_78 mvX10_weeks rfl (st124 hs1) (by decide) rfl (by omega) (by decide) (Nat.le_of_ble_eq_true rfl) C2 rfl (fun r2 h2 q2 => ?_)
  obtain ⟨rfl, R2⟩ := q2
  exact xe_icmp_eq (tgt := 1065) dL_law_652 rfl (fun _ => K h2 R2) (fun c => absurd rfl c)
theorem lw_c15 (l : Launch) (g : q_GP) (n : String) {LL : Nat} {xs : Nat → Int32} (hL : LL ≤ 3072) (hX : q_GX g LL xs) {i : Nat} (hi : 6 * i + 6 ≤ LL) {h : q_H} (hR : RR i h) {Q : Option Value → q_H → Prop} (K : ∀ h2, RR (i + 1) h2 → q_Ex l g 60 (mL n) 1065 [(0, .ref 1000000004), (1, .ref 0), (2, .ref 124), (3, .int (nI (6 * i)))] [] h2 Q) : q_Ex l g 60 (mL n) 657 [(0, .ref 1000000004), (1, .ref 0), (2, .ref 124), (3, .int (nI (6 * i)))] [] h Q := by
  obtain ⟨d1, Q1, hd1, C1, F⟩ := st_undo l g (show i ≤ 512 by omega) hR
  refine xe_aload_n dL_law_657 rfl ?_
  refine xe_callV (d' := d1) (y' := mX9_undo) (b := 0) (ci := 9) (nb := 15) (as := []) (rest := []) dL_law_658 mlL_79 mvX9_undo rfl (st0 hR.1.1) (by decide) rfl (by omega) (by decide) (Nat.le_of_ble_eq_true rfl) C1 rfl (fun r1 h1 q1 => ?_)
  obtain ⟨v, d2, hd2, rfl, hs1, C2⟩ := F r1 h1 q1
  refine xe_aload_n dL_law_661 rfl ?_
  refine xe_callV (d' := d2) (y' := mX10_undo) (b := 124) (ci := 10) (nb := 67) (as := []) (rest := [.int v]) dL_law_662 mlL_83 mvX10_undo rfl (st124 hs1) (by decide) rfl (by omega) (by decide) (Nat.le_of_ble_eq_true rfl) C2 rfl (fun r2 h2 q2 => ?_)
  obtain ⟨rfl, R2⟩ := q2
  exact xe_icmp_eq (tgt := 1065) dL_law_665 rfl (fun _ => K h2 R2) (fun c => absurd rfl c)
theorem lw_c16 (l : Launch) (g : q_GP) (n : String) {LL : Nat} {xs : Nat → Int32} (hL : LL ≤ 3072) (hX : q_GX g LL xs) {i : Nat} (hi : 6 * i + 6 ≤ LL) {h : q_H} (hR : RR i h) {Q : Option Value → q_H → Prop} (K : ∀ h2, RR (i + 1) h2 → q_Ex l g 60 (mL n) 1065 [(0, .ref 1000000004), (1, .ref 0), (2, .ref 124), (3, .int (nI (6 * i)))] [] h2 Q) : q_Ex l g 60 (mL n) 670 [(0, .ref 1000000004), (1, .ref 0), (2, .ref 124), (3, .int (nI (6 * i)))] [] h Q := by
  obtain ⟨d1, Q1, hd1, C1, F⟩ := st_payments l g (show i ≤ 512 by omega) hR
  refine xe_aload_n dL_law_670 rfl ?_
  refine xe_callV (d' := d1) (y' := mX9_payments) (b := 0) (ci := 9) (nb := 15) (as := []) (rest := []) dL_law_671 mlL_84 mvX9_payments rfl (st0 hR.1.1) (by decide) rfl (by omega) (by decide) (Nat.le_of_ble_eq_true rfl) C1 rfl (fun r1 h1 q1 => ?_)
  obtain ⟨v, d2, hd2, rfl, hs1, C2⟩ := F r1 h1 q1
  refine xe_aload_n dL_law_674 rfl ?_
  refine xe_callV (d' := d2) (y' := mX10_payments) (b := 124) (ci := 10) (nb := 67) (as := []) (rest := [.int v]) dL_law_675 mlL_87 mvX10_payments rfl (st124 hs1) (by decide) rfl (by omega) (by decide) (Nat.le_of_ble_eq_true rfl) C2 rfl (fun r2 h2 q2 => ?_)
  obtain ⟨rfl, R2⟩ := q2
  exact xe_icmp_eq (tgt := 1065) dL_law_678 rfl (fun _ => K h2 R2) (fun c => absurd rfl c)
theorem lw_c17 (l : Launch) (g : q_GP) (n : String) {LL : Nat} {xs : Nat → Int32} (hL : LL ≤ 3072) (hX : q_GX g LL xs) {i : Nat} (hi : 6 * i + 6 ≤ LL) {h : q_H} (hR : RR i h) {Q : Option Value → q_H → Prop} (K : ∀ h2, RR (i + 1) h2 → q_Ex l g 60 (mL n) 1065 [(0, .ref 1000000004), (1, .ref 0), (2, .ref 124), (3, .int (nI (6 * i)))] [] h2 Q) : q_Ex l g 60 (mL n) 683 [(0, .ref 1000000004), (1, .ref 0), (2, .ref 124), (3, .int (nI (6 * i)))] [] h Q := by
  obtain ⟨d1, Q1, hd1, C1, F⟩ := st_warmBy l g (show i ≤ 512 by omega) hR (xs (6 * i + 1))
  refine xe_aload_n dL_law_683 rfl ?_
  refine xe_aload_n dL_law_684 rfl ?_
  refine xe_iload_n dL_law_685 rfl ?_
  refine xe_iconst dL_law_686 kc_1 ?_
  refine xn_iadd dL_law_687 ?_
  refine xe_sld dL_law_688 hX (by omega) (by omega) ?_
  refine xe_callV (d' := d1) (y' := mX9_warmBy) (b := 0) (ci := 9) (nb := 15) (as := [.int (xs (6 * i + 1))]) (rest := []) dL_law_689 mlL_88 mvX9_warmBy rfl (st0 hR.1.1) (by decide) rfl (by omega) (by decide) (Nat.le_of_ble_eq_true rfl) C1 rfl (fun r1 h1 q1 => ?_)
  obtain ⟨v, d2, hd2, rfl, hs1, C2⟩ := F r1 h1 q1
  refine xe_aload_n dL_law_692 rfl ?_
  refine xe_aload_n dL_law_693 rfl ?_
  refine xe_iload_n dL_law_694 rfl ?_
  refine xe_iconst dL_law_695 kc_1 ?_
  refine xn_iadd dL_law_696 ?_
  refine xe_sld dL_law_697 hX (by omega) (by omega) ?_
  refine xe_callV (d' := d2) (y' := mX10_warmBy) (b := 124) (ci := 10) (nb := 67) (as := [.int (xs (6 * i + 1))]) (rest := [.int v]) dL_law_698 mlL_91 mvX10_warmBy rfl (st124 hs1) (by decide) rfl (by omega) (by decide) (Nat.le_of_ble_eq_true rfl) C2 rfl (fun r2 h2 q2 => ?_)
  obtain ⟨rfl, R2⟩ := q2
  exact xe_icmp_eq (tgt := 1065) dL_law_701 rfl (fun _ => K h2 R2) (fun c => absurd rfl c)
theorem lw_c18 (l : Launch) (g : q_GP) (n : String) {LL : Nat} {xs : Nat → Int32} (hL : LL ≤ 3072) (hX : q_GX g LL xs) {i : Nat} (hi : 6 * i + 6 ≤ LL) {h : q_H} (hR : RR i h) {Q : Option Value → q_H → Prop} (K : ∀ h2, RR (i + 1) h2 → q_Ex l g 60 (mL n) 1065 [(0, .ref 1000000004), (1, .ref 0), (2, .ref 124), (3, .int (nI (6 * i)))] [] h2 Q) : q_Ex l g 60 (mL n) 706 [(0, .ref 1000000004), (1, .ref 0), (2, .ref 124), (3, .int (nI (6 * i)))] [] h Q := by
  obtain ⟨d1, Q1, hd1, C1, F⟩ := st_warm l g (show i ≤ 512 by omega) hR (xs (6 * i + 1))
  refine xe_aload_n dL_law_706 rfl ?_
  refine xe_aload_n dL_law_707 rfl ?_
  refine xe_iload_n dL_law_708 rfl ?_
  refine xe_iconst dL_law_709 kc_1 ?_
  refine xn_iadd dL_law_710 ?_
  refine xe_sld dL_law_711 hX (by omega) (by omega) ?_
  refine xe_callV (d' := d1) (y' := mX9_warm) (b := 0) (ci := 9) (nb := 15) (as := [.int (xs (6 * i + 1))]) (rest := []) dL_law_712 mlL_92 mvX9_warm rfl (st0 hR.1.1) (by decide) rfl (by omega) (by decide) (Nat.le_of_ble_eq_true rfl) C1 rfl (fun r1 h1 q1 => ?_)
  obtain ⟨v, d2, hd2, rfl, hs1, C2⟩ := F r1 h1 q1
  refine xe_aload_n dL_law_715 rfl ?_
  refine xe_aload_n dL_law_716 rfl ?_
  refine xe_iload_n dL_law_717 rfl ?_
  refine xe_iconst dL_law_718 kc_1 ?_
  refine xn_iadd dL_law_719 ?_
  refine xe_sld dL_law_720 hX (by omega) (by omega) ?_
  refine xe_callV (d' := d2) (y' := mX10_warm) (b := 124) (ci := 10) (nb := 67) (as := [.int (xs (6 * i + 1))]) (rest := [.int v]) dL_law_721 mlL_95 mvX10_warm rfl (st124 hs1) (by decide) rfl (by omega) (by decide) (Nat.le_of_ble_eq_true rfl) C2 rfl (fun r2 h2 q2 => ?_)
  obtain ⟨rfl, R2⟩ := q2
  exact xe_icmp_eq (tgt := 1065) dL_law_724 rfl (fun _ => K h2 R2) (fun c => absurd rfl c)
theorem lw_c19 (l : Launch) (g : q_GP) (n : String) {LL : Nat} {xs : Nat → Int32} (hL : LL ≤ 3072) (hX : q_GX g LL xs) {i : Nat} (hi : 6 * i + 6 ≤ LL) {h : q_H} (hR : RR i h) {Q : Option Value → q_H → Prop} (K : ∀ h2, RR (i + 1) h2 → q_Ex l g 60 (mL n) 1065 [(0, .ref 1000000004), (1, .ref 0), (2, .ref 124), (3, .int (nI (6 * i)))] [] h2 Q) : q_Ex l g 60 (mL n) 729 [(0, .ref 1000000004), (1, .ref 0), (2, .ref 124), (3, .int (nI (6 * i)))] [] h Q := by
  obtain ⟨d1, Q1, hd1, C1, F⟩ := st_quilt l g (show i ≤ 512 by omega) hR (xs (6 * i + 1)) (xs (6 * i + 2))
  refine xe_aload_n dL_law_729 rfl ?_
  refine xe_aload_n dL_law_730 rfl ?_
  refine xe_iload_n dL_law_731 rfl ?_
  refine xe_iconst dL_law_732 kc_1 ?_
  refine xn_iadd dL_law_733 ?_
  refine xe_sld dL_law_734 hX (by omega) (by omega) ?_
  refine xe_aload_n dL_law_735 rfl ?_
  refine xe_iload_n dL_law_736 rfl ?_
  refine xe_iconst dL_law_737 kc_2 ?_
  refine xn_iadd dL_law_738 ?_
  refine xe_sld dL_law_739 hX (by omega) (by omega) ?_
  refine xe_callV (d' := d1) (y' := mX9_quilt) (b := 0) (ci := 9) (nb := 15) (as := [.int (xs (6 * i + 1)), .int (xs (6 * i + 2))]) (rest := []) dL_law_740 mlL_96 mvX9_quilt rfl (st0 hR.1.1) (by decide) rfl (by omega) (by decide) (Nat.le_of_ble_eq_true rfl) C1 rfl (fun r1 h1 q1 => ?_)
  obtain ⟨v, d2, hd2, rfl, hs1, C2⟩ := F r1 h1 q1
  refine xe_aload_n dL_law_743 rfl ?_
  refine xe_aload_n dL_law_744 rfl ?_
  refine xe_iload_n dL_law_745 rfl ?_
  refine xe_iconst dL_law_746 kc_1 ?_
  refine xn_iadd dL_law_747 ?_
  refine xe_sld dL_law_748 hX (by omega) (by omega) ?_
  refine xe_aload_n dL_law_749 rfl ?_
  refine xe_iload_n dL_law_750 rfl ?_
  refine xe_iconst dL_law_751 kc_2 ?_
  refine xn_iadd dL_law_752 ?_
  refine xe_sld dL_law_753 hX (by omega) (by omega) ?_
  refine xe_callV (d' := d2) (y' := mX10_quilt) (b := 124) (ci := 10) (nb := 67) (as := [.int (xs (6 * i + 1)), .int (xs (6 * i + 2))]) (rest := [.int v]) dL_law_754 mlL_99 mvX10_quilt rfl (st124 hs1) (by decide) rfl (by omega) (by decide) (Nat.le_of_ble_eq_true rfl) C2 rfl (fun r2 h2 q2 => ?_)
  obtain ⟨rfl, R2⟩ := q2
  exact xe_icmp_eq (tgt := 1065) dL_law_757 rfl (fun _ => K h2 R2) (fun c => absurd rfl c)
theorem lw_c20 (l : Launch) (g : q_GP) (n : String) {LL : Nat} {xs : Nat → Int32} (hL : LL ≤ 3072) (hX : q_GX g LL xs) {i : Nat} (hi : 6 * i + 6 ≤ LL) {h : q_H} (hR : RR i h) {Q : Option Value → q_H → Prop} (K : ∀ h2, RR (i + 1) h2 → q_Ex l g 60 (mL n) 1065 [(0, .ref 1000000004), (1, .ref 0), (2, .ref 124), (3, .int (nI (6 * i)))] [] h2 Q) : q_Ex l g 60 (mL n) 762 [(0, .ref 1000000004), (1, .ref 0), (2, .ref 124), (3, .int (nI (6 * i)))] [] h Q := by
  obtain ⟨d1, Q1, hd1, C1, F⟩ := st_quiltOf l g (show i ≤ 512 by omega) hR (xs (6 * i + 1)) (xs (6 * i + 2))
  refine xe_aload_n dL_law_762 rfl ?_
  refine xe_aload_n dL_law_763 rfl ?_
  refine xe_iload_n dL_law_764 rfl ?_
  refine xe_iconst dL_law_765 kc_1 ?_
  refine xn_iadd dL_law_766 ?_
  refine xe_sld dL_law_767 hX (by omega) (by omega) ?_
  refine xe_aload_n dL_law_768 rfl ?_
  refine xe_iload_n dL_law_769 rfl ?_
  refine xe_iconst dL_law_770 kc_2 ?_
  refine xn_iadd dL_law_771 ?_
  refine xe_sld dL_law_772 hX (by omega) (by omega) ?_
  refine xe_callV (d' := d1) (y' := mX9_quiltOf) (b := 0) (ci := 9) (nb := 15) (as := [.int (xs (6 * i + 1)), .int (xs (6 * i + 2))]) (rest := []) dL_law_773 mlL_100 mvX9_quiltOf rfl (st0 hR.1.1) (by decide) rfl (by omega) (by decide) (Nat.le_of_ble_eq_true rfl) C1 rfl (fun r1 h1 q1 => ?_)
  obtain ⟨v, d2, hd2, rfl, hs1, C2⟩ := F r1 h1 q1
  refine xe_aload_n dL_law_776 rfl ?_
  refine xe_aload_n dL_law_777 rfl ?_
  refine xe_iload_n dL_law_778 rfl ?_
  refine xe_iconst dL_law_779 kc_1 ?_
  refine xn_iadd dL_law_780 ?_
  refine xe_sld dL_law_781 hX (by omega) (by omega) ?_
  refine xe_aload_n dL_law_782 rfl ?_
  refine xe_iload_n dL_law_783 rfl ?_
  refine xe_iconst dL_law_784 kc_2 ?_
  refine xn_iadd dL_law_785 ?_
  refine xe_sld dL_law_786 hX (by omega) (by omega) ?_
  refine xe_callV (d' := d2) (y' := mX10_quiltOf) (b := 124) (ci := 10) (nb := 67) (as := [.int (xs (6 * i + 1)), .int (xs (6 * i + 2))]) (rest := [.int v]) dL_law_787 mlL_103 mvX10_quiltOf rfl (st124 hs1) (by decide) rfl (by omega) (by decide) (Nat.le_of_ble_eq_true rfl) C2 rfl (fun r2 h2 q2 => ?_)
  obtain ⟨rfl, R2⟩ := q2
  exact xe_icmp_eq (tgt := 1065) dL_law_790 rfl (fun _ => K h2 R2) (fun c => absurd rfl c)
theorem lw_c21 (l : Launch) (g : q_GP) (n : String) {LL : Nat} {xs : Nat → Int32} (hL : LL ≤ 3072) (hX : q_GX g LL xs) {i : Nat} (hi : 6 * i + 6 ≤ LL) {h : q_H} (hR : RR i h) {Q : Option Value → q_H → Prop} (K : ∀ h2, RR (i + 1) h2 → q_Ex l g 60 (mL n) 1065 [(0, .ref 1000000004), (1, .ref 0), (2, .ref 124), (3, .int (nI (6 * i)))] [] h2 Q) : q_Ex l g 60 (mL n) 795 [(0, .ref 1000000004), (1, .ref 0), (2, .ref 124), (3, .int (nI (6 * i)))] [] h Q := by
  obtain ⟨d1, Q1, hd1, C1, F⟩ := st_elected l g (show i ≤ 512 by omega) hR (xs (6 * i + 1))
  refine xe_aload_n dL_law_795 rfl ?_
  refine xe_aload_n dL_law_796 rfl ?_
  refine xe_iload_n dL_law_797 rfl ?_
  refine xe_iconst dL_law_798 kc_1 ?_
  refine xn_iadd dL_law_799 ?_
  refine xe_sld dL_law_800 hX (by omega) (by omega) ?_
  refine xe_callV (d' := d1) (y' := mX9_elected) (b := 0) (ci := 9) (nb := 15) (as := [.int (xs (6 * i + 1))]) (rest := []) dL_law_801 mlL_104 mvX9_elected rfl (st0 hR.1.1) (by decide) rfl (by omega) (by decide) (Nat.le_of_ble_eq_true rfl) C1 rfl (fun r1 h1 q1 => ?_)
  obtain ⟨v, d2, hd2, rfl, hs1, C2⟩ := F r1 h1 q1
  refine xe_aload_n dL_law_804 rfl ?_
  refine xe_aload_n dL_law_805 rfl ?_
  refine xe_iload_n dL_law_806 rfl ?_
  refine xe_iconst dL_law_807 kc_1 ?_
  refine xn_iadd dL_law_808 ?_
  refine xe_sld dL_law_809 hX (by omega) (by omega) ?_
  refine xe_callV (d' := d2) (y' := mX10_elected) (b := 124) (ci := 10) (nb := 67) (as := [.int (xs (6 * i + 1))]) (rest := [.int v]) dL_law_810 mlL_107 mvX10_elected rfl (st124 hs1) (by decide) rfl (by omega) (by decide) (Nat.le_of_ble_eq_true rfl) C2 rfl (fun r2 h2 q2 => ?_)
  obtain ⟨rfl, R2⟩ := q2
  exact xe_icmp_eq (tgt := 1065) dL_law_813 rfl (fun _ => K h2 R2) (fun c => absurd rfl c)
theorem lw_c22 (l : Launch) (g : q_GP) (n : String) {LL : Nat} {xs : Nat → Int32} (hL : LL ≤ 3072) (hX : q_GX g LL xs) {i : Nat} (hi : 6 * i + 6 ≤ LL) {h : q_H} (hR : RR i h) {Q : Option Value → q_H → Prop} (K : ∀ h2, RR (i + 1) h2 → q_Ex l g 60 (mL n) 1065 [(0, .ref 1000000004), (1, .ref 0), (2, .ref 124), (3, .int (nI (6 * i)))] [] h2 Q) : q_Ex l g 60 (mL n) 818 [(0, .ref 1000000004), (1, .ref 0), (2, .ref 124), (3, .int (nI (6 * i)))] [] h Q := by
  obtain ⟨d1, Q1, hd1, C1, F⟩ := st_bald l g (show i ≤ 512 by omega) hR (xs (6 * i + 1))
  refine xe_aload_n dL_law_818 rfl ?_
  refine xe_aload_n dL_law_819 rfl ?_
  refine xe_iload_n dL_law_820 rfl ?_
  refine xe_iconst dL_law_821 kc_1 ?_
  refine xn_iadd dL_law_822 ?_
  refine xe_sld dL_law_823 hX (by omega) (by omega) ?_
  refine xe_callV (d' := d1) (y' := mX9_bald) (b := 0) (ci := 9) (nb := 15) (as := [.int (xs (6 * i + 1))]) (rest := []) dL_law_824 mlL_108 mvX9_bald rfl (st0 hR.1.1) (by decide) rfl (by omega) (by decide) (Nat.le_of_ble_eq_true rfl) C1 rfl (fun r1 h1 q1 => ?_)
  obtain ⟨v, d2, hd2, rfl, hs1, C2⟩ := F r1 h1 q1
  refine xe_aload_n dL_law_827 rfl ?_
  refine xe_aload_n dL_law_828 rfl ?_
  refine xe_iload_n dL_law_829 rfl ?_
  refine xe_iconst dL_law_830 kc_1 ?_
  refine xn_iadd dL_law_831 ?_
  refine xe_sld dL_law_832 hX (by omega) (by omega) ?_
  refine xe_callV (d' := d2) (y' := mX10_bald) (b := 124) (ci := 10) (nb := 67) (as := [.int (xs (6 * i + 1))]) (rest := [.int v]) dL_law_833 mlL_111 mvX10_bald rfl (st124 hs1) (by decide) rfl (by omega) (by decide) (Nat.le_of_ble_eq_true rfl) C2 rfl (fun r2 h2 q2 => ?_)
  obtain ⟨rfl, R2⟩ := q2
  exact xe_icmp_eq (tgt := 1065) dL_law_836 rfl (fun _ => K h2 R2) (fun c => absurd rfl c)
theorem lw_c23 (l : Launch) (g : q_GP) (n : String) {LL : Nat} {xs : Nat → Int32} (hL : LL ≤ 3072) (hX : q_GX g LL xs) {i : Nat} (hi : 6 * i + 6 ≤ LL) {h : q_H} (hR : RR i h) {Q : Option Value → q_H → Prop} (K : ∀ h2, RR (i + 1) h2 → q_Ex l g 60 (mL n) 1065 [(0, .ref 1000000004), (1, .ref 0), (2, .ref 124), (3, .int (nI (6 * i)))] [] h2 Q) : q_Ex l g 60 (mL n) 841 [(0, .ref 1000000004), (1, .ref 0), (2, .ref 124), (3, .int (nI (6 * i)))] [] h Q := by
  obtain ⟨d1, Q1, hd1, C1, F⟩ := st_did l g (show i ≤ 512 by omega) hR (xs (6 * i + 1)) (xs (6 * i + 2))
  refine xe_aload_n dL_law_841 rfl ?_
  refine xe_aload_n dL_law_842 rfl ?_
  refine xe_iload_n dL_law_843 rfl ?_
  refine xe_iconst dL_law_844 kc_1 ?_
  refine xn_iadd dL_law_845 ?_
  refine xe_sld dL_law_846 hX (by omega) (by omega) ?_
  refine xe_aload_n dL_law_847 rfl ?_
  refine xe_iload_n dL_law_848 rfl ?_
  refine xe_iconst dL_law_849 kc_2 ?_
  refine xn_iadd dL_law_850 ?_
  refine xe_sld dL_law_851 hX (by omega) (by omega) ?_
  refine xe_callV (d' := d1) (y' := mX9_did) (b := 0) (ci := 9) (nb := 15) (as := [.int (xs (6 * i + 1)), .int (xs (6 * i + 2))]) (rest := []) dL_law_852 mlL_112 mvX9_did rfl (st0 hR.1.1) (by decide) rfl (by omega) (by decide) (Nat.le_of_ble_eq_true rfl) C1 rfl (fun r1 h1 q1 => ?_)
  obtain ⟨v, d2, hd2, rfl, hs1, C2⟩ := F r1 h1 q1
  refine xe_aload_n dL_law_855 rfl ?_
  refine xe_aload_n dL_law_856 rfl ?_
  refine xe_iload_n dL_law_857 rfl ?_
  refine xe_iconst dL_law_858 kc_1 ?_
  refine xn_iadd dL_law_859 ?_
  refine xe_sld dL_law_860 hX (by omega) (by omega) ?_
  refine xe_aload_n dL_law_861 rfl ?_
  refine xe_iload_n dL_law_862 rfl ?_
  refine xe_iconst dL_law_863 kc_2 ?_
  refine xn_iadd dL_law_864 ?_
  refine xe_sld dL_law_865 hX (by omega) (by omega) ?_
  refine xe_callV (d' := d2) (y' := mX10_did) (b := 124) (ci := 10) (nb := 67) (as := [.int (xs (6 * i + 1)), .int (xs (6 * i + 2))]) (rest := [.int v]) dL_law_866 mlL_115 mvX10_did rfl (st124 hs1) (by decide) rfl (by omega) (by decide) (Nat.le_of_ble_eq_true rfl) C2 rfl (fun r2 h2 q2 => ?_)
  obtain ⟨rfl, R2⟩ := q2
  exact xe_icmp_eq (tgt := 1065) dL_law_869 rfl (fun _ => K h2 R2) (fun c => absurd rfl c)
theorem lw_c24 (l : Launch) (g : q_GP) (n : String) {LL : Nat} {xs : Nat → Int32} (hL : LL ≤ 3072) (hX : q_GX g LL xs) {i : Nat} (hi : 6 * i + 6 ≤ LL) {h : q_H} (hR : RR i h) {Q : Option Value → q_H → Prop} (K : ∀ h2, RR (i + 1) h2 → q_Ex l g 60 (mL n) 1065 [(0, .ref 1000000004), (1, .ref 0), (2, .ref 124), (3, .int (nI (6 * i)))] [] h2 Q) : q_Ex l g 60 (mL n) 874 [(0, .ref 1000000004), (1, .ref 0), (2, .ref 124), (3, .int (nI (6 * i)))] [] h Q := by
  obtain ⟨d1, Q1, hd1, C1, F⟩ := st_surely l g (show i ≤ 512 by omega) hR (xs (6 * i + 1)) (xs (6 * i + 2))
  refine xe_aload_n dL_law_874 rfl ?_
  refine xe_aload_n dL_law_875 rfl ?_
  refine xe_iload_n dL_law_876 rfl ?_
  refine xe_iconst dL_law_877 kc_1 ?_
  refine xn_iadd dL_law_878 ?_
  refine xe_sld dL_law_879 hX (by omega) (by omega) ?_
  refine xe_aload_n dL_law_880 rfl ?_
  refine xe_iload_n dL_law_881 rfl ?_
  refine xe_iconst dL_law_882 kc_2 ?_
  refine xn_iadd dL_law_883 ?_
  refine xe_sld dL_law_884 hX (by omega) (by omega) ?_
  refine xe_callV (d' := d1) (y' := mX9_surely) (b := 0) (ci := 9) (nb := 15) (as := [.int (xs (6 * i + 1)), .int (xs (6 * i + 2))]) (rest := []) dL_law_885 mlL_116 mvX9_surely rfl (st0 hR.1.1) (by decide) rfl (by omega) (by decide) (Nat.le_of_ble_eq_true rfl) C1 rfl (fun r1 h1 q1 => ?_)
  obtain ⟨v, d2, hd2, rfl, hs1, C2⟩ := F r1 h1 q1
  refine xe_aload_n dL_law_888 rfl ?_
  refine xe_aload_n dL_law_889 rfl ?_
  refine xe_iload_n dL_law_890 rfl ?_
  refine xe_iconst dL_law_891 kc_1 ?_
  refine xn_iadd dL_law_892 ?_
  refine xe_sld dL_law_893 hX (by omega) (by omega) ?_
  refine xe_aload_n dL_law_894 rfl ?_
  refine xe_iload_n dL_law_895 rfl ?_
  refine xe_iconst dL_law_896 kc_2 ?_
  refine xn_iadd dL_law_897 ?_
  refine xe_sld dL_law_898 hX (by omega) (by omega) ?_
  refine xe_callV (d' := d2) (y' := mX10_surely) (b := 124) (ci := 10) (nb := 67) (as := [.int (xs (6 * i + 1)), .int (xs (6 * i + 2))]) (rest := [.int v]) dL_law_899 mlL_119 mvX10_surely rfl (st124 hs1) (by decide) rfl (by omega) (by decide) (Nat.le_of_ble_eq_true rfl) C2 rfl (fun r2 h2 q2 => ?_)
  obtain ⟨rfl, R2⟩ := q2
  exact xe_icmp_eq (tgt := 1065) dL_law_902 rfl (fun _ => K h2 R2) (fun c => absurd rfl c)
theorem lw_c25 (l : Launch) (g : q_GP) (n : String) {LL : Nat} {xs : Nat → Int32} (hL : LL ≤ 3072) (hX : q_GX g LL xs) {i : Nat} (hi : 6 * i + 6 ≤ LL) {h : q_H} (hR : RR i h) {Q : Option Value → q_H → Prop} (K : ∀ h2, RR (i + 1) h2 → q_Ex l g 60 (mL n) 1065 [(0, .ref 1000000004), (1, .ref 0), (2, .ref 124), (3, .int (nI (6 * i)))] [] h2 Q) : q_Ex l g 60 (mL n) 907 [(0, .ref 1000000004), (1, .ref 0), (2, .ref 124), (3, .int (nI (6 * i)))] [] h Q := by
  obtain ⟨d1, Q1, hd1, C1, F⟩ := st_tell l g (show i ≤ 512 by omega) hR (xs (6 * i + 1)) (xs (6 * i + 2))
  refine xe_aload_n dL_law_907 rfl ?_
  refine xe_aload_n dL_law_908 rfl ?_
  refine xe_iload_n dL_law_909 rfl ?_
  refine xe_iconst dL_law_910 kc_1 ?_
  refine xn_iadd dL_law_911 ?_
  refine xe_sld dL_law_912 hX (by omega) (by omega) ?_
  refine xe_aload_n dL_law_913 rfl ?_
  refine xe_iload_n dL_law_914 rfl ?_
  refine xe_iconst dL_law_915 kc_2 ?_
  refine xn_iadd dL_law_916 ?_
  refine xe_sld dL_law_917 hX (by omega) (by omega) ?_
  refine xe_callV (d' := d1) (y' := mX9_tell) (b := 0) (ci := 9) (nb := 15) (as := [.int (xs (6 * i + 1)), .int (xs (6 * i + 2))]) (rest := []) dL_law_918 mlL_120 mvX9_tell rfl (st0 hR.1.1) (by decide) rfl (by omega) (by decide) (Nat.le_of_ble_eq_true rfl) C1 rfl (fun r1 h1 q1 => ?_)
  obtain ⟨v, d2, hd2, rfl, hs1, C2⟩ := F r1 h1 q1
  refine xe_aload_n dL_law_921 rfl ?_
  refine xe_aload_n dL_law_922 rfl ?_
  refine xe_iload_n dL_law_923 rfl ?_
  refine xe_iconst dL_law_924 kc_1 ?_
  refine xn_iadd dL_law_925 ?_
  refine xe_sld dL_law_926 hX (by omega) (by omega) ?_
  refine xe_aload_n dL_law_927 rfl ?_
  refine xe_iload_n dL_law_928 rfl ?_
  refine xe_iconst dL_law_929 kc_2 ?_
  refine xn_iadd dL_law_930 ?_
  refine xe_sld dL_law_931 hX (by omega) (by omega) ?_
  refine xe_callV (d' := d2) (y' := mX10_tell_) (b := 124) (ci := 10) (nb := 67) (as := [.int (xs (6 * i + 1)), .int (xs (6 * i + 2))]) (rest := [.int v]) dL_law_932 mlL_123 mvX10_tell_ rfl (st124 hs1) (by decide) rfl (by omega) (by decide) (Nat.le_of_ble_eq_true rfl) C2 rfl (fun r2 h2 q2 => ?_)
  obtain ⟨rfl, R2⟩ := q2
  exact xe_icmp_eq (tgt := 1065) dL_law_935 rfl (fun _ => K h2 R2) (fun c => absurd rfl c)
theorem lw_c26 (l : Launch) (g : q_GP) (n : String) {LL : Nat} {xs : Nat → Int32} (hL : LL ≤ 3072) (hX : q_GX g LL xs) {i : Nat} (hi : 6 * i + 6 ≤ LL) {h : q_H} (hR : RR i h) {Q : Option Value → q_H → Prop} (K : ∀ h2, RR (i + 1) h2 → q_Ex l g 60 (mL n) 1065 [(0, .ref 1000000004), (1, .ref 0), (2, .ref 124), (3, .int (nI (6 * i)))] [] h2 Q) : q_Ex l g 60 (mL n) 940 [(0, .ref 1000000004), (1, .ref 0), (2, .ref 124), (3, .int (nI (6 * i)))] [] h Q := by
  obtain ⟨d1, Q1, hd1, C1, F⟩ := st_forget l g (show i ≤ 512 by omega) hR
  refine xe_aload_n dL_law_940 rfl ?_
  refine xe_callV (d' := d1) (y' := mX9_forget) (b := 0) (ci := 9) (nb := 15) (as := []) (rest := []) dL_law_941 mlL_124 mvX9_forget rfl (st0 hR.1.1) (by decide) rfl (by omega) (by decide) (Nat.le_of_ble_eq_true rfl) C1 rfl (fun r1 h1 q1 => ?_)
  obtain ⟨v, d2, hd2, rfl, hs1, C2⟩ := F r1 h1 q1
  refine xe_aload_n dL_law_944 rfl ?_
  refine xe_callV (d' := d2) (y' := mX10_forget) (b := 124) (ci := 10) (nb := 67) (as := []) (rest := [.int v]) dL_law_945 mlL_127 mvX10_forget rfl (st124 hs1) (by decide) rfl (by omega) (by decide) (Nat.le_of_ble_eq_true rfl) C2 rfl (fun r2 h2 q2 => ?_)
  obtain ⟨rfl, R2⟩ := q2
  exact xe_icmp_eq (tgt := 1065) dL_law_948 rfl (fun _ => K h2 R2) (fun c => absurd rfl c)
theorem lw_c27 (l : Launch) (g : q_GP) (n : String) {LL : Nat} {xs : Nat → Int32} (hL : LL ≤ 3072) (hX : q_GX g LL xs) {i : Nat} (hi : 6 * i + 6 ≤ LL) {h : q_H} (hR : RR i h) {Q : Option Value → q_H → Prop} (K : ∀ h2, RR (i + 1) h2 → q_Ex l g 60 (mL n) 1065 [(0, .ref 1000000004), (1, .ref 0), (2, .ref 124), (3, .int (nI (6 * i)))] [] h2 Q) : q_Ex l g 60 (mL n) 953 [(0, .ref 1000000004), (1, .ref 0), (2, .ref 124), (3, .int (nI (6 * i)))] [] h Q := by
  obtain ⟨d1, Q1, hd1, C1, F⟩ := st_stuffer l g (show i ≤ 512 by omega) hR (xs (6 * i + 1)) (xs (6 * i + 2)) (xs (6 * i + 3))
  refine xe_aload_n dL_law_953 rfl ?_
  refine xe_aload_n dL_law_954 rfl ?_
  refine xe_iload_n dL_law_955 rfl ?_
  refine xe_iconst dL_law_956 kc_1 ?_
  refine xn_iadd dL_law_957 ?_
  refine xe_sld dL_law_958 hX (by omega) (by omega) ?_
  refine xe_aload_n dL_law_959 rfl ?_
  refine xe_iload_n dL_law_960 rfl ?_
  refine xe_iconst dL_law_961 kc_2 ?_
  refine xn_iadd dL_law_962 ?_
  refine xe_sld dL_law_963 hX (by omega) (by omega) ?_
  refine xe_aload_n dL_law_964 rfl ?_
  refine xe_iload_n dL_law_965 rfl ?_
  refine xe_iconst dL_law_966 kc_3 ?_
  refine xn_iadd dL_law_967 ?_
  refine xe_sld dL_law_968 hX (by omega) (by omega) ?_
  refine xe_callV (d' := d1) (y' := mX9_stuffer) (b := 0) (ci := 9) (nb := 15) (as := [.int (xs (6 * i + 1)), .int (xs (6 * i + 2)), .int (xs (6 * i + 3))]) (rest := []) dL_law_969 mlL_128 mvX9_stuffer rfl (st0 hR.1.1) (by decide) rfl (by omega) (by decide) (Nat.le_of_ble_eq_true rfl) C1 rfl (fun r1 h1 q1 => ?_)
  obtain ⟨v, d2, hd2, rfl, hs1, C2⟩ := F r1 h1 q1
  refine xe_aload_n dL_law_972 rfl ?_
  refine xe_aload_n dL_law_973 rfl ?_
  refine xe_iload_n dL_law_974 rfl ?_
  refine xe_iconst dL_law_975 kc_1 ?_
  refine xn_iadd dL_law_976 ?_
  refine xe_sld dL_law_977 hX (by omega) (by omega) ?_
  refine xe_aload_n dL_law_978 rfl ?_
  refine xe_iload_n dL_law_979 rfl ?_
  refine xe_iconst dL_law_980 kc_2 ?_
  refine xn_iadd dL_law_981 ?_
  refine xe_sld dL_law_982 hX (by omega) (by omega) ?_
  refine xe_aload_n dL_law_983 rfl ?_
  refine xe_iload_n dL_law_984 rfl ?_
  refine xe_iconst dL_law_985 kc_3 ?_
  refine xn_iadd dL_law_986 ?_
  refine xe_sld dL_law_987 hX (by omega) (by omega) ?_
  refine xe_callV (d' := d2) (y' := mX10_stuffer) (b := 124) (ci := 10) (nb := 67) (as := [.int (xs (6 * i + 1)), .int (xs (6 * i + 2)), .int (xs (6 * i + 3))]) (rest := [.int v]) dL_law_988 mlL_131 mvX10_stuffer rfl (st124 hs1) (by decide) rfl (by omega) (by decide) (Nat.le_of_ble_eq_true rfl) C2 rfl (fun r2 h2 q2 => ?_)
  obtain ⟨rfl, R2⟩ := q2
  exact xe_icmp_eq (tgt := 1065) dL_law_991 rfl (fun _ => K h2 R2) (fun c => absurd rfl c)
theorem lw_c28 (l : Launch) (g : q_GP) (n : String) {LL : Nat} {xs : Nat → Int32} (hL : LL ≤ 3072) (hX : q_GX g LL xs) {i : Nat} (hi : 6 * i + 6 ≤ LL) {h : q_H} (hR : RR i h) {Q : Option Value → q_H → Prop} (K : ∀ h2, RR (i + 1) h2 → q_Ex l g 60 (mL n) 1065 [(0, .ref 1000000004), (1, .ref 0), (2, .ref 124), (3, .int (nI (6 * i)))] [] h2 Q) : q_Ex l g 60 (mL n) 996 [(0, .ref 1000000004), (1, .ref 0), (2, .ref 124), (3, .int (nI (6 * i)))] [] h Q := by
  obtain ⟨d1, Q1, hd1, C1, F⟩ := st_hold l g (show i ≤ 512 by omega) hR hX (xs (6 * i + 1))
  refine xe_aload_n dL_law_996 rfl ?_
  refine xe_aload_n dL_law_997 rfl ?_
  refine xe_iload_n dL_law_998 rfl ?_
  refine xe_iconst dL_law_999 kc_1 ?_
  refine xn_iadd dL_law_1000 ?_
  refine xe_sld dL_law_1001 hX (by omega) (by omega) ?_
  refine xe_callV (d' := d1) (y' := mX9_hold) (b := 0) (ci := 9) (nb := 15) (as := [.int (xs (6 * i + 1))]) (rest := []) dL_law_1002 mlL_132 mvX9_hold rfl (st0 hR.1.1) (by decide) rfl (by omega) (by decide) (Nat.le_of_ble_eq_true rfl) C1 rfl (fun r1 h1 q1 => ?_)
  obtain ⟨v, d2, hd2, rfl, hs1, C2⟩ := F r1 h1 q1
  refine xe_aload_n dL_law_1005 rfl ?_
  refine xe_aload_n dL_law_1006 rfl ?_
  refine xe_iload_n dL_law_1007 rfl ?_
  refine xe_iconst dL_law_1008 kc_1 ?_
  refine xn_iadd dL_law_1009 ?_
  refine xe_sld dL_law_1010 hX (by omega) (by omega) ?_
  refine xe_callV (d' := d2) (y' := mX10_hold) (b := 124) (ci := 10) (nb := 67) (as := [.int (xs (6 * i + 1))]) (rest := [.int v]) dL_law_1011 mlL_136 mvX10_hold rfl (st124 hs1) (by decide) rfl (by omega) (by decide) (Nat.le_of_ble_eq_true rfl) C2 rfl (fun r2 h2 q2 => ?_)
  obtain ⟨rfl, R2⟩ := q2
  exact xe_icmp_eq (tgt := 1065) dL_law_1014 rfl (fun _ => K h2 R2) (fun c => absurd rfl c)
theorem lw_c29 (l : Launch) (g : q_GP) (n : String) {LL : Nat} {xs : Nat → Int32} (hL : LL ≤ 3072) (hX : q_GX g LL xs) {i : Nat} (hi : 6 * i + 6 ≤ LL) {h : q_H} (hR : RR i h) {Q : Option Value → q_H → Prop} (K : ∀ h2, RR (i + 1) h2 → q_Ex l g 60 (mL n) 1065 [(0, .ref 1000000004), (1, .ref 0), (2, .ref 124), (3, .int (nI (6 * i)))] [] h2 Q) : q_Ex l g 60 (mL n) 1019 [(0, .ref 1000000004), (1, .ref 0), (2, .ref 124), (3, .int (nI (6 * i)))] [] h Q := by
  obtain ⟨d1, Q1, hd1, C1, F⟩ := st_restore l g (show i ≤ 512 by omega) hR (xs (6 * i + 1))
  refine xe_aload_n dL_law_1019 rfl ?_
  refine xe_aload_n dL_law_1020 rfl ?_
  refine xe_iload_n dL_law_1021 rfl ?_
  refine xe_iconst dL_law_1022 kc_1 ?_
  refine xn_iadd dL_law_1023 ?_
  refine xe_sld dL_law_1024 hX (by omega) (by omega) ?_
  refine xe_callV (d' := d1) (y' := mX9_restore) (b := 0) (ci := 9) (nb := 15) (as := [.int (xs (6 * i + 1))]) (rest := []) dL_law_1025 mlL_137 mvX9_restore rfl (st0 hR.1.1) (by decide) rfl (by omega) (by decide) (Nat.le_of_ble_eq_true rfl) C1 rfl (fun r1 h1 q1 => ?_)
  obtain ⟨v, d2, hd2, rfl, hs1, C2⟩ := F r1 h1 q1
  refine xe_aload_n dL_law_1028 rfl ?_
  refine xe_aload_n dL_law_1029 rfl ?_
  refine xe_iload_n dL_law_1030 rfl ?_
  refine xe_iconst dL_law_1031 kc_1 ?_
  refine xn_iadd dL_law_1032 ?_
  refine xe_sld dL_law_1033 hX (by omega) (by omega) ?_
  refine xe_callV (d' := d2) (y' := mX10_restore) (b := 124) (ci := 10) (nb := 67) (as := [.int (xs (6 * i + 1))]) (rest := [.int v]) dL_law_1034 mlL_140 mvX10_restore rfl (st124 hs1) (by decide) rfl (by omega) (by decide) (Nat.le_of_ble_eq_true rfl) C2 rfl (fun r2 h2 q2 => ?_)
  obtain ⟨rfl, R2⟩ := q2
  exact xe_icmp_eq (tgt := 1065) dL_law_1037 rfl (fun _ => K h2 R2) (fun c => absurd rfl c)
theorem lw_c30 (l : Launch) (g : q_GP) (n : String) {LL : Nat} {xs : Nat → Int32} (hL : LL ≤ 3072) (hX : q_GX g LL xs) {i : Nat} (hi : 6 * i + 6 ≤ LL) {h : q_H} (hR : RR i h) {Q : Option Value → q_H → Prop} (K : ∀ h2, RR (i + 1) h2 → q_Ex l g 60 (mL n) 1065 [(0, .ref 1000000004), (1, .ref 0), (2, .ref 124), (3, .int (nI (6 * i)))] [] h2 Q) : q_Ex l g 60 (mL n) 1042 [(0, .ref 1000000004), (1, .ref 0), (2, .ref 124), (3, .int (nI (6 * i)))] [] h Q := by
  obtain ⟨d1, Q1, hd1, C1, F⟩ := st_count l g (show i ≤ 512 by omega) hR (xs (6 * i + 1))
  refine xe_aload_n dL_law_1042 rfl ?_
  refine xe_aload_n dL_law_1043 rfl ?_
  refine xe_iload_n dL_law_1044 rfl ?_
  refine xe_iconst dL_law_1045 kc_1 ?_
  refine xn_iadd dL_law_1046 ?_
  refine xe_sld dL_law_1047 hX (by omega) (by omega) ?_
  refine xe_callV (d' := d1) (y' := mX9_count) (b := 0) (ci := 9) (nb := 15) (as := [.int (xs (6 * i + 1))]) (rest := []) dL_law_1048 mlL_141 mvX9_count rfl (st0 hR.1.1) (by decide) rfl (by omega) (by decide) (Nat.le_of_ble_eq_true rfl) C1 rfl (fun r1 h1 q1 => ?_)
  obtain ⟨v, d2, hd2, rfl, hs1, C2⟩ := F r1 h1 q1
  refine xe_aload_n dL_law_1051 rfl ?_
  refine xe_aload_n dL_law_1052 rfl ?_
  refine xe_iload_n dL_law_1053 rfl ?_
  refine xe_iconst dL_law_1054 kc_1 ?_
  refine xn_iadd dL_law_1055 ?_
  refine xe_sld dL_law_1056 hX (by omega) (by omega) ?_
  refine xe_callV (d' := d2) (y' := mX10_count) (b := 124) (ci := 10) (nb := 67) (as := [.int (xs (6 * i + 1))]) (rest := [.int v]) dL_law_1057 mlL_144 mvX10_count rfl (st124 hs1) (by decide) rfl (by omega) (by decide) (Nat.le_of_ble_eq_true rfl) C2 rfl (fun r2 h2 q2 => ?_)
  obtain ⟨rfl, R2⟩ := q2
  exact xe_icmp_eq (tgt := 1065) dL_law_1060 rfl (fun _ => K h2 R2) (fun c => absurd rfl c)
