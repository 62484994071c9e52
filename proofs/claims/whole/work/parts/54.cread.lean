/-! the class: steps of programs, the tokens of its reader -/
/-- the class's number of a kind of token (but of what is none) -/
def q_kn (k : Nat) : Nat := if k < 3 then k else if k = 4 then 59 else if k = 5 then 61 else if k = 6 then 40 else if k = 7 then 41 else if k = 8 then 43 else if k = 9 then 45 else if k = 10 then 42 else if k = 13 then 60 else if k = 15 then 47 else k + 236
def q_kap (k : Nat) : Int32 := if k = 3 then -1 else nI (q_kn k)
def tk_ok (k : Nat) : Bool := k < 37 && !(k == 11 || k == 12 || k == 14 || k == 16 || k == 17 || k == 18 || k == 19)
theorem q_kap_all : ∀ a : Fin 37, ∀ b : Fin 37, tk_ok a.1 = true → tk_ok b.1 = true → ¬ b.1 = 3 → q_kap a.1 = nI (q_kn b.1) → a = b := by decide +kernel
theorem tk_lt {k : Nat} (h : tk_ok k = true) : k < 37 := by
  unfold tk_ok at h
  simp only [Bool.and_eq_true, decide_eq_true_eq] at h
  exact h.1
theorem q_kap_inj {a b : Nat} (ha : tk_ok a = true) (hb : tk_ok b = true) (h3 : ¬ b = 3) (e : q_kap a = nI (q_kn b)) : a = b := congrArg Fin.val (q_kap_all ⟨a, tk_lt ha⟩ ⟨b, tk_lt hb⟩ ha hb h3 e)
theorem q_kap_n {a : Nat} (h3 : ¬ a = 3) : q_kap a = nI (q_kn a) := if_neg h3
theorem q_kn_lt {a : Nat} (h : a < 37) : q_kn a < 1000 := by
  unfold q_kn
  repeat (first | split | omega)
/-- letters as one number of five bits each -/
def q_f5 : Nat → List Nat → Nat
  | a, [] => a
  | a, c :: l => q_f5 (a * 32 + c) l
def q_n5 (l : List Nat) : Nat := q_f5 0 l
def q_e5 (l : List Nat) : Int64 := Int64.ofNat (q_n5 l)
/-- a name: 1 .. 8 letters -/
def nm_ok (l : List Nat) : Prop := l.length ≤ 8 ∧ ∀ c ∈ l, 1 ≤ c ∧ c ≤ 26
theorem q_f5_lt : ∀ (l : List Nat) (a : Nat), (∀ c ∈ l, 1 ≤ c ∧ c ≤ 26) → q_f5 a l < (a + 1) * 32 ^ l.length
  | [], a, _ => by
    show a < (a + 1) * 1
    omega
  | c :: l, a, h => by
    have h1 := h c List.mem_cons_self
    have ih := q_f5_lt l (a * 32 + c) (fun x hx => h x (List.mem_cons_of_mem _ hx))
    have e : 32 ^ (c :: l).length = 32 * 32 ^ l.length := by
      rw [List.length_cons, Nat.pow_succ, Nat.mul_comm]
    show q_f5 (a * 32 + c) l < (a + 1) * 32 ^ (c :: l).length
    rw [e, ← Nat.mul_assoc]
    refine Nat.lt_of_lt_of_le ih (Nat.mul_le_mul_right _ ?_)
    omega
theorem q_n5_lt {l : List Nat} (h : nm_ok l) : q_n5 l < 2 ^ 40 := by
  have h1 := q_f5_lt l 0 h.2
  have h2 : (32 : Nat) ^ l.length ≤ 32 ^ 8 := Nat.pow_le_pow_right (by decide) h.1
  have h3 : (32 : Nat) ^ 8 = 2 ^ 40 := by decide
  unfold q_n5
  omega
theorem q_f5_app (l : List Nat) (c : Nat) : ∀ a, q_f5 a (l ++ [c]) = q_f5 a l * 32 + c := by
  induction l with
  | nil => intro a; rfl
  | cons x l ih => intro a; exact ih (a * 32 + x)
theorem q_snoc_or {α : Type} : ∀ l : List α, l = [] ∨ ∃ i x, l = i ++ [x]
  | [] => .inl rfl
  | y :: l => by
    rcases q_snoc_or l with rfl | ⟨i, x, rfl⟩
    · exact .inr ⟨[], y, rfl⟩
    · exact .inr ⟨y :: i, x, rfl⟩
theorem q_n5_inj : ∀ (n : Nat) (a b : List Nat), a.length ≤ n → (∀ c ∈ a, 1 ≤ c ∧ c ≤ 26) → (∀ c ∈ b, 1 ≤ c ∧ c ≤ 26) → q_n5 a = q_n5 b → a = b := by
  intro n
  induction n with
  | zero =>
    intro a b ha h1 h2 e
    have : a = [] := List.length_eq_zero_iff.mp (by omega)
    subst this
    rcases q_snoc_or b with rfl | ⟨i, x, rfl⟩
    · rfl
    · have e2 : (0 : Nat) = q_f5 0 i * 32 + x := (show q_n5 [] = q_n5 (i ++ [x]) from e).trans (q_f5_app i x 0)
      have := h2 x (by simp)
      omega
  | succ n ih =>
    intro a b ha h1 h2 e
    rcases q_snoc_or a with rfl | ⟨i, x, rfl⟩
    · rcases q_snoc_or b with rfl | ⟨j, y, rfl⟩
      · rfl
      · have e2 : (0 : Nat) = q_f5 0 j * 32 + y := (show q_n5 [] = q_n5 (j ++ [y]) from e).trans (q_f5_app j y 0)
        have := h2 y (by simp)
        omega
    · have hx := h1 x (by simp)
      rcases q_snoc_or b with rfl | ⟨j, y, rfl⟩
      · have e2 : q_f5 0 i * 32 + x = (0 : Nat) := (q_f5_app i x 0).symm.trans (show q_n5 (i ++ [x]) = q_n5 [] from e)
        omega
      · have hy := h2 y (by simp)
        have e2 : q_f5 0 i * 32 + x = q_f5 0 j * 32 + y := ((q_f5_app i x 0).symm.trans e).trans (q_f5_app j y 0)
        have e3 : q_n5 i = q_n5 j := by
          show q_f5 0 i = q_f5 0 j
          omega
        have e4 : x = y := by
          have : q_f5 0 i = q_f5 0 j := e3
          omega
        rw [List.length_append] at ha
        have ha : i.length + 1 ≤ n + 1 := ha
        rw [ih i j (by omega) (fun c hc => h1 c (by simp [hc])) (fun c hc => h2 c (by simp [hc])) e3, e4]
theorem q_o64 {a b : Nat} (ha : a < 2 ^ 63) (hb : b < 2 ^ 63) : Int64.ofNat a = Int64.ofNat b ↔ a = b := by
  constructor
  · intro h
    have := congrArg Int64.toInt h
    rw [Int64.toInt_ofNat_of_lt (by omega), Int64.toInt_ofNat_of_lt (by omega)] at this
    omega
  · intro h
    rw [h]
theorem q_e5_inj {a b : List Nat} (ha : nm_ok a) (hb : nm_ok b) : q_e5 a = q_e5 b ↔ a = b := by
  have h1 := q_n5_lt ha
  have h2 := q_n5_lt hb
  unfold q_e5
  rw [q_o64 (by omega) (by omega)]
  exact ⟨fun e => q_n5_inj _ a b (Nat.le_refl _) ha.2 hb.2 e, fun e => by rw [e]⟩
/-- the tokens stand in the class's rows, up to the m-th -/
def ck_T (h : q_H) (K : q_TK) (m : Nat) : Prop := m ≤ 400 ∧ (m = 400 ∨ tk_T K m = 0 ∨ tk_T K m = 3) ∧ ∀ i, i ≤ m → tk_ok (tk_T K i) = true ∧ tk_P K i < 2 ^ 20 ∧ q_I h 3 i = q_kap (tk_T K i) ∧ q_I h 4 i = nI (tk_P K i) ∧ (tk_T K i = 1 → q_J h 5 i = q_e5 (tk_N K i) ∧ nm_ok (tk_N K i)) ∧ (tk_T K i = 2 → (q_J h 5 i).toInt32 = nI (tk_V K i) ∧ tk_V K i ≤ 9999)
/-- the reader: into program p, at token t -/
def ck_R (h : q_H) (K : q_TK) (m p t : Nat) : Prop := q_P h 7 2 = some 1 ∧ q_P h 7 3 = some p ∧ ck_T h K m ∧ t ≤ m ∧ q_I h 7 4 = nI t ∧ q_I h 7 5 = q_kap (tk_T K t)
theorem ck_go {h : q_H} {K : q_TK} {m t : Nat} (hT : ck_T h K m) (ht : t ≤ m) (h4 : t < 400) (h0 : ¬ tk_T K t = 0) (h3 : ¬ tk_T K t = 3) : t + 1 ≤ m := by
  rcases hT.2.1 with q | q | q
  · omega
  · rcases Nat.lt_or_ge t m with z | z
    · exact z
    · rw [show m = t by omega] at q
      exact absurd q h0
  · rcases Nat.lt_or_ge t m with z | z
    · exact z
    · rw [show m = t by omega] at q
      exact absurd q h3
theorem c_X3_emit10 (l : Launch) (g : q_GP) (h : q_H) (hs : q_Stat h) {n : Nat} (hn : q_I h 10 2 = nI n) (hn2 : n < 416) (k v : Int32) : q_Cd l g 0 mX3_emit [.ref 10, .int k, .int v] h (some (.int (nI n))) (q_wI (q_wI (q_wI h 10 (upd (q_I h 10) 2 (nI (n + 1)))) 11 (upd (q_I h 11) n k)) 12 (upd (q_I h 12) n v)) := by
  refine q_CdV mvX3_emit (Nat.le_of_ble_eq_true rfl) ?_
  refine xe_aload_n dX3_emit_0 rfl ?_
  refine xe_getIv dX3_emit_1 flX3_47 (st10 hs) (by decide) rfl (v := nI n) (hn) ?_
  refine xe_sipush dX3_emit_4 ks_416 ?_
  refine xn_icmp_lt (tgt := 12) dX3_emit_7 rfl (by omega) (by omega) (fun c1 => ?_) (fun c1 => ?_)
  · refine xe_aload_n dX3_emit_12 rfl ?_
    refine xe_getP dX3_emit_13 flX3_13 (st10 hs) (by decide) rfl (sp10_0 hs) ?_
    refine xe_aload_n dX3_emit_16 rfl ?_
    refine xe_getIv dX3_emit_17 flX3_47 (st10 hs) (by decide) rfl (v := nI n) (hn) ?_
    refine xe_iload_n dX3_emit_20 rfl ?_
    refine xn_iast dX3_emit_21 (st11 hs) (by omega) (by decide) ?_
    refine xe_aload_n dX3_emit_22 rfl ?_
    refine xe_getP dX3_emit_23 flX3_17 (st10 hs) (by decide) rfl (sp10_1 hs) ?_
    refine xe_aload_n dX3_emit_26 rfl ?_
    refine xe_getIv dX3_emit_27 flX3_47 (st10 hs) (by decide) rfl (v := nI n) (hn) ?_
    refine xe_iload_n dX3_emit_30 rfl ?_
    refine xn_iast dX3_emit_31 (st12 hs) (by omega) (by decide) ?_
    refine xe_aload_n dX3_emit_32 rfl ?_
    refine xe_dup dX3_emit_33 rfl ?_
    refine xe_getIv dX3_emit_34 flX3_47 (st10 hs) (by decide) rfl (v := nI n) (hn) ?_
    refine xe_iconst dX3_emit_37 kc_1 ?_
    refine xn_iadd dX3_emit_38 ?_
    refine xe_putI dX3_emit_39 flX3_47 (st10 hs) (by decide) rfl (Or.inl rfl) rfl rfl ?_
    refine xe_aload_n dX3_emit_42 rfl ?_
    refine xe_getIv dX3_emit_43 flX3_47 (st10 hs) (by decide) rfl (v := nI (n + 1)) (rfl) ?_
    refine xe_iconst dX3_emit_46 kc_1 ?_
    refine xn_isub dX3_emit_47 (by omega) ?_
    refine xe_ireturn dX3_emit_48 rfl (by first | rfl | decide +kernel) ?_
    exact ⟨congrArg (fun v => some (Value.int (nI v))) (by omega), (q_heq [10, 11, 12] (H := h) (by repeat (first | exact q_out_r | refine q_out_w rfl ?_)) (by repeat (first | exact q_out_r | refine q_out_w rfl ?_)) (And.intro (q_feq [2] (f := q_I h 10) (by repeat (first | exact q_fout_r | refine q_fout_w rfl ?_)) (by repeat (first | exact q_fout_r | refine q_fout_w rfl ?_)) (And.intro rfl trivial)) (And.intro rfl (And.intro rfl trivial))))⟩
  · omega
theorem c_X3_emitF10 (l : Launch) (g : q_GP) (h : q_H) (hs : q_Stat h) {n : Nat} (hn : q_I h 10 2 = nI n) (hn2 : n = 416) (k v : Int32) : q_Cd l g 0 mX3_emit [.ref 10, .int k, .int v] h (some (.int (nI 0))) h := by
  refine q_CdV mvX3_emit (Nat.le_of_ble_eq_true rfl) ?_
  refine xe_aload_n dX3_emit_0 rfl ?_
  refine xe_getIv dX3_emit_1 flX3_47 (st10 hs) (by decide) rfl (v := nI n) (hn) ?_
  refine xe_sipush dX3_emit_4 ks_416 ?_
  refine xn_icmp_lt (tgt := 12) dX3_emit_7 rfl (by omega) (by omega) (fun c1 => ?_) (fun c1 => ?_)
  · omega
  · refine xe_iconst dX3_emit_10 kc_0 ?_
    refine xe_ireturn dX3_emit_11 rfl (by first | rfl | decide +kernel) ?_
    exact ⟨rfl, rfl⟩
theorem c_X3_emit22 (l : Launch) (g : q_GP) (h : q_H) (hs : q_Stat h) {n : Nat} (hn : q_I h 22 2 = nI n) (hn2 : n < 416) (k v : Int32) : q_Cd l g 0 mX3_emit [.ref 22, .int k, .int v] h (some (.int (nI n))) (q_wI (q_wI (q_wI h 22 (upd (q_I h 22) 2 (nI (n + 1)))) 23 (upd (q_I h 23) n k)) 24 (upd (q_I h 24) n v)) := by
  refine q_CdV mvX3_emit (Nat.le_of_ble_eq_true rfl) ?_
  refine xe_aload_n dX3_emit_0 rfl ?_
  refine xe_getIv dX3_emit_1 flX3_47 (st22 hs) (by decide) rfl (v := nI n) (hn) ?_
  refine xe_sipush dX3_emit_4 ks_416 ?_
  refine xn_icmp_lt (tgt := 12) dX3_emit_7 rfl (by omega) (by omega) (fun c1 => ?_) (fun c1 => ?_)
  · refine xe_aload_n dX3_emit_12 rfl ?_
    refine xe_getP dX3_emit_13 flX3_13 (st22 hs) (by decide) rfl (sp22_0 hs) ?_
    refine xe_aload_n dX3_emit_16 rfl ?_
    refine xe_getIv dX3_emit_17 flX3_47 (st22 hs) (by decide) rfl (v := nI n) (hn) ?_
    refine xe_iload_n dX3_emit_20 rfl ?_
    refine xn_iast dX3_emit_21 (st23 hs) (by omega) (by decide) ?_
    refine xe_aload_n dX3_emit_22 rfl ?_
    refine xe_getP dX3_emit_23 flX3_17 (st22 hs) (by decide) rfl (sp22_1 hs) ?_
    refine xe_aload_n dX3_emit_26 rfl ?_
    refine xe_getIv dX3_emit_27 flX3_47 (st22 hs) (by decide) rfl (v := nI n) (hn) ?_
    refine xe_iload_n dX3_emit_30 rfl ?_
    refine xn_iast dX3_emit_31 (st24 hs) (by omega) (by decide) ?_
    refine xe_aload_n dX3_emit_32 rfl ?_
    refine xe_dup dX3_emit_33 rfl ?_
    refine xe_getIv dX3_emit_34 flX3_47 (st22 hs) (by decide) rfl (v := nI n) (hn) ?_
    refine xe_iconst dX3_emit_37 kc_1 ?_
    refine xn_iadd dX3_emit_38 ?_
    refine xe_putI dX3_emit_39 flX3_47 (st22 hs) (by decide) rfl (Or.inl rfl) rfl rfl ?_
    refine xe_aload_n dX3_emit_42 rfl ?_
    refine xe_getIv dX3_emit_43 flX3_47 (st22 hs) (by decide) rfl (v := nI (n + 1)) (rfl) ?_
    refine xe_iconst dX3_emit_46 kc_1 ?_
    refine xn_isub dX3_emit_47 (by omega) ?_
    refine xe_ireturn dX3_emit_48 rfl (by first | rfl | decide +kernel) ?_
    exact ⟨congrArg (fun v => some (Value.int (nI v))) (by omega), (q_heq [22, 23, 24] (H := h) (by repeat (first | exact q_out_r | refine q_out_w rfl ?_)) (by repeat (first | exact q_out_r | refine q_out_w rfl ?_)) (And.intro (q_feq [2] (f := q_I h 22) (by repeat (first | exact q_fout_r | refine q_fout_w rfl ?_)) (by repeat (first | exact q_fout_r | refine q_fout_w rfl ?_)) (And.intro rfl trivial)) (And.intro rfl (And.intro rfl trivial))))⟩
  · omega
theorem c_X3_emitF22 (l : Launch) (g : q_GP) (h : q_H) (hs : q_Stat h) {n : Nat} (hn : q_I h 22 2 = nI n) (hn2 : n = 416) (k v : Int32) : q_Cd l g 0 mX3_emit [.ref 22, .int k, .int v] h (some (.int (nI 0))) h := by
  refine q_CdV mvX3_emit (Nat.le_of_ble_eq_true rfl) ?_
  refine xe_aload_n dX3_emit_0 rfl ?_
  refine xe_getIv dX3_emit_1 flX3_47 (st22 hs) (by decide) rfl (v := nI n) (hn) ?_
  refine xe_sipush dX3_emit_4 ks_416 ?_
  refine xn_icmp_lt (tgt := 12) dX3_emit_7 rfl (by omega) (by omega) (fun c1 => ?_) (fun c1 => ?_)
  · omega
  · refine xe_iconst dX3_emit_10 kc_0 ?_
    refine xe_ireturn dX3_emit_11 rfl (by first | rfl | decide +kernel) ?_
    exact ⟨rfl, rfl⟩
theorem c_X5_fail (l : Launch) (g : q_GP) (h : q_H) (hs : q_Stat h) {K : q_TK} {m p t : Nat} (hR : ck_R h K m p t) (v : Int32) : q_Cd l g 0 mX5_fail [.ref 7, .int v] h (some (.int (nI 0))) (q_wI h 7 (upd (upd (q_I h 7) 7 v) 8 (nI (tk_P K t)))) := by
  obtain ⟨R2, R3, hT, ht, h4, h5⟩ := id hR
  obtain ⟨hm4, hme, hti⟩ := id hT
  obtain ⟨z1, z2, z3, z4, z5, z6⟩ := hti t ht
  refine q_CdV mvX5_fail (Nat.le_of_ble_eq_true rfl) ?_
  refine xe_aload_n dX5_fail_0 rfl ?_
  refine xe_iload_n dX5_fail_1 rfl ?_
  refine xe_putI dX5_fail_2 flX5_44 (st7 hs) (by decide) rfl (Or.inl rfl) rfl rfl ?_
  refine xe_aload_n dX5_fail_5 rfl ?_
  refine xe_aload_n dX5_fail_6 rfl ?_
  refine xe_getP dX5_fail_7 flX5_22 (st7 hs) (by decide) rfl R2 ?_
  refine xe_getP dX5_fail_10 flX5_60 (st1 hs) (by decide) rfl (sp1_3 hs) ?_
  refine xe_aload_n dX5_fail_13 rfl ?_
  refine xe_getIv dX5_fail_14 flX5_33 (st7 hs) (by decide) rfl (v := nI t) (h4) ?_
  refine xn_ialdv dX5_fail_17 (st4 hs) (by omega) (by decide) (v := nI (tk_P K t)) (z4) ?_
  refine xe_putI dX5_fail_18 flX5_57 (st7 hs) (by decide) rfl (Or.inl rfl) rfl rfl ?_
  refine xe_iconst dX5_fail_21 kc_0 ?_
  refine xe_ireturn dX5_fail_22 rfl (by first | rfl | decide +kernel) ?_
  exact ⟨rfl, (q_heq [7] (H := h) (by repeat (first | exact q_out_r | refine q_out_w rfl ?_)) (by repeat (first | exact q_out_r | refine q_out_w rfl ?_)) (And.intro (q_feq [7, 8] (f := q_I h 7) (by repeat (first | exact q_fout_r | refine q_fout_w rfl ?_)) (by repeat (first | exact q_fout_r | refine q_fout_w rfl ?_)) (And.intro rfl (And.intro rfl trivial))) trivial))⟩
theorem c_X5_take_t (l : Launch) (g : q_GP) (h : q_H) (hs : q_Stat h) {K : q_TK} {m p t : Nat} (hR : ck_R h K m p t) {k : Nat} (hok : tk_ok k = true) (hk3 : ¬ k = 3) (hk0 : ¬ k = 0) (hck : tx_ck (tk_T K) k t = none) : q_Cd l g 0 mX5_take [.ref 7, .int (nI (q_kn k))] h (some (.int (nI 1))) (q_wI h 7 (upd (upd (q_I h 7) 4 (nI (t + 1))) 5 (q_kap (tk_T K (t + 1))))) := by
  obtain ⟨R2, R3, hT, ht, h4, h5⟩ := id hR
  obtain ⟨hm4, hme, hti⟩ := id hT
  obtain ⟨z1, z2, z3, z4, z5, z6⟩ := hti t ht
  obtain ⟨hk, ht4⟩ := tx_ck_none hck
  have hgo : t + 1 ≤ m := ck_go hT ht ht4 (by rw [hk]; exact hk0) (by rw [hk]; exact hk3)
  refine q_CdV mvX5_take (Nat.le_of_ble_eq_true rfl) ?_
  refine xe_aload_n dX5_take_0 rfl ?_
  refine xe_getIv dX5_take_1 flX5_41 (st7 hs) (by decide) rfl (v := nI (q_kn k)) (h5.trans (by rw [hk, q_kap_n hk3])) ?_
  refine xe_iload_n dX5_take_4 rfl ?_
  refine xn_icmp_ne (tgt := 12) dX5_take_5 rfl (Nat.lt_trans (q_kn_lt (tk_lt hok)) (by decide)) (Nat.lt_trans (q_kn_lt (tk_lt hok)) (by decide)) (fun c1 => ?_) (fun c1 => ?_)
  · omega
  · refine xe_iconst dX5_take_8 kc_1 ?_
    refine xe_goto (tgt := 13) dX5_take_9 rfl ?_
    refine xe_istore_n (i := 2) dX5_take_13 rfl (by decide) rfl ?_
    refine xe_iload_n dX5_take_14 rfl ?_
    refine xn_if_eq (tgt := 28) dX5_take_15 rfl (by omega) (fun c2 => ?_) (fun c2 => ?_)
    · omega
    · refine xe_aload_n dX5_take_18 rfl ?_
      refine xe_getIv dX5_take_19 flX5_33 (st7 hs) (by decide) rfl (v := nI t) (h4) ?_
      refine xe_sipush dX5_take_22 ks_400 ?_
      refine xn_icmp_lt (tgt := 59) dX5_take_25 rfl (by omega) (by omega) (fun c3 => ?_) (fun c3 => ?_)
      · refine xe_aload_n dX5_take_59 rfl ?_
        refine xe_dup dX5_take_60 rfl ?_
        refine xe_getIv dX5_take_61 flX5_33 (st7 hs) (by decide) rfl (v := nI t) (h4) ?_
        refine xe_iconst dX5_take_64 kc_1 ?_
        refine xn_iadd dX5_take_65 ?_
        refine xe_putI dX5_take_66 flX5_33 (st7 hs) (by decide) rfl (Or.inl rfl) rfl rfl ?_
        refine xe_aload_n dX5_take_69 rfl ?_
        refine xe_aload_n dX5_take_70 rfl ?_
        refine xe_getP dX5_take_71 flX5_22 (st7 hs) (by decide) rfl R2 ?_
        refine xe_getP dX5_take_74 flX5_37 (st1 hs) (by decide) rfl (sp1_2 hs) ?_
        refine xe_aload_n dX5_take_77 rfl ?_
        refine xe_getIv dX5_take_78 flX5_33 (st7 hs) (by decide) rfl (v := nI (t + 1)) (rfl) ?_
        refine xn_ialdv dX5_take_81 (st3 hs) (by omega) (by decide) (v := (q_kap (tk_T K (t + 1)))) ((hti (t + 1) hgo).2.2.1) ?_
        refine xe_putI dX5_take_82 flX5_41 (st7 hs) (by decide) rfl (Or.inl rfl) rfl rfl ?_
        refine xe_iconst dX5_take_85 kc_1 ?_
        refine xe_ireturn dX5_take_86 rfl (by first | rfl | decide +kernel) ?_
        exact ⟨rfl, (q_heq [7] (H := h) (by repeat (first | exact q_out_r | refine q_out_w rfl ?_)) (by repeat (first | exact q_out_r | refine q_out_w rfl ?_)) (And.intro (q_feq [4, 5] (f := q_I h 7) (by repeat (first | exact q_fout_r | refine q_fout_w rfl ?_)) (by repeat (first | exact q_fout_r | refine q_fout_w rfl ?_)) (And.intro rfl (And.intro rfl trivial))) trivial))⟩
      · omega
theorem c_X5_take_f (l : Launch) (g : q_GP) (h : q_H) (hs : q_Stat h) {K : q_TK} {m p t : Nat} (hR : ck_R h K m p t) {k : Nat} (hok : tk_ok k = true) (hk3 : ¬ k = 3) {f u : Nat} (hck : tx_ck (tk_T K) k t = some (f, u)) : q_Cd l g 0 mX5_take [.ref 7, .int (nI (q_kn k))] h (some (.int (nI 0))) (q_wI h 7 (upd (upd (q_I h 7) 7 (nI f)) 8 (nI (tk_P K u)))) := by
  obtain ⟨R2, R3, hT, ht, h4, h5⟩ := id hR
  obtain ⟨hm4, hme, hti⟩ := id hT
  obtain ⟨z1, z2, z3, z4, z5, z6⟩ := hti t ht
  by_cases hk : tk_T K t = k
  · rcases Nat.lt_or_ge t 400 with q4 | q4
    · rw [tx_ck_0 hk q4] at hck
      cases hck
    · rw [tx_ck_2 hk q4] at hck
      cases hck
      refine q_CdV mvX5_take (Nat.le_of_ble_eq_true rfl) ?_
      refine xe_aload_n dX5_take_0 rfl ?_
      refine xe_getIv dX5_take_1 flX5_41 (st7 hs) (by decide) rfl (v := nI (q_kn k)) (h5.trans (by rw [hk, q_kap_n hk3])) ?_
      refine xe_iload_n dX5_take_4 rfl ?_
      refine xn_icmp_ne (tgt := 12) dX5_take_5 rfl (Nat.lt_trans (q_kn_lt (tk_lt hok)) (by decide)) (Nat.lt_trans (q_kn_lt (tk_lt hok)) (by decide)) (fun c1 => ?_) (fun c1 => ?_)
      · omega
      · refine xe_iconst dX5_take_8 kc_1 ?_
        refine xe_goto (tgt := 13) dX5_take_9 rfl ?_
        refine xe_istore_n (i := 2) dX5_take_13 rfl (by decide) rfl ?_
        refine xe_iload_n dX5_take_14 rfl ?_
        refine xn_if_eq (tgt := 28) dX5_take_15 rfl (by omega) (fun c2 => ?_) (fun c2 => ?_)
        · omega
        · refine xe_aload_n dX5_take_18 rfl ?_
          refine xe_getIv dX5_take_19 flX5_33 (st7 hs) (by decide) rfl (v := nI t) (h4) ?_
          refine xe_sipush dX5_take_22 ks_400 ?_
          refine xn_icmp_lt (tgt := 59) dX5_take_25 rfl (by omega) (by omega) (fun c3 => ?_) (fun c3 => ?_)
          · omega
          · refine xe_aload_n dX5_take_28 rfl ?_
            refine xe_iload_n dX5_take_29 rfl ?_
            refine xn_if_eq (tgt := 37) dX5_take_30 rfl (by omega) (fun c4 => ?_) (fun c4 => ?_)
            · omega
            · refine xe_iconst dX5_take_33 kc_2 ?_
              refine xe_goto (tgt := 38) dX5_take_34 rfl ?_
              refine xe_putI dX5_take_38 flX5_44 (st7 hs) (by decide) rfl (Or.inl rfl) rfl rfl ?_
              refine xe_aload_n dX5_take_41 rfl ?_
              refine xe_aload_n dX5_take_42 rfl ?_
              refine xe_getP dX5_take_43 flX5_22 (st7 hs) (by decide) rfl R2 ?_
              refine xe_getP dX5_take_46 flX5_60 (st1 hs) (by decide) rfl (sp1_3 hs) ?_
              refine xe_aload_n dX5_take_49 rfl ?_
              refine xe_getIv dX5_take_50 flX5_33 (st7 hs) (by decide) rfl (v := nI t) (h4) ?_
              refine xn_ialdv dX5_take_53 (st4 hs) (by omega) (by decide) (v := nI (tk_P K t)) (z4) ?_
              refine xe_putI dX5_take_54 flX5_57 (st7 hs) (by decide) rfl (Or.inl rfl) rfl rfl ?_
              refine xe_iconst dX5_take_57 kc_0 ?_
              refine xe_ireturn dX5_take_58 rfl (by first | rfl | decide +kernel) ?_
              exact ⟨rfl, (q_heq [7] (H := h) (by repeat (first | exact q_out_r | refine q_out_w rfl ?_)) (by repeat (first | exact q_out_r | refine q_out_w rfl ?_)) (And.intro (q_feq [7, 8] (f := q_I h 7) (by repeat (first | exact q_fout_r | refine q_fout_w rfl ?_)) (by repeat (first | exact q_fout_r | refine q_fout_w rfl ?_)) (And.intro rfl (And.intro rfl trivial))) trivial))⟩
  · rw [tx_ck_1 hk] at hck
    cases hck
    refine q_CdV mvX5_take (Nat.le_of_ble_eq_true rfl) ?_
    refine xe_aload_n dX5_take_0 rfl ?_
    refine xe_getIv dX5_take_1 flX5_41 (st7 hs) (by decide) rfl (v := (q_kap (tk_T K t))) (h5) ?_
    refine xe_iload_n dX5_take_4 rfl ?_
    refine xe_icmp_ne (tgt := 12) dX5_take_5 rfl (fun c1 => ?_) (fun c1 => ?_)
    · refine xe_iconst dX5_take_12 kc_0 ?_
      refine xe_istore_n (i := 2) dX5_take_13 rfl (by decide) rfl ?_
      refine xe_iload_n dX5_take_14 rfl ?_
      refine xn_if_eq (tgt := 28) dX5_take_15 rfl (by omega) (fun c2 => ?_) (fun c2 => ?_)
      · refine xe_aload_n dX5_take_28 rfl ?_
        refine xe_iload_n dX5_take_29 rfl ?_
        refine xn_if_eq (tgt := 37) dX5_take_30 rfl (by omega) (fun c3 => ?_) (fun c3 => ?_)
        · refine xe_iconst dX5_take_37 kc_1 ?_
          refine xe_putI dX5_take_38 flX5_44 (st7 hs) (by decide) rfl (Or.inl rfl) rfl rfl ?_
          refine xe_aload_n dX5_take_41 rfl ?_
          refine xe_aload_n dX5_take_42 rfl ?_
          refine xe_getP dX5_take_43 flX5_22 (st7 hs) (by decide) rfl R2 ?_
          refine xe_getP dX5_take_46 flX5_60 (st1 hs) (by decide) rfl (sp1_3 hs) ?_
          refine xe_aload_n dX5_take_49 rfl ?_
          refine xe_getIv dX5_take_50 flX5_33 (st7 hs) (by decide) rfl (v := nI t) (h4) ?_
          refine xn_ialdv dX5_take_53 (st4 hs) (by omega) (by decide) (v := nI (tk_P K t)) (z4) ?_
          refine xe_putI dX5_take_54 flX5_57 (st7 hs) (by decide) rfl (Or.inl rfl) rfl rfl ?_
          refine xe_iconst dX5_take_57 kc_0 ?_
          refine xe_ireturn dX5_take_58 rfl (by first | rfl | decide +kernel) ?_
          exact ⟨rfl, (q_heq [7] (H := h) (by repeat (first | exact q_out_r | refine q_out_w rfl ?_)) (by repeat (first | exact q_out_r | refine q_out_w rfl ?_)) (And.intro (q_feq [7, 8] (f := q_I h 7) (by repeat (first | exact q_fout_r | refine q_fout_w rfl ?_)) (by repeat (first | exact q_fout_r | refine q_fout_w rfl ?_)) (And.intro rfl (And.intro rfl trivial))) trivial))⟩
        · omega
      · omega
    · exact absurd (q_kap_inj z1 hok hk3 c1) hk
/-- the first later fault, in the reader's fields a (kind) and b (place) -/
def q_lfv (K : q_TK) (a b : Int32) (e : Option (Nat × Nat)) : Prop := match e with
  | none => a = nI 0
  | some (k, u) => a = nI k ∧ 1 ≤ k ∧ k ≤ 5 ∧ b = nI (tk_P K u)
theorem q_upd_s {f : Nat → Int32} {k : Nat} {v : Int32} (h : f k = v) : upd f k v = f := by
  funext j
  unfold upd
  split
  · next e => rw [e, h]
  · rfl
theorem q_lf_some {o : Option (Nat × Nat)} {e : Nat × Nat} (h : o = some e) (c : Bool) (k t : Nat) : tx_lf o c k t = some e := by
  rw [h]
  rfl
theorem c_X5_failLater (l : Launch) (g : q_GP) (h : q_H) (hs : q_Stat h) {K : q_TK} {m p t : Nat} (hR : ck_R h K m p t) {e : Option (Nat × Nat)} (hlf : q_lfv K (q_I h 7 9) (q_I h 7 10) e) {k u : Nat} (hk1 : 1 ≤ k) (hk5 : k ≤ 5) (hu : u ≤ m) : q_Ct l g 0 mX5_failLater [.ref 7, .int (nI k), .int (nI u)] h (fun r h1 => r = none ∧ ∃ a b, h1 = q_wI h 7 (upd (upd (q_I h 7) 9 a) 10 b) ∧ q_lfv K a b (tx_lf e true k u)) := by
  obtain ⟨R2, R3, hT, ht, h4, h5⟩ := id hR
  obtain ⟨hm4, hme, hti⟩ := id hT
  obtain ⟨z1, z2, z3, z4, z5, z6⟩ := hti t ht
  obtain ⟨y1, y2, y3, y4, y5, y6⟩ := hti u hu
  cases e with
  | none =>
    have hl0 : q_I h 7 9 = nI 0 := hlf
    refine q_CtV mvX5_failLater (Nat.le_of_ble_eq_true rfl) ?_
    refine xe_aload_n dX5_failLater_0 rfl ?_
    refine xe_getIv dX5_failLater_1 flX5_47 (st7 hs) (by decide) rfl (v := nI 0) (hl0) ?_
    refine xn_if_ne (tgt := 25) dX5_failLater_4 rfl (by omega) (fun c1 => ?_) (fun c1 => ?_)
    · omega
    · refine xe_aload_n dX5_failLater_7 rfl ?_
      refine xe_iload_n dX5_failLater_8 rfl ?_
      refine xe_putI dX5_failLater_9 flX5_47 (st7 hs) (by decide) rfl (Or.inl rfl) rfl rfl ?_
      refine xe_aload_n dX5_failLater_12 rfl ?_
      refine xe_aload_n dX5_failLater_13 rfl ?_
      refine xe_getP dX5_failLater_14 flX5_22 (st7 hs) (by decide) rfl R2 ?_
      refine xe_getP dX5_failLater_17 flX5_60 (st1 hs) (by decide) rfl (sp1_3 hs) ?_
      refine xe_iload_n dX5_failLater_20 rfl ?_
      refine xn_ialdv dX5_failLater_21 (st4 hs) (by omega) (by decide) (v := nI (tk_P K u)) (y4) ?_
      refine xe_putI dX5_failLater_22 flX5_54 (st7 hs) (by decide) rfl (Or.inl rfl) rfl rfl ?_
      refine xe_return dX5_failLater_25 rfl ?_
      exact ⟨rfl, _, _, (q_heq [7] (H := h) (by repeat (first | exact q_out_r | refine q_out_w rfl ?_)) (by repeat (first | exact q_out_r | refine q_out_w rfl ?_)) (And.intro (q_feq [9, 10] (f := q_I h 7) (by repeat (first | exact q_fout_r | refine q_fout_w rfl ?_)) (by repeat (first | exact q_fout_r | refine q_fout_w rfl ?_)) (And.intro rfl (And.intro rfl trivial))) trivial)), rfl, hk1, hk5, rfl⟩
  | some e =>
    obtain ⟨k0, u0⟩ := e
    obtain ⟨l1, l2, l3, l4⟩ := hlf
    refine q_CtV mvX5_failLater (Nat.le_of_ble_eq_true rfl) ?_
    refine xe_aload_n dX5_failLater_0 rfl ?_
    refine xe_getIv dX5_failLater_1 flX5_47 (st7 hs) (by decide) rfl (v := nI k0) (l1) ?_
    refine xn_if_ne (tgt := 25) dX5_failLater_4 rfl (by omega) (fun c1 => ?_) (fun c1 => ?_)
    · refine xe_return dX5_failLater_25 rfl ?_
      exact ⟨rfl, _, _, (by rw [q_upd_s rfl, q_upd_s rfl, q_wsI]), l1, l2, l3, l4⟩
    · omega
