/-! THE CLAIM OUT OF ONE WALK OF THE LAW'S BODY. Your part is whole_start (and what it stands on); all else here is the same for every law, but numbers. -/
def R_law : String := "FeatherCourtLaw"
def lw_P (b : Addr) (xs : List Int32) (args : Array Value) (s : State) : Prop := args = #[.ref b] ∧ s.IntsAt b xs ∧ xs.length ≤ 3072 ∧ (Jvm.Cond.and given_1 narrow_1).before args s = true
def lw_Q (_ : Array Value) (s : State) (o : Outcome) (t : State) : Prop := o = .returned (some (.int 1)) ∧ Framed s o t [] 600000 7302250
def lw_Z (below : List Frame) (a : Array Value) (s : State) : State → Prop := fun t => ∃ o, t.status = .running ∧ Ended t below o ∧ lw_Q a s o t
/-- the law's own end, with 1 on the stack, nothing written that was there before, its room as the claim has it -/
theorem lw_ret {p : Program} {l : Launch} {e : Env} {s : State} {m : MethodId} {below : List Frame} {meth : Method} {c : Code} {b : Nat} (hx : p.tables.exec = Jvm.exec) (hb : c.code = code) (hr : meth.sig.returnType = ret) (hlocks : meth.locks = false) {pc : Nat} {H : Heap} {ls : Array Slot} (hdg : decode code pc = .ok (.ireturn, 1)) : W p l e room_1 s m #[Value.ref b] below meth c H [] 600000 7302250 (lw_Z below #[Value.ref b] s) (F0 m pc ls [.int 1]) := by
  intro T hT X
  obtain ⟨fs, hret, hrun, hended, hW, hframe⟩ := X.leave (v := some (.int 1)) (hlocks := hlocks) (fun h => by rw [hr] at h; cases h)
  have hmeth' : T.vm.method? m = some meth := X.method'
  refine ⟨T.setFrames fs, ?_, .returned (some (.int 1)), hrun, hended, rfl, ⟨_, rfl⟩, hW, hframe⟩
  jvm_step X.here [X.here.top, hx, hb, hdg, hmeth', hr, ret, narrow_b1]
  (try refine ⟨rfl, ?_⟩); (try refine ⟨rfl, ?_⟩)
  first | (intro acts; rw [hret _ acts rfl rfl rfl]) | rw [hret _ _ rfl rfl rfl]
  exact Steps.refl _
/-- what holds at the law's entry: the machine, the code, the tables' words (any of lw_tbl by 'hts w (by decide +kernel)'), the script of L ints xs at the cell b, what the Statement gives of the start (any of its parts by flat_of_before) -/
def lw_At (p : Program) (s : State) (m : MethodId) (meth : Method) (c : Code) (b L : Nat) (xs : Nat → Int32) : Prop :=
  p.tables.exec = Jvm.exec ∧ c.code = code ∧ meth.sig.returnType = ret ∧ c.maxLocals = 4 ∧ s.vm.findClass R_law = some m.cls ∧ (∀ w ∈ lw_tbl, w.before #[Value.ref b] s = true) ∧ va_X b L xs s s.heap ∧ b < s.heap.size ∧ meth.locks = false ∧ (Jvm.Cond.and given_1 narrow_1).before #[Value.ref b] s = true
-- ===== YOUR PART BEGINS =====
theorem whole_start {p : Program} {e : Env} {s : State} {m : MethodId} {below : List Frame} {meth : Method} {c : Code} (l : Launch) (hflags : l.flags = flags0) {b L : Nat} {xs : Nat → Int32} (hL : L ≤ 3072) (C0 : lw_At p s m meth c b L xs) : W p l e room_1 s m #[Value.ref b] below meth c s.heap [] 0 0 (lw_Z below #[Value.ref b] s) (entryFrame m ([Value.ref b] : List Value).toArray 4) := by
  obtain ⟨hx, hb, hr, hml, hown, hts, hX, hbl, hlocks, hgv⟩ := id C0
  have hs := flat_of_before _ hgv
  have hA : ∀ a : Nat, a < s.heap.size → ¬ (fun q : Nat => s.heap.size ≤ q) a := fun a ha => Nat.not_le.mpr ha
  have htq : ∀ w ∈ q_tab, w.before #[Value.ref b] s = true := fun w hw => hts w (hts_1 hw)
  obtain ⟨c0, iS0, hKn0⟩ := u_known (C := RX0) (T := TX0) (N := 6) (n := 6) htq q_fw0 (hts _ (hts_1 q_inst0))
  obtain ⟨c1, iS1, hKn1⟩ := u_known (C := RX1) (T := TX1) (N := 3) (n := 3) htq q_fw1 (hts _ (hts_1 q_inst1))
  obtain ⟨c2, iS2, hKn2⟩ := u_known (C := RX2) (T := TX2) (N := 4) (n := 4) htq q_fw2 (hts _ (hts_1 q_inst2))
  obtain ⟨c3, iS3, hKn3⟩ := u_known (C := RX3) (T := TX3) (N := 16) (n := 16) htq q_fw3 (hts _ (hts_1 q_inst3))
  obtain ⟨c4, iS4, hKn4⟩ := u_known (C := RX4) (T := TX4) (N := 10) (n := 10) htq q_fw4 (hts _ (hts_1 q_inst4))
  obtain ⟨c5, iS5, hKn5⟩ := u_known (C := RX5) (T := TX5) (N := 11) (n := 11) htq q_fw5 (hts _ (hts_1 q_inst5))
  obtain ⟨c6, iS6, hKn6⟩ := u_known (C := RX6) (T := TX6) (N := 7) (n := 7) htq q_fw6 (hts _ (hts_1 q_inst6))
  obtain ⟨c7, iS7, hKn7⟩ := u_known (C := RX7) (T := TX7) (N := 7) (n := 7) htq q_fw7 (hts _ (hts_1 q_inst7))
  obtain ⟨c8, iS8, hKn8⟩ := u_known (C := RX8) (T := TX8) (N := 4) (n := 4) htq q_fw8 (hts _ (hts_1 q_inst8))
  obtain ⟨c9, iS9, hKn9⟩ := u_known (C := RX9) (T := TX9) (N := 15) (n := 15) htq q_fw9 (hts _ (hts_1 q_inst9))
  obtain ⟨c10, iS10, hKn10⟩ := u_known (C := RX10) (T := TX10) (N := 67) (n := 67) htq q_fw10 (hts _ (hts_1 q_inst10))
  obtain ⟨dC, dI, hKc⟩ : ∃ (dC : Nat → ClassId) (dI : Nat → Nat → Nat), ∀ (k : Nat) (q : vw_C), vwCl[k]? = some q → u_Kn s q.1 q.2.1 q.2.2 (dC k) (dI k) := by
    refine ⟨fun k => if k = 0 then c0 else if k = 1 then c1 else if k = 2 then c2 else if k = 3 then c3 else if k = 4 then c4 else if k = 5 then c5 else if k = 6 then c6 else if k = 7 then c7 else if k = 8 then c8 else if k = 9 then c9 else c10, fun k => if k = 0 then iS0 else if k = 1 then iS1 else if k = 2 then iS2 else if k = 3 then iS3 else if k = 4 then iS4 else if k = 5 then iS5 else if k = 6 then iS6 else if k = 7 then iS7 else if k = 8 then iS8 else if k = 9 then iS9 else iS10, ?_⟩
    intro k q hq
    match k, hq with
    | 0, hq => cases hq; exact hKn0
    | 1, hq => cases hq; exact hKn1
    | 2, hq => cases hq; exact hKn2
    | 3, hq => cases hq; exact hKn3
    | 4, hq => cases hq; exact hKn4
    | 5, hq => cases hq; exact hKn5
    | 6, hq => cases hq; exact hKn6
    | 7, hq => cases hq; exact hKn7
    | 8, hq => cases hq; exact hKn8
    | 9, hq => cases hq; exact hKn9
    | 10, hq => cases hq; exact hKn10
    | k + 11, hq => simp [vwCl] at hq
  obtain ⟨a0, ha0, hb0⟩ := arr_of (ty := .int) (fun C h => by cases h) (hts (.arrayClass .int) (by decide +kernel))
  obtain ⟨a1, ha1, hb1⟩ := arr_of (ty := .byte) (fun C h => by cases h) (hts (.arrayClass .byte) (by decide +kernel))
  obtain ⟨a2, ha2, hb2⟩ := arr_of (ty := .boolean) (fun C h => by cases h) (hts (.arrayClass .boolean) (by decide +kernel))
  obtain ⟨a3, ha3, hb3⟩ := arr_of (ty := .long) (fun C h => by cases h) (hts (.arrayClass .long) (by decide +kernel))
  have hao0 := hts (.arrayOver (.object RX0)) (by decide +kernel)
  have hao6 := hts (.arrayOver (.object RX6)) (by decide +kernel)
  obtain ⟨a4, ha4, hb4⟩ := arr_ofO hao0
  obtain ⟨a5, ha5, hb5⟩ := arr_ofO hao6
  obtain ⟨⟨a6, ha6, hb6⟩, hMZ⟩ := arr_ofA (hts (.arrayOver (.array .int)) (by decide +kernel))
  obtain ⟨adK, adV, hS, hev⟩ := tp_S hs hA
  have hR0 : vk_R RX7 29 q_tx0 (adK 0) s := vk_R.of (hts (.stringRef RX7 29 q_tx0) (by decide +kernel)) (hev 0 (by decide))
  have hR1 : vk_R RX7 74 q_tx1 (adK 1) s := vk_R.of (hts (.stringRef RX7 74 q_tx1) (by decide +kernel)) (hev 1 (by decide))
  have hZ0 : va_Z RJ0 "COMPACT_STRINGS" "Z" (.int 1) (fun q => s.heap.size ≤ q) s s.heap := va_Zof (hts (.laysStatic RJ0 "COMPACT_STRINGS" "Z") (by decide +kernel)) (hts (.initialized RJ0) (by decide +kernel)) (va_eqi (hs _ (by decide +kernel))) hA
  have hZ3 : va_Zq RJ3 "SIOOBE_FORMATTER" "Ljava/util/function/BiFunction;" (fun q => s.heap.size ≤ q) s s.heap := va_Zqof (hts (.laysStatic RJ3 "SIOOBE_FORMATTER" "Ljava/util/function/BiFunction;") (by decide +kernel)) (hts (.initialized RJ3) (by decide +kernel)) (hs (.isRef (.static RJ3 "SIOOBE_FORMATTER" "Ljava/util/function/BiFunction;")) (by decide +kernel)) hA
  obtain ⟨s5, s6, hZ3⟩ : ∃ s5 s6 : Nat, va_Z RJ3 "SIOOBE_FORMATTER" "Ljava/util/function/BiFunction;" (if s6 = 0 then .null else .ref s5) (fun q => s.heap.size ≤ q) s s.heap := by
    rcases hZ3 with h | ⟨t, h⟩
    · exact ⟨0, 0, by rw [if_pos rfl]; exact h⟩
    · exact ⟨t, 1, by rw [if_neg (by decide)]; exact h⟩
  have n1 : va_Nw (.methodLinkNest RX9 18 yX5_init RX9) s := va_Nw.of rfl (hts _ (by decide +kernel))
  have n2 : va_Nw (.methodLinkNest RX9 25 yX3_init RX9) s := va_Nw.of rfl (hts _ (by decide +kernel))
  have n3 : va_Nw (.methodLinkNest RX9 35 yX6_init RX9) s := va_Nw.of rfl (hts _ (by decide +kernel))
  have n4 : va_Nw (.methodLinkNest RX1 17 yX0_init RX9) s := va_Nw.of rfl (hts _ (by decide +kernel))
  have n5 : va_Nw (.methodLinkNest RX9 57 yX8_init RX9) s := va_Nw.of rfl (hts _ (by decide +kernel))
  have n6 : va_Nw (.methodLinkNest RX9 64 yX4_init RX9) s := va_Nw.of rfl (hts _ (by decide +kernel))
  have n7 : va_Nw (.methodLinkNest RX9 71 yX2_init RX9) s := va_Nw.of rfl (hts _ (by decide +kernel))
  obtain ⟨SA, e0, e1, e2, e3, e4, e5, e6⟩ : ∃ SA : Nat → Nat, SA 0 = adK 0 ∧ SA 1 = adV 0 ∧ SA 2 = adK 1 ∧ SA 3 = adV 1 ∧ SA 4 = b ∧ SA 5 = s5 ∧ SA 6 = s6 := ⟨fun i => if i = 0 then adK 0 else if i = 1 then adV 0 else if i = 2 then adK 1 else if i = 3 then adV 1 else if i = 4 then b else if i = 5 then s5 else s6, rfl, rfl, rfl, rfl, rfl, rfl, rfl⟩
  obtain ⟨CC, k0, k1, k2, k3, k4, k5, k6⟩ : ∃ CC : Nat → ClassId, CC 100 = a0 ∧ CC 101 = a1 ∧ CC 102 = a2 ∧ CC 103 = a3 ∧ CC 104 = a4 ∧ CC 105 = a5 ∧ CC 106 = a6 := ⟨fun i => if i = 100 then a0 else if i = 101 then a1 else if i = 102 then a2 else if i = 103 then a3 else if i = 104 then a4 else if i = 105 then a5 else a6, rfl, rfl, rfl, rfl, rfl, rfl, rfl⟩
  have hS2 : vk_S 2 q_osl q_osb (fun i => SA (2 * i)) (fun i => SA (2 * i + 1)) (fun q => s.heap.size ≤ q) s s.heap := by
    refine ⟨fun i hi => ?_, fun i j hi hj h => ?_⟩
    · rcases (show i = 0 ∨ i = 1 by omega) with rfl | rfl
      · have := hS.1 0 (by decide)
        rw [← e0, ← e1] at this
        exact this
      · have := hS.1 1 (by decide)
        rw [← e2, ← e3] at this
        exact this
    · rcases (show i = 0 ∨ i = 1 by omega) with rfl | rfl <;> rcases (show j = 0 ∨ j = 1 by omega) with rfl | rfl
      · rfl
      · exact hS.2 0 1 (by decide) (by decide) (by rw [← e0, ← e2]; exact h)
      · exact hS.2 1 0 (by decide) (by decide) (by rw [← e0, ← e2]; exact h)
      · rfl
  have hXX : q_XX SA s.heap.size L xs s := ⟨hS2, by rw [e0]; exact hR0, by rw [e2]; exact hR1, hZ0, by rw [e5, e6]; exact hZ3, va_AO.of hao0, va_AO.of hao6, hMZ, ⟨n1, n2, n3, n4, n5, n6, n7⟩, by rw [e4]; exact hX, by rw [e4]; exact hbl⟩
  have hK : va_K (dC, dI) vwCl (q_tys (s.heap.size, (dC, dI), CC, SA, q_XX SA s.heap.size L xs)) s := by
    refine ⟨hKc, fun k q hq => ?_⟩
    have hq : ([(CC 100, .int), (CC 101, .byte), (CC 102, .boolean), (CC 103, .long), (CC 104, .object RX0), (CC 105, .object RX6), (CC 106, .array .int)] : List (ClassId × FieldType))[k]? = some q := hq
    rw [k0, k1, k2, k3, k4, k5, k6] at hq
    match k, hq with
    | 0, hq => cases hq; exact ⟨ha0, hb0⟩
    | 1, hq => cases hq; exact ⟨ha1, hb1⟩
    | 2, hq => cases hq; exact ⟨ha2, hb2⟩
    | 3, hq => cases hq; exact ⟨ha3, hb3⟩
    | 4, hq => cases hq; exact ⟨ha4, hb4⟩
    | 5, hq => cases hq; exact ⟨ha5, hb5⟩
    | 6, hq => cases hq; exact ⟨ha6, hb6⟩
    | k + 7, hq => simp at hq
  obtain ⟨r, h', q, nN, nK, G⟩ := lw_body l (s.heap.size, (dC, dI), CC, SA, q_XX SA s.heap.size L xs) meth.name hL (fun U hU => hU)
  obtain ⟨rfl, q2, q3⟩ := q
  have hl := lv_entry ([.ref b]) (n := 4) (Nat.le_of_ble_eq_true rfl)
  rw [lg_entry_eq]
  generalize (lg_sl ([.ref b]) ++ List.replicate (4 - (lg_sl ([.ref b])).length) Slot.unset).toArray = ls at hl ⊢
  have hl : lv_has ls 4 [(0, .ref b)] := hl
  have G' := G p e room_1 s m #[Value.ref b] below meth c s.heap [] ls 0 0 ⟨hx, hb, hr, hml, hown, htq, hlocks, rfl, Nat.le_of_ble_eq_true rfl, Nat.le_of_ble_eq_true rfl, hK, hXX, q_GOK_of, Nat.le_refl _⟩
    ⟨hl.1, hl.2.1, fun i v hi => by
      match i, hi with
      | 0, hi =>
        cases hi
        show ls[0]? = some (.val (.ref (SA 4)))
        rw [e4]
        exact hl.2.2 _ List.mem_cons_self
      | i + 1, hi => cases hi⟩ ⟨rfl, by decide, fun k q hk => by
        have : ([] : va_W)[k]? = some q := hk
        cases this⟩ va_S.rf (by show 0 + (q_N h' - 0) ≤ 600000; omega) (by show 0 + (q_K h' - hc_s 0) ≤ 7302250; omega)
  intro T hT X
  obtain ⟨t, st, o, run, ended, hQ, LL, hF, hfree⟩ := G' T hT X
  refine ⟨t, st, o, run, ended, hQ.1, hF.1, hF.2.1, ?_⟩
  have hF3 : s.sameButNew ({ t with vm := s.vm } : State) ([] ++ LL) (0 + (q_N h' - q_N (q_hc z_I z_J 0 0))) (0 + (q_K h' - q_K (q_hc z_I z_J 0 0))) := hF.2.2
  exact (hF3.drop_fresh (fun x hx => hfree x hx)).mono (by omega) (by omega)
-- ===== YOUR PART ENDS =====
set_option maxHeartbeats 4000000 in
theorem lw_walk (l : Launch) (hflags : l.flags = flags0) (b : Addr) (xs : List Int32) : MetFree l x (headSpec (Jvm.Cond.code x code maxLocals ret :: tables_1) room_1) (lw_P b xs) (fun _ _ _ _ _ => True) lw_Q := by
  refine MetFree.of_bodyS (code := code) (maxLocals := maxLocals) (ret := ret) (by decide) ?_ ?_
  · intro args s m h hn
    obtain ⟨meth, c, h1, h2, h3, h4, h5, h6, -, -⟩ := Cond.code_spec hn (atoms_spec (ws := Jvm.Cond.code x code maxLocals ret :: tables_1) h _ List.mem_cons_self)
    exact ⟨meth, c, h1, h2, h3, h4, h5, h6⟩
  · intro p e s m args below meth c s₁ B hml0 hP _
    obtain ⟨rfl, hx, hbd, hgv⟩ := hP
    obtain ⟨scr, harrAt, hlist, hof, hsmall⟩ := hx
    obtain ⟨hcb, hkn, -, -⟩ := State.arrayAt?_spec harrAt
    have hown : s.vm.findClass R_law = some m.cls := findClass_of_methodNamed B.named
    have hts0 : ∀ c ∈ (Jvm.Cond.code x code maxLocals ret :: tables_1), c.before #[Value.ref b] s = true := atoms_spec (ws := Jvm.Cond.code x code maxLocals ret :: tables_1) B.pre
    have hts : ∀ w ∈ lw_tbl, w.before #[Value.ref b] s = true := k2_hts_sels lw_privs (fun w hw => hts0 w (List.mem_cons_of_mem _ hw)) lw_privs_ok
    have hml : c.maxLocals = 4 := B.maxLocals_eq (hts0 _ List.mem_cons_self)
    have X₀ : Stand p l e room_1 s m #[Value.ref b] below meth c s₁ [] 0 0 := Stand.of_body B
    have hh0 : s₁.heap = s.heap := by rw [B.state]; rfl
    have hsz : scr.slots.size = xs.length := by rw [← Array.length_toList, hlist, List.length_map]
    have hval : ∀ j : Nat, j < xs.length → scr.slots[j]? = some (.int (xs.getD j 0)) := fun j hj => by
      rw [← Array.getElem?_toList, hlist]
      simp [hj]
    have hbl : b < s.heap.size := (Array.getElem?_eq_some_iff.mp hcb).1
    have hX : va_X b xs.length (fun j => xs.getD j 0) s s.heap := ⟨scr, hcb, hof, hkn, hsz, hval⟩
    have K : W p l e room_1 s m #[Value.ref b] below meth c s₁.heap [] 0 0 (lw_Z below #[Value.ref b] s) (entryFrame m ([Value.ref b] : List Value).toArray 4) := by
      rw [hh0]
      exact whole_start l hflags hbd ⟨B.exec, B.bytes, B.returns, hml, hown, hts, hX, hbl, B.notSynchronized, hgv⟩
    obtain ⟨t, a1, o, b1, b2, b3⟩ := K s₁ rfl X₀
    exact ⟨t, o, a1, b1, b2, b3⟩
theorem lw_pre_spec {args : Array Value} {s : State} (h : (Jvm.Cond.and given_1 narrow_1).before args s = true) (hr : rest_1_c.before args s = true) : ∃ (b : Addr) (xs : List Int32), lw_P b xs args s := by
  have hs := flat_of_before _ h
  have hq := flat_of_before _ hr
  have hc : (Cond.count 1).before args s = true := hs _ (by decide +kernel)
  have harr : (Cond.arrayOf (.arg 0) .int).before args s = true := hs _ (by decide +kernel)
  have hle : (Cond.le (.length (.arg 0)) (.int 3072)).before args s = true := hs _ (by decide +kernel)
  have hlen : (Cond.isInt (.length (.arg 0))).before args s = true := hq _ (by decide +kernel)
  have hall : (Cond.all (.arg 0) (.isInt (.elem (.arg 0) (.index 0)))).before args s = true := hq _ (by decide +kernel)
  obtain ⟨b, xs, hb, hx⟩ := State.ints_of_pre rfl harr hlen hall
  have hsm : xs.length < 2 ^ 31 := hx.choose_spec.2.2.2
  have hev : (Term.length (.arg 0)).eval args s none [] s = some (.int xs.length.toInt32) := hx.length_eval hb
  have hv := Cond.le_ints hev (show (Term.int 3072).eval args s none [] s = some (.int 3072) from rfl)
  have hd : xs.length.toInt32 ≤ 3072 := by
    simpa [Cond.before, Cond.holds, hv] using hle
  have hN : xs.length ≤ 3072 := (Int32.ofNat_le_ofNat hsm (by decide)).mp (show Int32.ofNat xs.length ≤ Int32.ofNat 3072 from hd)
  exact ⟨b, xs, Cond.one_arg hc (show args[0]? = some (.ref b) from hb), hx, hN, h⟩
theorem lw_comes (l : Launch) (hflags : l.flags = flags0) : Comes l x (Jvm.Cond.code x code maxLocals ret :: tables_1) room_1 (fun tb e args s => Calls_1 tb e args s ∧ rest_1 tb e args s ∧ Pre_1 tb e args s)
    (fun _ _ args s o t => lw_Q args s o t) := by
  intro p e ha hc hk s m args below hf hfit hheap happ hpre
  obtain ⟨b, xs, hP⟩ := lw_pre_spec hpre.2.2 hpre.2.1
  obtain ⟨k, o, h1, h2, h3, hQ⟩ := lw_walk l hflags b xs p e ha hc hk s m args below hf ((Spec.applies_iff_loose hf).mp happ).1 hP trivial
  exact ⟨k, o, h1, h2, h3, hQ⟩
theorem lw_frame {s t : State} {o : Outcome} {args : Array Value} (h : Framed s o t [] 600000 7302250) :
    Framed s o t (fieldLocs frame_1_writes args s ++ arrayLocs frame_1_arrays args s ++ staticLocs frame_1_statics s) 600000 7302250 := h
theorem lw_limb (L : Cond) (hL : ∀ (args : Array Value) (s t : State), L.after args s (.returned (some (.int 1))) t = true) :
    ArmFor flags0 classFile x code maxLocals ret World_1 tables_1 room_1 Calls_1 rest_1 Pre_1
      (fun tb e a s o t => postC L tb e a s o t ∧ Framed s o t (fieldLocs frame_1_writes a s ++ arrayLocs frame_1_arrays a s ++ staticLocs frame_1_statics s) 600000 7302250) := by
  intro l hflags _ _ p e ha hc hk s m args below hf hfit hheap happ hpre
  obtain ⟨k, o, h1, h2, h3, rfl, hF⟩ := lw_comes l hflags p e ha hc hk s m args below hf hfit hheap happ hpre
  exact ⟨k, _, h1, h2, h3, hL args s _, lw_frame hF⟩
theorem i_vc : Claimed_1_1 ∧ Claimed_1_2 := ⟨lw_limb limb_1_1 (fun args s t => by simp [limb_1_1, Cond.after, Cond.holds, Cond.value]), lw_limb limb_1_2 (fun args s t => Cond.after_iff.mpr (by
  first | (rw [show limb_1_2 = Cond.eq .result (.int 1) from rfl, Cond.eq_ints (x := 1) (y := 1) rfl rfl]; simp; done) | (simp [limb_1_2, Cond.value, Term.eval]; done)))⟩

