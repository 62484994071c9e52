/-! rows of deeds: both sides alike; did, surely -/
def dd_o (a b : Nat × Int32) : Nat × Int32 := (a.1 + b.1, a.2 &&& b.2)
def dd_e : Nat × Int32 := (0, -1)
theorem dd_o1 (a : Nat × Int32) : dd_o a dd_e = a := Prod.ext rfl Int32.and_neg_one
theorem dd_1o (a : Nat × Int32) : dd_o dd_e a = a := Prod.ext (Nat.zero_add _) Int32.neg_one_and
theorem dd_oa (a b c : Nat × Int32) : dd_o (dd_o a b) c = dd_o a (dd_o b c) := Prod.ext (Nat.add_assoc _ _ _) (Int32.and_assoc _ _ _)
def dd_4 (G : Nat → Nat × Int32) : Nat × Int32 := dd_o (dd_o (dd_o (G 0) (G 1)) (G 2)) (G 3)
theorem and16 (a b c d e f g h i j k l m n o p : Int32) : ((a &&& b &&& c &&& d) &&& (e &&& f &&& g &&& h) &&& (i &&& j &&& k &&& l) &&& (m &&& n &&& o &&& p)) = ((a &&& e &&& i &&& m) &&& (b &&& f &&& j &&& n) &&& (c &&& g &&& k &&& o) &&& (d &&& h &&& l &&& p)) := by ac_rfl
theorem dd_44 (G : Nat → Nat → Nat × Int32) : dd_4 (fun t => dd_4 (fun u => G t u)) = dd_4 (fun u => dd_4 (fun t => G t u)) := by
  refine Prod.ext ?_ ?_
  · simp only [dd_4, dd_o]
    omega
  · simp only [dd_4, dd_o]
    exact and16 _ _ _ _ _ _ _ _ _ _ _ _ _ _ _ _
def dd_b (d t : Nat) (u : Int32) : Int32 := if t = 0 then u else u ||| nI 1 <<< (nI d &&& 31)
def dd_s (F : Nat → Nat) (d t : Nat) (p : Nat → Int32 → Nat × Int32) : Nat → Int32 → Nat × Int32 := fun s u => p (s + t * F d) (dd_b d t u)
def dd_X (F : Nat → Nat) : List Nat → (Nat → Int32 → Nat × Int32) → Nat × Int32
  | [], p => p 0 0
  | d :: ds, p => dd_4 (fun t => dd_X F ds (dd_s F d t p))
theorem dd_bc (a b t v : Nat) (u : Int32) : dd_b a t (dd_b b v u) = dd_b b v (dd_b a t u) := by
  unfold dd_b
  by_cases h1 : t = 0 <;> by_cases h2 : v = 0 <;> simp only [h1, h2, if_true, if_false]
  rw [Int32.or_assoc, Int32.or_assoc, Int32.or_comm (nI 1 <<< (nI b &&& 31))]
theorem dd_sc (F : Nat → Nat) (a b t v : Nat) (p : Nat → Int32 → Nat × Int32) : dd_s F b v (dd_s F a t p) = dd_s F a t (dd_s F b v p) := by
  funext s u
  unfold dd_s
  rw [dd_bc, show s + v * F b + t * F a = s + t * F a + v * F b by omega]
theorem dd_pm {F : Nat → Nat} {l l' : List Nat} (h : l.Perm l') : ∀ p, dd_X F l p = dd_X F l' p := by
  induction h with
  | nil => intro p; rfl
  | cons x h ih =>
    intro p
    unfold dd_X
    exact congrArg dd_4 (funext fun t => ih _)
  | swap x y l =>
    intro p
    show dd_4 (fun t => dd_4 (fun v => dd_X F l (dd_s F x v (dd_s F y t p)))) = dd_4 (fun t => dd_4 (fun v => dd_X F l (dd_s F y v (dd_s F x t p))))
    rw [dd_44]
    exact congrArg dd_4 (funext fun t => congrArg dd_4 (funext fun v => by rw [dd_sc]))
  | trans h1 h2 ih1 ih2 =>
    intro p
    exact (ih1 p).trans (ih2 p)
theorem dd_co {F F' : Nat → Nat} : ∀ (l : List Nat) (p : Nat → Int32 → Nat × Int32), (∀ d, d ∈ l → F d = F' d) → dd_X F l p = dd_X F' l p
  | [], _, _ => rfl
  | d :: ds, p, h => by
    unfold dd_X
    refine congrArg dd_4 (funext fun t => ?_)
    have e : dd_s F d t p = dd_s F' d t p := by
      funext s u
      unfold dd_s
      rw [h d List.mem_cons_self]
    rw [e]
    exact dd_co ds _ (fun x hx => h x (List.mem_cons_of_mem _ hx))
theorem dd_no (F : Nat → Nat) : ∀ l : List Nat, dd_X F l (fun _ _ => dd_e) = dd_e
  | [] => rfl
  | d :: ds => by
    show dd_4 (fun t => dd_X F ds (fun _ _ => dd_e)) = dd_e
    unfold dd_4
    rw [dd_no F ds, dd_o1, dd_o1, dd_o1]
/-- a row counts if its sum is n -/
def dd_p (n : Nat) (done_ : Int32) (s : Nat) (u : Int32) : Nat × Int32 := if s = n then (1, done_ ||| u) else dd_e
def dd_l (nd : Nat) : Nat → List Nat
  | 0 => []
  | j + 1 => (nd - (j + 1)) :: dd_l nd j
def dd_r : Nat → List Nat
  | 0 => []
  | j + 1 => j :: dd_r j
theorem dd_lr {nd : Nat} (h : nd ≤ 8) : (dd_l nd nd).Perm (dd_r nd) := by
  rcases (by omega : nd = 0 ∨ nd = 1 ∨ nd = 2 ∨ nd = 3 ∨ nd = 4 ∨ nd = 5 ∨ nd = 6 ∨ nd = 7 ∨ nd = 8) with rfl | rfl | rfl | rfl | rfl | rfl | rfl | rfl | rfl <;> decide
theorem dd_mr : ∀ (nd d : Nat), d ∈ dd_r nd → d < nd
  | 0, _, h => absurd h List.not_mem_nil
  | n + 1, d, h => by
    rcases List.mem_cons.mp h with h | h
    · omega
    · have := dd_mr n d h
      omega
theorem dd_s0 (F : Nat → Nat) (d n : Nat) (done_ : Int32) : dd_s F d 0 (dd_p n done_) = dd_p n done_ := by
  funext s u
  unfold dd_s dd_b
  rw [if_pos rfl, Nat.zero_mul, Nat.add_zero]
theorem dd_sy {F : Nat → Nat} {d t n : Nat} {done_ : Int32} (h0 : t ≠ 0) (h : t * F d ≤ n) : dd_s F d t (dd_p n done_) = dd_p (n - t * F d) (done_ ||| nI 1 <<< (nI d &&& 31)) := by
  funext s u
  unfold dd_s dd_b dd_p
  rw [if_neg h0]
  by_cases q : s + t * F d = n
  · rw [if_pos q, if_pos (by omega), Int32.or_assoc, Int32.or_comm u]
  · rw [if_neg q, if_neg (by omega)]
theorem dd_sn {F : Nat → Nat} {d t n : Nat} {done_ : Int32} (h : ¬ t * F d ≤ n) : dd_s F d t (dd_p n done_) = fun _ _ => dd_e := by
  funext s u
  unfold dd_s dd_p
  rw [if_neg (by omega)]
theorem dr_X (F : Nat → Nat) (nd : Nat) : ∀ (j left : Nat) (done_ acc : Int32), q_dr F nd j left done_ acc = ((dd_X F (dd_l nd j) (dd_p left done_)).1, acc &&& (dd_X F (dd_l nd j) (dd_p left done_)).2)
  | 0, left, done_, acc => by
    show (if left = 0 then (1, acc &&& done_) else (0, acc)) = ((if 0 = left then (1, done_ ||| 0) else dd_e).1, acc &&& (if 0 = left then (1, done_ ||| 0) else dd_e).2)
    by_cases h : left = 0
    · rw [if_pos h, if_pos h.symm, Int32.or_zero]
    · rw [if_neg h, if_neg (fun q => h q.symm)]
      exact Prod.ext rfl Int32.and_neg_one.symm
  | j + 1, left, done_, acc => by
    have ih := fun left done_ acc => dr_X F nd j left done_ acc
    show q_dgo 3 (fun t => t * F (nd - (j + 1))) left (fun t a => q_dr F nd j (left - t * F (nd - (j + 1))) (done_ ||| nI 1 <<< (nI (nd - (j + 1)) &&& 31)) a) 1 (q_dr F nd j left done_ acc) = ((dd_4 (fun t => dd_X F (dd_l nd j) (dd_s F (nd - (j + 1)) t (dd_p left done_)))).1, acc &&& (dd_4 (fun t => dd_X F (dd_l nd j) (dd_s F (nd - (j + 1)) t (dd_p left done_)))).2)
    generalize hd : nd - (j + 1) = d
    simp only [dd_4]
    rw [dd_s0]
    by_cases h1 : 1 * F d ≤ left
    · rw [q_dgo_y (f := fun t => t * F d) (t := 1) h1]
      simp only [ih]
      rw [dd_sy (by decide) h1]
      by_cases h2 : (1 + 1) * F d ≤ left
      · rw [q_dgo_y (f := fun t => t * F d) (t := 1 + 1) h2]
        rw [dd_sy (t := 2) (by decide) h2]
        by_cases h3 : (1 + 1 + 1) * F d ≤ left
        · rw [q_dgo_y (f := fun t => t * F d) (t := 1 + 1 + 1) h3, dd_sy (t := 3) (by decide) h3]
          refine Prod.ext ?_ ?_
          · rfl
          · show ((acc &&& _) &&& _) &&& _ &&& _ = acc &&& (((_ &&& _) &&& _) &&& _)
            simp only [Int32.and_assoc]
        · rw [q_dgo_n (n := 1) (f := fun t => t * F d) (t := 1 + 1 + 1) h3, dd_sn (t := 3) h3, dd_no, dd_o1]
          refine Prod.ext ?_ ?_
          · rfl
          · show ((acc &&& _) &&& _) &&& _ = acc &&& ((_ &&& _) &&& _)
            simp only [Int32.and_assoc]
      · rw [q_dgo_n (n := 2) (f := fun t => t * F d) (t := 1 + 1) h2, dd_sn (t := 2) h2, dd_sn (t := 3) (by omega), dd_no, dd_o1, dd_o1]
        refine Prod.ext ?_ ?_
        · rfl
        · show (acc &&& _) &&& _ = acc &&& (_ &&& _)
          simp only [Int32.and_assoc]
    · rw [q_dgo_n (n := 3) (f := fun t => t * F d) (t := 1) h1, dd_sn (t := 1) h1, dd_sn (t := 2) (by omega), dd_sn (t := 3) (by omega), dd_no, dd_o1, dd_o1, dd_o1]
      exact ih left done_ acc
/-- the reference's rows -/
def dd_Y (g : Nat → Nat × Int32) : Nat → Nat × Int32
  | 0 => dd_e
  | n + 1 => dd_o (dd_Y g n) (g n)
theorem dd_Ya (g : Nat → Nat × Int32) (a : Nat) : ∀ b, dd_Y g (a + b) = dd_o (dd_Y g a) (dd_Y (fun i => g (a + i)) b)
  | 0 => (dd_o1 _).symm
  | b + 1 => by
    show dd_o (dd_Y g (a + b)) (g (a + b)) = dd_o (dd_Y g a) (dd_o (dd_Y (fun i => g (a + i)) b) (g (a + b)))
    rw [dd_Ya g a b, dd_oa]
theorem dd_Yc {g g' : Nat → Nat × Int32} : ∀ n, (∀ k, k < n → g k = g' k) → dd_Y g n = dd_Y g' n
  | 0, _ => rfl
  | n + 1, h => by
    unfold dd_Y
    rw [dd_Yc n (fun k hk => h k (by omega)), h n (by omega)]
def dd_t (F : Nat → Nat) (k : Nat) : Nat → Nat
  | 0 => 0
  | d + 1 => dd_t F k d + k / 4 ^ d % 4 * F d
def dd_u (k : Nat) : Nat → Int32
  | 0 => 0
  | d + 1 => dd_b d (k / 4 ^ d % 4) (dd_u k d)
theorem dd_dg {i j d t : Nat} (hd : d < j) : (t * 4 ^ j + i) / 4 ^ d % 4 = i / 4 ^ d % 4 := by
  have e : t * 4 ^ j + i = i + 4 ^ d * (4 * (t * 4 ^ (j - d - 1))) := by
    have : 4 ^ j = 4 ^ d * (4 * 4 ^ (j - d - 1)) := by
      rw [← Nat.pow_succ', ← Nat.pow_add]
      congr 1
      omega
    rw [this, Nat.add_comm]
    congr 1
    rw [Nat.mul_left_comm, Nat.mul_left_comm t]
  rw [e, Nat.add_mul_div_left _ _ (Nat.pow_pos (by decide)), Nat.add_mul_mod_self_left]
theorem dd_dj {i j t : Nat} (hi : i < 4 ^ j) (ht : t < 4) : (t * 4 ^ j + i) / 4 ^ j % 4 = t := by
  rw [Nat.add_comm, Nat.add_mul_div_right _ _ (Nat.pow_pos (by decide)), Nat.div_eq_of_lt hi, Nat.zero_add, Nat.mod_eq_of_lt ht]
theorem dd_tu (F : Nat → Nat) {i j t : Nat} : ∀ d, d ≤ j → dd_t F (t * 4 ^ j + i) d = dd_t F i d ∧ dd_u (t * 4 ^ j + i) d = dd_u i d
  | 0, _ => ⟨rfl, rfl⟩
  | d + 1, h => by
    obtain ⟨a, b⟩ := dd_tu F (i := i) (j := j) (t := t) d (by omega)
    unfold dd_t dd_u
    rw [a, b, dd_dg (by omega)]
    exact ⟨rfl, rfl⟩
theorem dd_YX (F : Nat → Nat) : ∀ (j : Nat) (p : Nat → Int32 → Nat × Int32), dd_Y (fun k => p (dd_t F k j) (dd_u k j)) (4 ^ j) = dd_X F (dd_r j) p
  | 0, p => dd_1o _
  | j + 1, p => by
    have st : ∀ t, t < 4 → dd_Y (fun i => p (dd_t F (t * 4 ^ j + i) (j + 1)) (dd_u (t * 4 ^ j + i) (j + 1))) (4 ^ j) = dd_X F (dd_r j) (dd_s F j t p) := fun t ht => by
      rw [← dd_YX F j]
      refine dd_Yc _ (fun i hi => ?_)
      show p (dd_t F (t * 4 ^ j + i) j + (t * 4 ^ j + i) / 4 ^ j % 4 * F j) (dd_b j ((t * 4 ^ j + i) / 4 ^ j % 4) (dd_u (t * 4 ^ j + i) j)) = p (dd_t F i j + t * F j) (dd_b j t (dd_u i j))
      rw [dd_dj hi ht, (dd_tu F j (Nat.le_refl _)).1, (dd_tu F j (Nat.le_refl _)).2]
    show dd_Y _ (4 ^ j * 4) = dd_4 (fun t => dd_X F (dd_r j) (dd_s F j t p))
    simp only [dd_4]
    rw [← st 0 (by decide), ← st 1 (by decide), ← st 2 (by decide), ← st 3 (by decide)]
    rw [show 4 ^ j * 4 = 0 * 4 ^ j + 4 ^ j + 4 ^ j + 4 ^ j + 4 ^ j by omega, dd_Ya, dd_Ya, dd_Ya, dd_Ya]
    rw [show dd_Y (fun k => p (dd_t F k (j + 1)) (dd_u k (j + 1))) (0 * 4 ^ j) = dd_e by rw [Nat.zero_mul]; rfl, dd_1o]
    refine congr (congrArg dd_o (congr (congrArg dd_o (congrArg (dd_o _) ?_)) ?_)) ?_
    · exact dd_Yc _ (fun i _ => by rw [show 0 * 4 ^ j + 4 ^ j + i = 1 * 4 ^ j + i by omega])
    · exact dd_Yc _ (fun i _ => by rw [show 0 * 4 ^ j + 4 ^ j + 4 ^ j + i = 2 * 4 ^ j + i by omega])
    · exact dd_Yc _ (fun i _ => by rw [show 0 * 4 ^ j + 4 ^ j + 4 ^ j + 4 ^ j + i = 3 * 4 ^ j + i by omega])
theorem tms_n : ∀ d : Fin 8, ((nI (2 * d.1) &&& 31).toBitVec.smod 32).toNat = 2 * d.1 := by decide +kernel
theorem tms_e {k d : Nat} (hk : k < 2 ^ 31) (hd : d < 8) : q_tms k d = nI (k / 4 ^ d % 4) := by
  unfold q_tms
  rw [pk_shrN hk _ (2 * d) (tms_n ⟨d, hd⟩), pk_andN (k := 2) (Nat.lt_of_le_of_lt (Nat.div_le_self _ _) (by omega)) (by decide), Nat.pow_mul]
theorem rk_tu {Fr : Nat → Int32} {F : Nat → Nat} (hF : ∀ d, d < 8 → Fr d = nI (F d) ∧ F d ≤ 999) {k : Nat} (hk : k < 2 ^ 31) : ∀ nd, nd ≤ 8 → q_rk Fr nd k = (nI (dd_t F k nd), dd_u k nd) ∧ dd_t F k nd ≤ 2997 * nd
  | 0, _ => ⟨rfl, Nat.le_refl _⟩
  | nd + 1, h => by
    obtain ⟨a, b⟩ := rk_tu hF hk nd (by omega)
    obtain ⟨f1, f2⟩ := hF nd (by omega)
    have h4 : k / 4 ^ nd % 4 < 4 := Nat.mod_lt _ (by decide)
    have hm : k / 4 ^ nd % 4 * F nd ≤ 3 * 999 := Nat.mul_le_mul (by omega) f2
    have e : q_rk Fr (nd + 1) k = f_rs Fr k nd (q_rk Fr nd k) := rfl
    have et : dd_t F k (nd + 1) = dd_t F k nd + k / 4 ^ nd % 4 * F nd := rfl
    have eu : dd_u k (nd + 1) = dd_b nd (k / 4 ^ nd % 4) (dd_u k nd) := rfl
    refine ⟨?_, by rw [et]; omega⟩
    rw [e, a, et, eu]
    unfold f_rs dd_b
    rw [tms_e hk (by omega), f1]
    by_cases h0 : k / 4 ^ nd % 4 = 0
    · rw [h0, if_pos (by decide), if_pos rfl, Nat.zero_mul, Nat.add_zero]
      refine Prod.ext ?_ rfl
      show nI (dd_t F k nd) + nI 0 * nI (F nd) = _
      rw [show nI 0 * nI (F nd) = 0 from Int32.zero_mul, Int32.add_zero]
    · rw [if_neg (nI_nle (by omega) (by omega)), if_neg h0]
      refine Prod.ext ?_ rfl
      show nI (dd_t F k nd) + nI (k / 4 ^ nd % 4) * nI (F nd) = _
      rw [pk_mul, nI_add]
theorem rws_Y {Fr : Nat → Int32} {F : Nat → Nat} (hF : ∀ d, d < 8 → Fr d = nI (F d) ∧ F d ≤ 999) {nd n : Nat} (hnd : nd ≤ 8) (hn : n ≤ 9999) : ∀ K, K ≤ 65536 → q_rws Fr nd (nI n) K = (nI (dd_Y (fun k => dd_p n 0 (dd_t F k nd) (dd_u k nd)) K).1, if (dd_Y (fun k => dd_p n 0 (dd_t F k nd) (dd_u k nd)) K).1 = 0 then nI 0 else (dd_Y (fun k => dd_p n 0 (dd_t F k nd) (dd_u k nd)) K).2) ∧ (dd_Y (fun k => dd_p n 0 (dd_t F k nd) (dd_u k nd)) K).1 ≤ K ∧ ((dd_Y (fun k => dd_p n 0 (dd_t F k nd) (dd_u k nd)) K).1 = 0 → (dd_Y (fun k => dd_p n 0 (dd_t F k nd) (dd_u k nd)) K).2 = -1)
  | 0, _ => ⟨rfl, Nat.le_refl _, fun _ => rfl⟩
  | K + 1, h => by
    obtain ⟨a, b, y2⟩ := rws_Y hF hnd hn K (by omega)
    obtain ⟨c1, c2⟩ := rk_tu hF (k := K) (by omega) nd hnd
    have e : q_rws Fr nd (nI n) (K + 1) = f_rw Fr nd (nI n) K (q_rws Fr nd (nI n) K) := rfl
    have eY : dd_Y (fun k => dd_p n 0 (dd_t F k nd) (dd_u k nd)) (K + 1) = dd_o (dd_Y (fun k => dd_p n 0 (dd_t F k nd) (dd_u k nd)) K) (dd_p n 0 (dd_t F K nd) (dd_u K nd)) := rfl
    rw [e, eY, a]
    generalize dd_Y (fun k => dd_p n 0 (dd_t F k nd) (dd_u k nd)) K = Y at b y2 ⊢
    unfold f_rw dd_p
    rw [c1]
    by_cases q : dd_t F K nd = n
    · rw [if_pos (show nI (dd_t F K nd) = nI n by rw [q]), if_pos q, Int32.zero_or]
      by_cases y0 : Y.1 = 0
      · rw [if_pos (show nI Y.1 = 0 by rw [y0]; rfl)]
        refine ⟨Prod.ext ?_ ?_, ?_, fun z => absurd z (Nat.succ_ne_zero _)⟩
        · exact nI_add _ _
        · show dd_u K nd = if Y.1 + 1 = 0 then nI 0 else Y.2 &&& dd_u K nd
          rw [if_neg (by omega), y2 y0, Int32.neg_one_and]
        · show Y.1 + 1 ≤ K + 1
          omega
      · rw [if_neg (show ¬ nI Y.1 = 0 from nI_ne0 (by omega) (by omega)), if_neg y0]
        refine ⟨Prod.ext ?_ ?_, ?_, fun z => absurd z (Nat.succ_ne_zero _)⟩
        · exact nI_add _ _
        · show Y.2 &&& dd_u K nd = if Y.1 + 1 = 0 then nI 0 else Y.2 &&& dd_u K nd
          rw [if_neg (by omega)]
        · show Y.1 + 1 ≤ K + 1
          omega
    · rw [if_neg (fun z => q ((nI_eq (by omega) (by omega)).mp z)), if_neg q, dd_o1]
      exact ⟨rfl, by omega, y2⟩

def dd_g (m : Int32) (a : Nat × Int32) : Prop := a.1 ≠ 0 → a.2 &&& m = a.2
theorem dd_go {m : Int32} {a b : Nat × Int32} (ha : dd_g m a) (hb : dd_g m b) : dd_g m (dd_o a b) := fun h => by
  show (a.2 &&& b.2) &&& m = a.2 &&& b.2
  by_cases h1 : a.1 = 0
  · rw [Int32.and_assoc, hb (fun q => h (show a.1 + b.1 = 0 by omega))]
  · rw [Int32.and_assoc, Int32.and_comm b.2, ← Int32.and_assoc, ha h1]
theorem dd_gX {m : Int32} (F : Nat → Nat) : ∀ (l : List Nat) (p : Nat → Int32 → Nat × Int32), (∀ d, d ∈ l → (nI 1 <<< (nI d &&& 31)) &&& m = nI 1 <<< (nI d &&& 31)) → (∀ s u, u &&& m = u → dd_g m (p s u)) → dd_g m (dd_X F l p)
  | [], p, _, hp => hp 0 0 Int32.zero_and
  | d :: ds, p, hl, hp => by
    have st : ∀ t, dd_g m (dd_X F ds (dd_s F d t p)) := fun t => dd_gX F ds _ (fun x hx => hl x (List.mem_cons_of_mem _ hx)) (fun s u hu => by
      refine hp _ _ ?_
      unfold dd_b
      split
      · exact hu
      · refine Int32.toBitVec_inj.1 ?_
        have h1 := Int32.toBitVec_inj.2 hu
        have h2 := Int32.toBitVec_inj.2 (hl d List.mem_cons_self)
        rw [Int32.toBitVec_and] at h1 h2
        rw [Int32.toBitVec_and, Int32.toBitVec_or, BitVec.and_or_distrib_right, h1, h2])
    exact dd_go (dd_go (dd_go (st 0) (st 1)) (st 2)) (st 3)
theorem dd_ms : ∀ nd : Fin 9, ∀ d : Fin 8, d.1 < nd.1 → (nI 1 <<< (nI d.1 &&& 31)) &&& nI (2 ^ nd.1 - 1) = nI 1 <<< (nI d.1 &&& 31) := by decide +kernel
/-- both sides' rows -/
theorem did_RC {Fr : Nat → Int32} {F F' : Nat → Nat} {nd n : Nat} (hnd : nd ≤ 8) (hn : n ≤ 9999) (hF : ∀ d, d < 8 → Fr d = nI (F d) ∧ F d ≤ 999) (hFF : ∀ d, d < nd → F' d = F d) : (q_rws Fr nd (nI n) (2 ^ (2 * nd))).1 = nI (q_dr F' nd nd n (nI 0) (nI (2 ^ nd - 1))).1 ∧ (q_rws Fr nd (nI n) (2 ^ (2 * nd))).2 = (if (q_dr F' nd nd n (nI 0) (nI (2 ^ nd - 1))).1 = 0 then nI 0 else (q_dr F' nd nd n (nI 0) (nI (2 ^ nd - 1))).2) := by
  have hp : (2 : Nat) ^ (2 * nd) = 4 ^ nd := Nat.pow_mul 2 2 nd
  have hK : (4 : Nat) ^ nd ≤ 65536 := Nat.le_trans (Nat.pow_le_pow_right (by decide) hnd) (by decide)
  obtain ⟨a, b, -⟩ := rws_Y hF hnd hn _ hK
  have eX : dd_X F' (dd_l nd nd) (dd_p n (nI 0)) = dd_X F (dd_r nd) (dd_p n 0) := (dd_pm (dd_lr hnd) _).trans (dd_co _ _ (fun d hd => hFF d (dd_mr nd d hd)))
  have eY := dd_YX F nd (dd_p n 0)
  rw [eY] at a b
  have hg : dd_g (nI (2 ^ nd - 1)) (dd_X F (dd_r nd) (dd_p n 0)) := dd_gX F (dd_r nd) _ (fun d hd => dd_ms ⟨nd, by omega⟩ ⟨d, by have := dd_mr nd d hd; omega⟩ (dd_mr nd d hd)) (fun s u hu => by
    unfold dd_p
    split
    · intro _
      show (0 ||| u) &&& _ = 0 ||| u
      rw [Int32.zero_or, hu]
    · exact fun q => absurd rfl q)
  rw [hp, a, dr_X, eX]
  refine ⟨rfl, ?_⟩
  show (if (dd_X F (dd_r nd) (dd_p n 0)).1 = 0 then nI 0 else (dd_X F (dd_r nd) (dd_p n 0)).2) = if (dd_X F (dd_r nd) (dd_p n 0)).1 = 0 then nI 0 else nI (2 ^ nd - 1) &&& (dd_X F (dd_r nd) (dd_p n 0)).2
  by_cases h : (dd_X F (dd_r nd) (dd_p n 0)).1 = 0
  · rw [if_pos h, if_pos h]
  · rw [if_neg h, if_neg h, Int32.and_comm]
    exact (hg h).symm
theorem fi_n (R C : Nat → Int32) (LW : q_LW) (lv nc w m d : Nat) : q_fin R C LW lv nc w m d = nI (q_fi R C LW lv nc w m d) ∧ q_fi R C LW lv nc w m d ≤ 999 := by
  obtain ⟨k, hk, e⟩ := q_held_n (q_tel (q_see R C lv nc w m (q_s8 R (8 * m)) (R (136 + 8 * m + d))) (LW d) (nI 10))
  have e2 : q_fin R C LW lv nc w m d = nI k := e
  unfold q_fi
  rw [e2, nI_clamp (by omega)]
  exact ⟨rfl, hk⟩
theorem st_did (l : Launch) (g : q_GP) {i : Nat} {h : q_H} (hi : i ≤ 512) (hR : RR i h) (x z : Int32) : q_2 l g i h mX9_did [.ref 0, .int x, .int z] mX10_did [.ref 124, .int x, .int z] := by
  obtain ⟨aS, aT, aP, aW, aZ, p, nm, nd, nc, mo, n, lv, LW, gu, aL, aN, aU, aH, aD⟩ := id hR
  have hs := aS.1
  obtain ⟨hp, hLk, hm, hLm, aP3, aG, aC, aV⟩ := id aL
  have hnm : nm ≤ 8 := hp.2.2.2.2.2.1
  have hnd : nd ≤ 8 := hp.2.2.2.2.2.2.2.1
  have hq := rel_req aN
  have hC := sC_of aC
  obtain ⟨w, E, em, ed, ew, ep, ea, f, rw_, sv, tm⟩ := id aN
  have hwc : q_I h 34 6 = nI w := sv.1
  have hwr : q_I h 154 200 = nI w := rw_.1
  have hw2 : w < 2 ^ 19 := by have := rw_.2.1; omega
  have hw3 : w < 2 ^ 20 := by omega
  have hE1 : q_I h 34 5 = nI E := sv.2.1
  have hEr : q_I h 154 201 = nI E := rw_.2.2.1
  have hE2 : E ≤ 300 := rw_.2.2.2.1
  have hEE := rel_E (by omega) hnm rw_ sv
  have hrn := rw_.2.2.2.2.2.2.1
  have hns : q_ns f 72 < 2 ^ 30 := by have := rw_.2.2.2.2.2.2.2.1; omega
  have hs8 : ∀ k, k < 9 → q_s8 (q_cr h) (8 * k) = q_s8 (q_I h 154) (8 * k) := fun k hk => q_s8_rq hq (by omega)
  have hhv : ∀ k, k < 9 → q_s8 (q_I h 154) (8 * k) = nI (q_hv f k) ∧ q_hv f k < 2 ^ 30 := fun k hk => ⟨q_rn_s8 hrn hk, by have := q_hv_le f hk; omega⟩
  by_cases hx : q_isN x nm ∧ ∃ k, 0 ≤ k ∧ k ≤ 9999 ∧ z = nI k
  · obtain ⟨hx, k, -, hk9, rfl⟩ := hx
    obtain ⟨m, hm8, rfl⟩ := isN_e (by omega) hx
    have hD := did_RC (Fr := fun d => q_fin (q_I h 154) (q_I h 140) LW lv nc w m d) (F := fun d => q_fi (q_I h 154) (q_I h 140) LW lv nc w m d) (F' := q_fi (q_cr h) (q_I h (p + 5)) LW 0 nc w m) hnd hk9 (fun d _ => fi_n _ _ _ _ _ _ _ _) (fun d hd => fi_RC hq hC w (by omega) (by omega))
    exact q_2q hR (v2 := (q_rws (fun d => q_fin (q_I h 154) (q_I h 140) LW lv nc w m d) nd (nI k) (2 ^ (2 * nd))).1) (d2 := 4) (by decide) (by decide) (q_Ct_k (c_X9_did_t l g h hs hp (hLk (by omega)) hwc hw3 hm8 hk9)) (hD.1) (fun h1 hk => by
    obtain ⟨hs1, aL1, er⟩ := rel_1 hk hs aL
    have e154 := er 154 (by decide)
    have e140 := er 140 (by decide)
    have e124 := er 124 (by decide)
    have c := c_X10_did_t l g h1 hs1 aL1.2.2.1 aL1.2.2.2.1 (by rw [e154]; exact hwr) hw3 hm8 hk9
    (try simp only [e154, e140, e124] at c)
    exact c)
  · exact q_2q hR  (d2 := 4) (by decide) (by decide) (q_Ct_d (c_X9_did_f l g h hs hp x z hx)) (rfl) (fun h1 hk => by
    obtain ⟨hs1, aL1, er⟩ := rel_1 hk hs aL
    have e154 := er 154 (by decide)
    have e140 := er 140 (by decide)
    have e124 := er 124 (by decide)
    have c := c_X10_did_f l g h1 hs1 aL1.2.2.1 x z hx
    (try simp only [e154, e140, e124] at c)
    exact q_Ct_m c)
theorem st_surely (l : Launch) (g : q_GP) {i : Nat} {h : q_H} (hi : i ≤ 512) (hR : RR i h) (x z : Int32) : q_2 l g i h mX9_surely [.ref 0, .int x, .int z] mX10_surely [.ref 124, .int x, .int z] := by
  obtain ⟨aS, aT, aP, aW, aZ, p, nm, nd, nc, mo, n, lv, LW, gu, aL, aN, aU, aH, aD⟩ := id hR
  have hs := aS.1
  obtain ⟨hp, hLk, hm, hLm, aP3, aG, aC, aV⟩ := id aL
  have hnm : nm ≤ 8 := hp.2.2.2.2.2.1
  have hnd : nd ≤ 8 := hp.2.2.2.2.2.2.2.1
  have hq := rel_req aN
  have hC := sC_of aC
  obtain ⟨w, E, em, ed, ew, ep, ea, f, rw_, sv, tm⟩ := id aN
  have hwc : q_I h 34 6 = nI w := sv.1
  have hwr : q_I h 154 200 = nI w := rw_.1
  have hw2 : w < 2 ^ 19 := by have := rw_.2.1; omega
  have hw3 : w < 2 ^ 20 := by omega
  have hE1 : q_I h 34 5 = nI E := sv.2.1
  have hEr : q_I h 154 201 = nI E := rw_.2.2.1
  have hE2 : E ≤ 300 := rw_.2.2.2.1
  have hEE := rel_E (by omega) hnm rw_ sv
  have hrn := rw_.2.2.2.2.2.2.1
  have hns : q_ns f 72 < 2 ^ 30 := by have := rw_.2.2.2.2.2.2.2.1; omega
  have hs8 : ∀ k, k < 9 → q_s8 (q_cr h) (8 * k) = q_s8 (q_I h 154) (8 * k) := fun k hk => q_s8_rq hq (by omega)
  have hhv : ∀ k, k < 9 → q_s8 (q_I h 154) (8 * k) = nI (q_hv f k) ∧ q_hv f k < 2 ^ 30 := fun k hk => ⟨q_rn_s8 hrn hk, by have := q_hv_le f hk; omega⟩
  by_cases hx : q_isN x nm ∧ ∃ k, 0 ≤ k ∧ k ≤ 9999 ∧ z = nI k
  · obtain ⟨hx, k, -, hk9, rfl⟩ := hx
    obtain ⟨m, hm8, rfl⟩ := isN_e (by omega) hx
    have hD := did_RC (Fr := fun d => q_fin (q_I h 154) (q_I h 140) LW lv nc w m d) (F := fun d => q_fi (q_I h 154) (q_I h 140) LW lv nc w m d) (F' := q_fi (q_cr h) (q_I h (p + 5)) LW 0 nc w m) hnd hk9 (fun d _ => fi_n _ _ _ _ _ _ _ _) (fun d hd => fi_RC hq hC w (by omega) (by omega))
    exact q_2q hR (v2 := (q_rws (fun d => q_fin (q_I h 154) (q_I h 140) LW lv nc w m d) nd (nI k) (2 ^ (2 * nd))).2) (d2 := 4) (by decide) (by decide) (q_Ct_k (c_X9_surely_t l g h hs hp (hLk (by omega)) hwc hw3 hm8 hk9)) (hD.2) (fun h1 hk => by
    obtain ⟨hs1, aL1, er⟩ := rel_1 hk hs aL
    have e154 := er 154 (by decide)
    have e140 := er 140 (by decide)
    have e124 := er 124 (by decide)
    have c := c_X10_surely_t l g h1 hs1 aL1.2.2.1 aL1.2.2.2.1 (by rw [e154]; exact hwr) hw3 hm8 hk9
    (try simp only [e154, e140, e124] at c)
    exact c)
  · exact q_2q hR  (d2 := 4) (by decide) (by decide) (q_Ct_d (c_X9_surely_f l g h hs hp x z hx)) (rfl) (fun h1 hk => by
    obtain ⟨hs1, aL1, er⟩ := rel_1 hk hs aL
    have e154 := er 154 (by decide)
    have e140 := er 140 (by decide)
    have e124 := er 124 (by decide)
    have c := c_X10_surely_f l g h1 hs1 aL1.2.2.1 x z hx
    (try simp only [e154, e140, e124] at c)
    exact q_Ct_m c)
