/-! steps over ints that are numbers of cells: nI -/
section QN
variable {l : Launch} {g : q_GP} {d : Nat} {y : q_MI} {pc : Nat} {L : List (Nat × Value)} {S : List Value} {h : q_H} {Q : Option Value → q_H → Prop}
theorem xn_iadd {a b : Nat} (hd : decode y.2.1 pc = .ok (.iadd, 1)) (K : q_Ex l g d y (pc + 1) L (.int (nI (a + b)) :: S) h Q) : q_Ex l g d y pc L (.int (nI b) :: .int (nI a) :: S) h Q :=
  xe_iadd hd (by rw [nI_add]; exact K)
theorem xn_imul {a b : Nat} (hd : decode y.2.1 pc = .ok (.imul, 1)) (K : q_Ex l g d y (pc + 1) L (.int (nI (a * b)) :: S) h Q) : q_Ex l g d y pc L (.int (nI b) :: .int (nI a) :: S) h Q :=
  xe_imul hd (by rw [pk_mul]; exact K)
theorem xn_isub {a b : Nat} (hd : decode y.2.1 pc = .ok (.isub, 1)) (hb : b ≤ a) (K : q_Ex l g d y (pc + 1) L (.int (nI (a - b)) :: S) h Q) : q_Ex l g d y pc L (.int (nI b) :: .int (nI a) :: S) h Q :=
  xe_isub hd (by rw [pk_sub hb]; exact K)
theorem xn_idiv {a b : Nat} (hd : decode y.2.1 pc = .ok (.idiv, 1)) (h0 : 0 < b) (ha : a < 2 ^ 31) (hb : b < 2 ^ 31) (K : q_Ex l g d y (pc + 1) L (.int (nI (a / b)) :: S) h Q) : q_Ex l g d y pc L (.int (nI b) :: .int (nI a) :: S) h Q :=
  xe_idiv hd (nI_ne0 h0 hb) (by rw [pk_div ha h0 hb]; exact K)
theorem xn_irem {a b : Nat} (hd : decode y.2.1 pc = .ok (.irem, 1)) (h0 : 0 < b) (ha : a < 2 ^ 31) (hb : b < 2 ^ 31) (K : q_Ex l g d y (pc + 1) L (.int (nI (a % b)) :: S) h Q) : q_Ex l g d y pc L (.int (nI b) :: .int (nI a) :: S) h Q :=
  xe_irem hd (nI_ne0 h0 hb) (by rw [pk_rem ha h0 hb]; exact K)
theorem xn_iinc {i a k : Nat} {n : Int} (hd : decode y.2.1 pc = .ok (.iinc i n, 3)) (hi : L.lookup i = some (.int (nI a))) (hn : Int32.ofInt n = nI k) (K : q_Ex l g d y (pc + 3) ((i, .int (nI (a + k))) :: L) S h Q) : q_Ex l g d y pc L S h Q :=
  xe_iinc hd hi (v := nI (a + k)) (by rw [hn, nI_add]) K
theorem xn_icmp_eq {a b : Nat} {off : Int} {tgt : Nat} (hd : decode y.2.1 pc = .ok (.if_icmp .eq off, 3)) (ht : (pc : Int) + off = (tgt : Int)) (ha : a < 2 ^ 31) (hb : b < 2 ^ 31) (K1 : a = b → q_Ex l g d y tgt L S h Q) (K2 : ¬ a = b → q_Ex l g d y (pc + 3) L S h Q) : q_Ex l g d y pc L (.int (nI b) :: .int (nI a) :: S) h Q :=
  xe_icmp_eq hd ht (fun c => K1 ((nI_eq ha hb).mp c)) (fun c => K2 (fun q => c ((nI_eq ha hb).mpr q)))
theorem xn_icmp_ne {a b : Nat} {off : Int} {tgt : Nat} (hd : decode y.2.1 pc = .ok (.if_icmp .ne off, 3)) (ht : (pc : Int) + off = (tgt : Int)) (ha : a < 2 ^ 31) (hb : b < 2 ^ 31) (K1 : ¬ a = b → q_Ex l g d y tgt L S h Q) (K2 : a = b → q_Ex l g d y (pc + 3) L S h Q) : q_Ex l g d y pc L (.int (nI b) :: .int (nI a) :: S) h Q :=
  xe_icmp_ne hd ht (fun c => K1 (fun q => c ((nI_eq ha hb).mpr q))) (fun c => K2 ((nI_eq ha hb).mp c))
theorem xn_icmp_lt {a b : Nat} {off : Int} {tgt : Nat} (hd : decode y.2.1 pc = .ok (.if_icmp .lt off, 3)) (ht : (pc : Int) + off = (tgt : Int)) (ha : a < 2 ^ 31) (hb : b < 2 ^ 31) (K1 : a < b → q_Ex l g d y tgt L S h Q) (K2 : ¬ a < b → q_Ex l g d y (pc + 3) L S h Q) : q_Ex l g d y pc L (.int (nI b) :: .int (nI a) :: S) h Q :=
  xe_icmp_lt hd ht (fun c => K1 ((nI_ltI ha hb).mp c)) (fun c => K2 (fun q => c ((nI_ltI ha hb).mpr q)))
theorem xn_icmp_ge {a b : Nat} {off : Int} {tgt : Nat} (hd : decode y.2.1 pc = .ok (.if_icmp .ge off, 3)) (ht : (pc : Int) + off = (tgt : Int)) (ha : a < 2 ^ 31) (hb : b < 2 ^ 31) (K1 : b ≤ a → q_Ex l g d y tgt L S h Q) (K2 : ¬ b ≤ a → q_Ex l g d y (pc + 3) L S h Q) : q_Ex l g d y pc L (.int (nI b) :: .int (nI a) :: S) h Q :=
  xe_icmp_ge hd ht (fun c => K1 ((nI_leI hb ha).mp c)) (fun c => K2 (fun q => c ((nI_leI hb ha).mpr q)))
theorem xn_icmp_gt {a b : Nat} {off : Int} {tgt : Nat} (hd : decode y.2.1 pc = .ok (.if_icmp .gt off, 3)) (ht : (pc : Int) + off = (tgt : Int)) (ha : a < 2 ^ 31) (hb : b < 2 ^ 31) (K1 : b < a → q_Ex l g d y tgt L S h Q) (K2 : ¬ b < a → q_Ex l g d y (pc + 3) L S h Q) : q_Ex l g d y pc L (.int (nI b) :: .int (nI a) :: S) h Q :=
  xe_icmp_gt hd ht (fun c => K1 ((nI_ltI hb ha).mp c)) (fun c => K2 (fun q => c ((nI_ltI hb ha).mpr q)))
theorem xn_icmp_le {a b : Nat} {off : Int} {tgt : Nat} (hd : decode y.2.1 pc = .ok (.if_icmp .le off, 3)) (ht : (pc : Int) + off = (tgt : Int)) (ha : a < 2 ^ 31) (hb : b < 2 ^ 31) (K1 : a ≤ b → q_Ex l g d y tgt L S h Q) (K2 : ¬ a ≤ b → q_Ex l g d y (pc + 3) L S h Q) : q_Ex l g d y pc L (.int (nI b) :: .int (nI a) :: S) h Q :=
  xe_icmp_le hd ht (fun c => K1 ((nI_leI ha hb).mp c)) (fun c => K2 (fun q => c ((nI_leI ha hb).mpr q)))
theorem xn_if_eq {a : Nat} {off : Int} {tgt : Nat} (hd : decode y.2.1 pc = .ok (.ifCond .eq off, 3)) (ht : (pc : Int) + off = (tgt : Int)) (ha : a < 2 ^ 31) (K1 : a = 0 → q_Ex l g d y tgt L S h Q) (K2 : ¬ a = 0 → q_Ex l g d y (pc + 3) L S h Q) : q_Ex l g d y pc L (.int (nI a) :: S) h Q :=
  xe_if_eq hd ht (fun c => K1 ((nI_eq ha (by decide)).mp c)) (fun c => K2 (fun q => c (by rw [q]; rfl)))
theorem xn_if_ne {a : Nat} {off : Int} {tgt : Nat} (hd : decode y.2.1 pc = .ok (.ifCond .ne off, 3)) (ht : (pc : Int) + off = (tgt : Int)) (ha : a < 2 ^ 31) (K1 : ¬ a = 0 → q_Ex l g d y tgt L S h Q) (K2 : a = 0 → q_Ex l g d y (pc + 3) L S h Q) : q_Ex l g d y pc L (.int (nI a) :: S) h Q :=
  xe_if_ne hd ht (fun c => K1 (fun q => c (by rw [q]; rfl))) (fun c => K2 ((nI_eq ha (by decide)).mp c))
theorem xn_if_lt {a : Nat} {off : Int} {tgt : Nat} (hd : decode y.2.1 pc = .ok (.ifCond .lt off, 3)) (ht : (pc : Int) + off = (tgt : Int)) (ha : a < 2 ^ 31) (K2 : q_Ex l g d y (pc + 3) L S h Q) : q_Ex l g d y pc L (.int (nI a) :: S) h Q :=
  xe_if_lt hd ht (fun c => absurd c (nI_pos ha)) (fun _ => K2)
theorem xn_if_ge {a : Nat} {off : Int} {tgt : Nat} (hd : decode y.2.1 pc = .ok (.ifCond .ge off, 3)) (ht : (pc : Int) + off = (tgt : Int)) (ha : a < 2 ^ 31) (K1 : q_Ex l g d y tgt L S h Q) : q_Ex l g d y pc L (.int (nI a) :: S) h Q :=
  xe_if_ge hd ht (fun _ => K1) (fun c => absurd (nI_pos' ha) c)
theorem xn_if_gt {a : Nat} {off : Int} {tgt : Nat} (hd : decode y.2.1 pc = .ok (.ifCond .gt off, 3)) (ht : (pc : Int) + off = (tgt : Int)) (ha : a < 2 ^ 31) (K1 : 0 < a → q_Ex l g d y tgt L S h Q) (K2 : ¬ 0 < a → q_Ex l g d y (pc + 3) L S h Q) : q_Ex l g d y pc L (.int (nI a) :: S) h Q :=
  xe_if_gt hd ht (fun c => K1 ((nI_ltI (a := 0) (by decide) ha).mp c)) (fun c => K2 (fun q => c ((nI_ltI (a := 0) (by decide) ha).mpr q)))
theorem xn_if_le {a : Nat} {off : Int} {tgt : Nat} (hd : decode y.2.1 pc = .ok (.ifCond .le off, 3)) (ht : (pc : Int) + off = (tgt : Int)) (ha : a < 2 ^ 31) (K1 : a = 0 → q_Ex l g d y tgt L S h Q) (K2 : ¬ a = 0 → q_Ex l g d y (pc + 3) L S h Q) : q_Ex l g d y pc L (.int (nI a) :: S) h Q :=
  xe_if_le hd ht (fun c => K1 (Nat.le_zero.mp ((nI_leI (b := 0) ha (by decide)).mp c))) (fun c => K2 (fun q => c ((nI_leI (b := 0) ha (by decide)).mpr (Nat.le_of_eq q))))
theorem xn_iald {r n i : Nat} (hd : decode y.2.1 pc = .ok (.iaload, 1)) (hs : q_Sh h r 100 n) (hi : i < n) (hn : n < 2 ^ 31) (K : q_Ex l g d y (pc + 1) L (.int (q_I h r i) :: S) h Q) : q_Ex l g d y pc L (.int (nI i) :: .ref r :: S) h Q :=
  xe_iald hd hs (vp_in_nI hi hn) (by rw [nI_clamp (Nat.lt_trans hi hn)]; exact K)
theorem xn_bald {r n i : Nat} (hd : decode y.2.1 pc = .ok (.baload, 1)) (hs : q_Sh h r 101 n) (hi : i < n) (hn : n < 2 ^ 31) (K : q_Ex l g d y (pc + 1) L (.int (q_I h r i) :: S) h Q) : q_Ex l g d y pc L (.int (nI i) :: .ref r :: S) h Q :=
  xe_bald hd hs (vp_in_nI hi hn) (by rw [nI_clamp (Nat.lt_trans hi hn)]; exact K)
theorem xn_zald {r n i : Nat} (hd : decode y.2.1 pc = .ok (.baload, 1)) (hs : q_Sh h r 102 n) (hi : i < n) (hn : n < 2 ^ 31) (K : q_Ex l g d y (pc + 1) L (.int (q_I h r i) :: S) h Q) : q_Ex l g d y pc L (.int (nI i) :: .ref r :: S) h Q :=
  xe_zald hd hs (vp_in_nI hi hn) (by rw [nI_clamp (Nat.lt_trans hi hn)]; exact K)
theorem xn_lald {r n i : Nat} (hd : decode y.2.1 pc = .ok (.laload, 1)) (hs : q_Sh h r 103 n) (hi : i < n) (hn : n < 2 ^ 31) (K : q_Ex l g d y (pc + 1) L (.long (q_J h r i) :: S) h Q) : q_Ex l g d y pc L (.int (nI i) :: .ref r :: S) h Q :=
  xe_lald hd hs (vp_in_nI hi hn) (by rw [nI_clamp (Nat.lt_trans hi hn)]; exact K)
theorem xn_iast {r n i : Nat} {x : Int32} (hd : decode y.2.1 pc = .ok (.iastore, 1)) (hs : q_Sh h r 100 n) (hi : i < n) (hn : n < 2 ^ 31) (K : q_Ex l g d y (pc + 1) L S (q_wI h r (upd (q_I h r) i x)) Q) : q_Ex l g d y pc L (.int x :: .int (nI i) :: .ref r :: S) h Q :=
  xe_iast hd hs (vp_in_nI hi hn) (by rw [nI_clamp (Nat.lt_trans hi hn)]; exact K)
theorem xn_bast {r n i : Nat} {x v : Int32} (hd : decode y.2.1 pc = .ok (.bastore, 1)) (hs : q_Sh h r 101 n) (hi : i < n) (hn : n < 2 ^ 31) (hv : x.toInt8.toInt32 = v) (K : q_Ex l g d y (pc + 1) L S (q_wI h r (upd (q_I h r) i v)) Q) : q_Ex l g d y pc L (.int x :: .int (nI i) :: .ref r :: S) h Q :=
  xe_bast hd hs (vp_in_nI hi hn) (by rw [nI_clamp (Nat.lt_trans hi hn), vp_nar_byte, hv]; exact K)
theorem xn_zast {r n i : Nat} {x : Int32} (hd : decode y.2.1 pc = .ok (.bastore, 1)) (hs : q_Sh h r 102 n) (hi : i < n) (hn : n < 2 ^ 31) (hv : vp_nar .boolean x = x) (K : q_Ex l g d y (pc + 1) L S (q_wI h r (upd (q_I h r) i x)) Q) : q_Ex l g d y pc L (.int x :: .int (nI i) :: .ref r :: S) h Q :=
  xe_zast hd hs (vp_in_nI hi hn) (by rw [nI_clamp (Nat.lt_trans hi hn), hv]; exact K)
theorem xn_last {r n i : Nat} {x : Int64} (hd : decode y.2.1 pc = .ok (.lastore, 1)) (hs : q_Sh h r 103 n) (hi : i < n) (hn : n < 2 ^ 31) (K : q_Ex l g d y (pc + 1) L S (q_wJ h r (vp_updL (q_J h r) i x)) Q) : q_Ex l g d y pc L (.long x :: .int (nI i) :: .ref r :: S) h Q :=
  xe_last hd hs (vp_in_nI hi hn) (by rw [nI_clamp (Nat.lt_trans hi hn)]; exact K)
/-- a loop that counts to n; what it holds is told by i -/
theorem xe_for (n : Nat) (Lf : Nat → List (Nat × Value)) (hf : Nat → q_H) (body : ∀ i, i < n → q_Ex l g d y pc (Lf (i + 1)) S (hf (i + 1)) Q → q_Ex l g d y pc (Lf i) S (hf i) Q) (ex : q_Ex l g d y pc (Lf n) S (hf n) Q) : q_Ex l g d y pc (Lf 0) S (hf 0) Q := by
  have key : ∀ k, k ≤ n → q_Ex l g d y pc (Lf (n - k)) S (hf (n - k)) Q := by
    intro k
    induction k with
    | zero => intro _; exact ex
    | succ k ih =>
      intro hk
      refine body (n - (k + 1)) (by omega) ?_
      rw [show n - (k + 1) + 1 = n - k by omega]
      exact ih (by omega)
  have := key n (Nat.le_refl n)
  rwa [Nat.sub_self] at this
/-- the same, with what is known by then -/
theorem xe_forI (n : Nat) (I : Nat → Prop) (Lf : Nat → List (Nat × Value)) (hf : Nat → q_H) (h0 : I 0) (body : ∀ i, i < n → I i → (I (i + 1) → q_Ex l g d y pc (Lf (i + 1)) S (hf (i + 1)) Q) → q_Ex l g d y pc (Lf i) S (hf i) Q) (ex : I n → q_Ex l g d y pc (Lf n) S (hf n) Q) : q_Ex l g d y pc (Lf 0) S (hf 0) Q := by
  have key : ∀ k, k ≤ n → I (n - k) → q_Ex l g d y pc (Lf (n - k)) S (hf (n - k)) Q := by
    intro k
    induction k with
    | zero => intro _; exact ex
    | succ k ih =>
      intro hk hI
      refine body (n - (k + 1)) (by omega) hI ?_
      rw [show n - (k + 1) + 1 = n - k by omega]
      exact ih (by omega)
  have := key n (Nat.le_refl n)
  rw [Nat.sub_self] at this
  exact this h0
/-- any loop: a measure falls -/
theorem xe_while {σ : Type} (μ : σ → Nat) (I : σ → Prop) (Lf : σ → List (Nat × Value)) (hf : σ → q_H) (body : ∀ s, I s → (∀ s', I s' → μ s' < μ s → q_Ex l g d y pc (Lf s') S (hf s') Q) → q_Ex l g d y pc (Lf s) S (hf s) Q) (s : σ) (hI : I s) : q_Ex l g d y pc (Lf s) S (hf s) Q := by
  have key : ∀ n s, I s → μ s < n → q_Ex l g d y pc (Lf s) S (hf s) Q := by
    intro n
    induction n with
    | zero => intro s _ h; omega
    | succ n ih =>
      intro s hs hn
      exact body s hs (fun s' hs' hm => ih s' hs' (by omega))
  exact key (μ s + 1) s hI (by omega)
end QN
/-! sums -/
def q_sum (f : Nat → Int32) : Nat → Int32
  | 0 => 0
  | n + 1 => q_sum f n + f n
section QV
variable {l : Launch} {g : q_GP} {d : Nat} {y : q_MI} {pc : Nat} {L : List (Nat × Value)} {S : List Value} {h : q_H} {Q : Option Value → q_H → Prop}
theorem xe_heap {h2 : q_H} (e : h = h2) (K : q_Ex l g d y pc L S h2 Q) : q_Ex l g d y pc L S h Q := e ▸ K
theorem xe_getIv {idx ci k n r : Nat} {fin : Bool} {v : Int32} (hd : decode y.2.1 pc = .ok (.getfield idx, 3)) (hF : q_FL y.1.cls idx ci k fin) (hs : q_Sh h r ci n) (hk : k < n) (hr : q_isR (q_ty ci k) = false) (hv : q_I h r k = v) (K : q_Ex l g d y (pc + 3) L (.int v :: S) h Q) : q_Ex l g d y pc L (.ref r :: S) h Q :=
  xe_getI hd hF hs hk hr (hv ▸ K)
theorem xn_ialdf {r n i : Nat} {f : Nat → Int32} (hd : decode y.2.1 pc = .ok (.iaload, 1)) (hs : q_Sh h r 100 n) (hi : i < n) (hn : n < 2 ^ 31) (hf : q_I h r = f) (K : q_Ex l g d y (pc + 1) L (.int (f i) :: S) h Q) : q_Ex l g d y pc L (.int (nI i) :: .ref r :: S) h Q :=
  xn_iald hd hs hi hn (hf ▸ K)
theorem xn_ialdv {r n i : Nat} {v : Int32} (hd : decode y.2.1 pc = .ok (.iaload, 1)) (hs : q_Sh h r 100 n) (hi : i < n) (hn : n < 2 ^ 31) (hv : q_I h r i = v) (K : q_Ex l g d y (pc + 1) L (.int v :: S) h Q) : q_Ex l g d y pc L (.int (nI i) :: .ref r :: S) h Q :=
  xn_iald hd hs hi hn (hv ▸ K)
theorem xn_baldv {r n i : Nat} {v : Int32} (hd : decode y.2.1 pc = .ok (.baload, 1)) (hs : q_Sh h r 101 n) (hi : i < n) (hn : n < 2 ^ 31) (hv : q_I h r i = v) (K : q_Ex l g d y (pc + 1) L (.int v :: S) h Q) : q_Ex l g d y pc L (.int (nI i) :: .ref r :: S) h Q :=
  xn_bald hd hs hi hn (hv ▸ K)
theorem xn_zaldv {r n i : Nat} {v : Int32} (hd : decode y.2.1 pc = .ok (.baload, 1)) (hs : q_Sh h r 102 n) (hi : i < n) (hn : n < 2 ^ 31) (hv : q_I h r i = v) (K : q_Ex l g d y (pc + 1) L (.int v :: S) h Q) : q_Ex l g d y pc L (.int (nI i) :: .ref r :: S) h Q :=
  xn_zald hd hs hi hn (hv ▸ K)
theorem xn_laldv {r n i : Nat} {v : Int64} (hd : decode y.2.1 pc = .ok (.laload, 1)) (hs : q_Sh h r 103 n) (hi : i < n) (hn : n < 2 ^ 31) (hv : q_J h r i = v) (K : q_Ex l g d y (pc + 1) L (.long v :: S) h Q) : q_Ex l g d y pc L (.int (nI i) :: .ref r :: S) h Q :=
  xn_lald hd hs hi hn (hv ▸ K)
end QV
/-! the algebra of heaps -/
theorem q_wwI (h : q_H) (r : Nat) (f f' : Nat → Int32) : q_wI (q_wI h r f) r f' = q_wI h r f' := by
  unfold q_wI
  congr 1
  funext r'
  by_cases hr : r' = r
  · simp [hr]
  · simp [hr]
theorem q_wwJ (h : q_H) (r : Nat) (f f' : Nat → Int64) : q_wJ (q_wJ h r f) r f' = q_wJ h r f' := by
  unfold q_wJ
  congr 2
  funext r'
  by_cases hr : r' = r
  · simp [hr]
  · simp [hr]
theorem q_wcI (h : q_H) {r r' : Nat} (hr : r ≠ r') (f f' : Nat → Int32) : q_wI (q_wI h r f) r' f' = q_wI (q_wI h r' f') r f := by
  unfold q_wI
  congr 1
  funext k
  by_cases h1 : k = r'
  · subst h1
    simp [Ne.symm hr]
  · simp [h1]
theorem q_wsI (h : q_H) (r : Nat) : q_wI h r (q_I h r) = h := by
  unfold q_wI q_I
  refine Prod.ext ?_ rfl
  funext k
  by_cases h1 : k = r
  · subst h1
    simp
  · simp [h1]
theorem q_IwI (h : q_H) (r r' : Nat) (f : Nat → Int32) : q_I (q_wI h r f) r' = if r' = r then f else q_I h r' := rfl
theorem q_JwJ (h : q_H) (r r' : Nat) (f : Nat → Int64) : q_J (q_wJ h r f) r' = if r' = r then f else q_J h r' := rfl
/-- an array written over at one place -/
theorem q_wup (h : q_H) (r i : Nat) (f : Nat → Int32) (x : Int32) : q_wI (q_wI h r f) r (upd (q_I (q_wI h r f) r) i x) = q_wI h r (upd f i x) := by
  rw [q_wwI, q_Iw]
def q_cpy (f g : Nat → Int32) (n : Nat) : Nat → Int32 := fun k => if k < n then f k else g k
theorem q_cpy0 (f g : Nat → Int32) : q_cpy f g 0 = g := by
  funext k
  simp [q_cpy]
theorem q_cpyS (f g : Nat → Int32) (n : Nat) : upd (q_cpy f g n) n (f n) = q_cpy f g (n + 1) := by
  funext k
  unfold upd q_cpy
  by_cases h : k = n
  · subst h
    simp
  · by_cases h2 : k < n
    · simp [h, h2, Nat.lt_succ_of_lt h2]
    · rw [if_neg h, if_neg h2, if_neg (by omega)]
