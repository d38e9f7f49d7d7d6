/-! the class's pieces and the reference's: their sums -/
def ohp (h : hT) (d : Option PD) : Int := match d with | none => 0 | some d => h d.px d.py d.qx d.qy d.rx d.ry (!d.ln)
def pdh (h : hT) (PQ : Int → Option Nat) (G : Nat → PD) (i : Int) : Int := ohp h ((PQ i).map G)
theorem isum_add (f g : Int → Int) (n : Nat) : isum (fun k => f k + g k) n = isum f n + isum g n := by
  induction n with
  | zero => rfl
  | succ n ih => show isum (fun k => f k + g k) n + (f (n : Int) + g (n : Int)) = isum f n + f (n : Int) + (isum g n + g (n : Int)); rw [ih]; omega
theorem isum_split (f : Int → Int) (m k : Nat) : isum f (m + k) = isum f m + isum (fun n => f ((m : Int) + n)) k := by
  induction k with
  | zero => show isum f m = isum f m + 0; omega
  | succ k ih =>
    show isum f (m + k) + f ((m + k : Nat) : Int) = isum f m + (isum (fun n => f ((m : Int) + n)) k + f ((m : Int) + (k : Int)))
    rw [ih, show ((m + k : Nat) : Int) = (m : Int) + (k : Int) by omega]; omega
theorem isum_sh (C : Int → Int) (a : Int) (k : Nat) : isum (fun n => C (a + n + 1)) k + C a = isum (fun n => C (a + n)) (k + 1) := by
  induction k with
  | zero => show 0 + C a = 0 + C (a + ((0 : Nat) : Int)); rw [show a + ((0 : Nat) : Int) = a by omega]
  | succ k ih =>
    show isum (fun n => C (a + n + 1)) k + C (a + (k : Int) + 1) + C a = isum (fun n => C (a + n)) (k + 1) + C (a + ((k + 1 : Nat) : Int))
    rw [← ih, show a + ((k + 1 : Nat) : Int) = a + (k : Int) + 1 by omega]; omega
theorem bf_nx {a b i : Int} (h1 : a ≤ i) (h2 : i < b) : bf a b (nx a b i) = i := by
  unfold bf nx
  by_cases h : i + 1 < b
  · rw [if_pos h, if_pos (by omega)]; omega
  · rw [if_neg h, if_neg (by omega)]; omega
def lnT (X Y : Int → Int) (O : Int → Bool) (a b : Int) (h : hT) (i : Int) : Int := if O i = true ∧ O (nx a b i) = true then h (X i) (Y i) (X i) (Y i) (X (nx a b i)) (Y (nx a b i)) false else 0
def cvT (X Y : Int → Int) (O : Int → Bool) (a b : Int) (h : hT) (i : Int) : Int := if O i = true then 0 else h (cen X O i (bf a b i)) (cen Y O i (bf a b i)) (X i) (Y i) (cen X O i (nx a b i)) (cen Y O i (nx a b i)) true
theorem emi_T {X Y : Int → Int} {O : Int → Bool} {a b i : Int} (h : hT) (h1 : a ≤ i) (h2 : i < b) : emi X Y O a b h i = lnT X Y O a b h i + cvT X Y O a b h (nx a b i) := by
  unfold emi lnT cvT
  rw [bf_nx h1 h2]
  by_cases hj : O (nx a b i) = true
  · rw [if_pos hj, if_pos hj]
    by_cases hi : O i = true
    · rw [if_pos hi, if_pos ⟨hi, hj⟩]; omega
    · rw [if_neg hi, if_neg (fun q => hi q.1)]; omega
  · rw [if_neg hj, if_neg hj, if_neg (fun q => hj q.2)]; omega
theorem pdt_T {X Y : Int → Int} {O : Int → Bool} {a b i : Int} (h : hT) : ohp h (pdt X Y O a b i) = lnT X Y O a b h i + cvT X Y O a b h i := by
  unfold pdt lnT cvT
  by_cases hi : O i = true
  · rw [if_pos hi, if_pos hi]
    by_cases hj : O (nx a b i) = true
    · rw [if_pos hj, if_pos ⟨hi, hj⟩]
      show h (X i) (Y i) (X i) (Y i) (X (nx a b i)) (Y (nx a b i)) false = _
      omega
    · rw [if_neg hj, if_neg (fun q => hj q.2)]; rfl
  · rw [if_neg hi, if_neg hi, if_neg (fun q => hi q.1)]
    show h (cen X O i (bf a b i)) (cen Y O i (bf a b i)) (X i) (Y i) (cen X O i (nx a b i)) (cen Y O i (nx a b i)) true = _
    omega
theorem cts_pdt {X Y : Int → Int} {O : Int → Bool} {a b : Int} (h : hT) (hab : a < b) : isum (fun n => emi X Y O a b h (a + n)) (b - a).toNat = isum (fun n => ohp h (pdt X Y O a b (a + n))) (b - a).toNat := by
  obtain ⟨m, hm⟩ : ∃ m : Nat, (b - a).toNat = m + 1 := ⟨(b - a).toNat - 1, by omega⟩
  have hmi : (m : Int) = b - a - 1 := by omega
  rw [hm]
  rw [isum_congr (g := fun n => lnT X Y O a b h (a + n) + cvT X Y O a b h (nx a b (a + n))) (m + 1) (fun k h1 h2 => emi_T h (by omega) (by omega))]
  rw [isum_congr (f := fun n => ohp h (pdt X Y O a b (a + n))) (g := fun n => lnT X Y O a b h (a + n) + cvT X Y O a b h (a + n)) (m + 1) (fun k h1 h2 => pdt_T h)]
  rw [isum_add (fun n => lnT X Y O a b h (a + n)) (fun n => cvT X Y O a b h (nx a b (a + n))), isum_add (fun n => lnT X Y O a b h (a + n)) (fun n => cvT X Y O a b h (a + n))]
  congr 1
  rw [← isum_sh (cvT X Y O a b h) a m]
  show isum (fun n => cvT X Y O a b h (nx a b (a + n))) m + cvT X Y O a b h (nx a b (a + (m : Int))) = _
  rw [isum_congr (f := fun n => cvT X Y O a b h (nx a b (a + n))) (g := fun n => cvT X Y O a b h (a + n + 1)) m (fun k h1 h2 => by
    show cvT X Y O a b h (nx a b (a + k)) = _
    rw [show nx a b (a + k) = a + k + 1 by unfold nx; rw [if_pos (by omega)]])]
  rw [show nx a b (a + (m : Int)) = a by unfold nx; rw [if_neg (by omega)]]
/-- the class's pieces are those of the contours -/
def cInv (LP : List Nat) (G : Nat → PD) (PQ : Int → Option Nat) (X Y : Int → Int) (O : Int → Bool) (E : Int → Int) (nc : Int) : Prop :=
  (∀ c : Int, 0 ≤ c → c < nc → ∀ i : Int, stE E c ≤ i → i < E c → (PQ i).map G = pdt X Y O (stE E c) (E c) i) ∧ (∀ (i : Int) (a : Nat), 0 ≤ i → i < clo nc E → PQ i = some a → a ∈ LP) ∧ injP PQ (clo nc E)
def lInv (X Y : Int → Int) (E : Int → Int) (nc np : Int) : Prop := (0 ≤ nc ∧ nc ≤ 64) ∧ ctOk nc E ∧ (0 ≤ clo nc E ∧ clo nc E ≤ np ∧ np ≤ 512) ∧ ∀ k : Int, 0 ≤ k → k < np → (-8192 ≤ X k ∧ X k ≤ 8191) ∧ (-8192 ≤ Y k ∧ Y k ≤ 8191)
theorem clo_stE (nc : Int) (E : Int → Int) : clo nc E = stE E nc := rfl
theorem sum_n {LP : List Nat} {G : Nat → PD} {PQ : Int → Option Nat} {X Y : Int → Int} {O : Int → Bool} {E : Int → Int} {nc : Int} (hI : cInv LP G PQ X Y O E nc) (hc : ctOk nc E) (h : hT) (n : Nat) (hn : (n : Int) ≤ nc) : isum (pdh h PQ G) (stE E (n : Int)).toNat = tot X Y O E h (n : Int) := by
  induction n with
  | zero => rfl
  | succ n ih =>
    have h1 := hc (n : Int) (by omega) (by omega)
    rw [show ((n + 1 : Nat) : Int) = (n : Int) + 1 by omega, tot_s h (by omega), stE_s (by omega), ← ih (by omega)]
    rw [show (E (n : Int)).toNat = (stE E (n : Int)).toNat + (E (n : Int) - stE E (n : Int)).toNat by omega, isum_split]
    congr 1
    unfold cts
    rw [cts_pdt h h1.2.1]
    refine isum_congr _ (fun k q1 q2 => ?_)
    show ohp h ((PQ (((stE E (n : Int)).toNat : Int) + k)).map G) = _
    rw [show (((stE E (n : Int)).toNat : Int) + k) = stE E (n : Int) + k by omega, hI.1 (n : Int) (by omega) (by omega) (stE E (n : Int) + k) (by omega) (by omega)]
theorem sum_eq {LP : List Nat} {G : Nat → PD} {PQ : Int → Option Nat} {X Y : Int → Int} {O : Int → Bool} {E : Int → Int} {nc np : Int} (hI : cInv LP G PQ X Y O E nc) (hL : lInv X Y E nc np) (h : hT) : isum (pdh h PQ G) (clo nc E).toNat = tot X Y O E h nc := by
  have := sum_n hI hL.2.1 h nc.toNat (by have := hL.1; omega)
  rw [Int.toNat_of_nonneg hL.1.1] at this
  exact this
theorem ct_of {E : Int → Int} {nc : Int} (hc : ctOk nc E) (n : Nat) (hn : (n : Int) ≤ nc) {i : Int} (h0 : 0 ≤ i) (hi : i < stE E (n : Int)) : ∃ c : Int, 0 ≤ c ∧ c < nc ∧ stE E c ≤ i ∧ i < E c := by
  induction n with
  | zero => exfalso; have : stE E ((0 : Nat) : Int) = 0 := rfl; omega
  | succ n ih =>
    rw [show ((n + 1 : Nat) : Int) = (n : Int) + 1 by omega, stE_s (by omega)] at hi
    by_cases h : i < stE E (n : Int)
    · exact ih (by omega) h
    · exact ⟨(n : Int), by omega, by omega, by omega, hi⟩
theorem ct_in {X Y : Int → Int} {E : Int → Int} {nc np : Int} (hL : lInv X Y E nc np) {i : Int} (h0 : 0 ≤ i) (hi : i < clo nc E) : ∃ c : Int, 0 ≤ c ∧ c < nc ∧ stE E c ≤ i ∧ i < E c := ct_of hL.2.1 nc.toNat (by have := hL.1; omega) h0 (by rw [Int.toNat_of_nonneg hL.1.1]; exact hi)
theorem pdt_ok {X Y : Int → Int} {O : Int → Bool} {a b i : Int} {d : PD} (hxy : ∀ k : Int, a ≤ k → k < b → (-8192 ≤ X k ∧ X k ≤ 8191) ∧ (-8192 ≤ Y k ∧ Y k ≤ 8191)) (h1 : a ≤ i) (h2 : i < b) (h : pdt X Y O a b i = some d) : pdOk d := by
  have n1 := nx_in h1 h2
  have n2 := bf_in h1 h2
  have x1 := hxy i h1 h2
  have x2 := hxy _ n1.1 n1.2
  have x3 := hxy _ n2.1 n2.2
  unfold pdt at h
  by_cases hi : O i = true
  · rw [if_pos hi] at h
    by_cases hj : O (nx a b i) = true
    · rw [if_pos hj] at h; cases h
      exact ⟨x1.1, x1.2, x1.1, x1.2, x2.1, x2.2, fun _ => ⟨rfl, rfl⟩⟩
    · rw [if_neg hj] at h; cases h
  · rw [if_neg hi] at h; cases h
    exact ⟨cen_ok x1.1 x3.1, cen_ok x1.2 x3.2, x1.1, x1.2, cen_ok x1.1 x2.1, cen_ok x1.2 x2.2, fun hh => by cases hh⟩
theorem inv_ok {LP : List Nat} {G : Nat → PD} {PQ : Int → Option Nat} {X Y : Int → Int} {O : Int → Bool} {E : Int → Int} {nc np : Int} (hI : cInv LP G PQ X Y O E nc) (hL : lInv X Y E nc np) : cOk LP G PQ (clo nc E) := fun i h0 h1 a ha => by
  refine ⟨hI.2.1 i a h0 h1 ha, ?_⟩
  obtain ⟨c, c1, c2, c3, c4⟩ := ct_in hL h0 h1
  have h2 := hI.1 c c1 c2 i c3 c4
  have h3 := hL.2.1 c c1 c2
  rw [ha] at h2
  refine pdt_ok (fun k k1 k2 => ?_) c3 c4 h2.symm
  have := hL.2.2.1
  exact hL.2.2.2 k (by omega) (by omega)
/-- the windings are the same -/
theorem wC_wR {LP : List Nat} {G : Nat → PD} {PQ : Int → Option Nat} {X Y : Int → Int} {O : Int → Bool} {E : Int → Int} {nc np : Int} (hI : cInv LP G PQ X Y O E nc) (hL : lInv X Y E nc np) (x y : Int) : wC PQ G (clo nc E) x y = wR X Y O E nc x y := by
  unfold wC wR
  rw [← sum_eq hI hL]
  refine isum_congr _ (fun i h1 h2 => ?_)
  unfold pct pdh
  cases ha : PQ i with
  | none => rfl
  | some a =>
    show cct (G a) x y = hw x y (G a).px (G a).py (G a).qx (G a).qy (G a).rx (G a).ry (!(G a).ln)
    have := hL.2.2.1
    exact cct_hw (inv_ok hI hL i h1 (by omega) a ha).2 x y
theorem lnP_tot {LP : List Nat} {G : Nat → PD} {PQ : Int → Option Nat} {X Y : Int → Int} {O : Int → Bool} {E : Int → Int} {nc np : Int} (hI : cInv LP G PQ X Y O E nc) (hL : lInv X Y E nc np) (b : Bool) : isum (lnP PQ G b) (clo nc E).toNat = tot X Y O E (hc (!b)) nc := by
  rw [← sum_eq hI hL]
  refine isum_congr _ (fun i h1 h2 => ?_)
  unfold lnP pdh
  cases ha : PQ i with
  | none => rfl
  | some a =>
    show bz ((G a).ln == b) = bz ((!(G a).ln) == !b)
    cases (G a).ln <;> cases b <;> rfl
theorem isum_prod (f : Int → Int → Int) (d : Nat) (hd : 0 < d) (m : Nat) : isum (fun k => f (k / (d : Int)) (k % (d : Int))) (d * m) = isum (fun q => isum (fun x => f q x) d) m := by
  induction m with
  | zero => rfl
  | succ m ih =>
    rw [Nat.mul_succ, isum_split, ih]
    show _ = isum (fun q => isum (fun x => f q x) d) m + isum (fun x => f (m : Int) x) d
    congr 1
    refine isum_congr _ (fun k h1 h2 => ?_)
    have e0 : ((d * m : Nat) : Int) + k = k + (d : Int) * (m : Int) := by rw [Int.natCast_mul]; omega
    have e1 : (((d * m : Nat) : Int) + k) / (d : Int) = (m : Int) := by
      rw [e0, Int.add_mul_ediv_left _ _ (by omega), Int.ediv_eq_zero_of_lt h1 h2]; omega
    have e2 : (((d * m : Nat) : Int) + k) % (d : Int) = k := by
      rw [e0, Int.add_mul_emod_self_left, Int.emod_eq_of_lt h1 h2]
    show f ((((d * m : Nat) : Int) + k) / (d : Int)) ((((d * m : Nat) : Int) + k) % (d : Int)) = _
    rw [e1, e2]
theorem pxC_pxR {LP : List Nat} {G : Nat → PD} {PQ : Int → Option Nat} {X Y : Int → Int} {O : Int → Bool} {E : Int → Int} {nc np : Int} (hI : cInv LP G PQ X Y O E nc) (hL : lInv X Y E nc np) (par : Bool) (q : Int) : pxC PQ G (clo nc E) par q = pxR X Y O E nc par q := by
  funext x
  unfold pxC pxR
  rw [wC_wR hI hL, show 32 + 64 * x = 64 * x + 32 by omega]
theorem cnt_eq {LP : List Nat} {G : Nat → PD} {PQ : Int → Option Nat} {X Y : Int → Int} {O : Int → Bool} {E : Int → Int} {nc np : Int} (hI : cInv LP G PQ X Y O E nc) (hL : lInv X Y E nc np) (par : Bool) (w : Int) :
    (if w = 0 then nc else if w = 1 then np else if w = 2 then isum (lnP PQ G true) (clo nc E).toNat else if w = 3 then isum (lnP PQ G false) (clo nc E).toNat else if w = 4 then isum (fun q => isum (fun x => bz (pxC PQ G (clo nc E) par q x)) 64) 64 else -1) = cnR X Y O E np nc par w := by
  unfold cnR
  rw [lnP_tot hI hL, lnP_tot hI hL, show (fun q => isum (fun x => bz (pxC PQ G (clo nc E) par q x)) 64) = (fun q => isum (fun x => bz (pxR X Y O E nc par q x)) 64) from funext (fun q => by rw [pxC_pxR hI hL par q])]
  rw [← isum_prod (fun q x => bz (pxR X Y O E nc par q x)) 64 (by decide) 64]
  rfl
theorem shr_eq {LP : List Nat} {G : Nat → PD} {PQ : Int → Option Nat} {X Y : Int → Int} {O : Int → Bool} {E : Int → Int} {nc np : Int} (hI : cInv LP G PQ X Y O E nc) (hL : lInv X Y E nc np) (par : Bool) (x q : Int) :
    isum (fun j => isum (fun i => bz (isin par (wC PQ G (clo nc E) (64 * x + 8 + 16 * i) (64 * (63 - q) + 8 + 16 * j)))) 4) 4 = shR X Y O E nc par x q := by
  unfold shR
  rw [show (fun j => isum (fun i => bz (isin par (wC PQ G (clo nc E) (64 * x + 8 + 16 * i) (64 * (63 - q) + 8 + 16 * j)))) 4) = (fun j => isum (fun i => bz (isin par (wR X Y O E nc (64 * x + 8 + 16 * i) (64 * (63 - q) + 8 + 16 * j)))) 4) from funext (fun j => by simp only [wC_wR hI hL])]
  rw [← isum_prod (fun j i => bz (isin par (wR X Y O E nc (64 * x + 8 + 16 * i) (64 * (63 - q) + 8 + 16 * j)))) 4 (by decide) 4]
  rfl
