/-! spans, extents; what each call keeps -/
theorem isum_mono {f : Int → Int} (hf : ∀ k, 0 ≤ f k) {m n : Nat} (h : m ≤ n) : isum f m ≤ isum f n := by
  obtain ⟨k, rfl⟩ := Nat.exists_eq_add_of_le h
  rw [isum_split]
  have := (isum_p (f := fun n => f ((m : Int) + n)) (fun k => hf _) k).1
  omega
theorem ev_uni {P : Int → Bool} {x y : Int} (hx : 0 ≤ x) (hy : 0 ≤ y) (px : P x = true) (py : P y = true) (h : isum (fun q => bz (P q)) x.toNat = isum (fun q => bz (P q)) y.toNat) : x = y := by
  rcases Int.lt_trichotomy x y with h1 | h1 | h1
  · have h2 := isum_mono (f := fun q => bz (P q)) (fun k => (bz_in _).1) (show (x + 1).toNat ≤ y.toNat by omega)
    rw [isum_s _ hx, px, bz_t] at h2; omega
  · exact h1
  · have h2 := isum_mono (f := fun q => bz (P q)) (fun k => (bz_in _).1) (show (y + 1).toNat ≤ x.toNat by omega)
    rw [isum_s _ hy, py, bz_t] at h2; omega
theorem fnd_hit {P : Int → Bool} {k : Int} {en : Bool} {x : Int} (hx : 0 ≤ x) (hc : (if en = true then spE P x else spS P x) = true ∧ spN P x = k) (n : Nat) (hu : ∀ y : Int, 0 ≤ y → y < (n : Int) → (if en = true then spE P y else spS P y) = true ∧ spN P y = k → y = x) : fnd P k en n = if x < (n : Int) then x else -1 := by
  induction n with
  | zero => rw [if_neg (by omega)]; rfl
  | succ n ih =>
    show (if (if en = true then spE P (n : Int) else spS P (n : Int)) = true ∧ spN P (n : Int) = k then (n : Int) else fnd P k en n) = _
    by_cases h : x = (n : Int)
    · rw [← h, if_pos hc, if_pos (by omega)]
    · rw [if_neg (fun q => h (hu (n : Int) (by omega) (by omega) q).symm), ih (fun y h1 h2 => hu y h1 (by omega))]
      by_cases h3 : x < (n : Int)
      · rw [if_pos h3, if_pos (by omega)]
      · rw [if_neg h3, if_neg (by omega)]
theorem fnd_no {P : Int → Bool} {k : Int} {en : Bool} (n : Nat) (hu : ∀ y : Int, 0 ≤ y → y < (n : Int) → ¬ ((if en = true then spE P y else spS P y) = true ∧ spN P y = k)) : fnd P k en n = -1 := by
  induction n with
  | zero => rfl
  | succ n ih =>
    show (if (if en = true then spE P (n : Int) else spS P (n : Int)) = true ∧ spN P (n : Int) = k then (n : Int) else fnd P k en n) = _
    rw [if_neg (hu (n : Int) (by omega) (by omega)), ih (fun y h1 h2 => hu y h1 (by omega))]
theorem p64_lt {P : Int → Bool} {x : Int} (h : x < 64) : p64 P x = P x := by unfold p64; rw [decide_eq_true h, Bool.true_and]
theorem p64_ge {P : Int → Bool} {x : Int} (h : ¬ x < 64) : p64 P x = false := by unfold p64; rw [decide_eq_false h, Bool.false_and]
theorem spS_64 {P : Int → Bool} {x : Int} (h : x < 64) : spS (p64 P) x = spS P x := by
  unfold spS pv
  rw [p64_lt h]
  by_cases h0 : x = 0
  · rw [if_pos h0, if_pos h0]
  · rw [if_neg h0, if_neg h0, p64_lt (by omega)]
theorem spS_no {P : Int → Bool} {x : Int} (h : ¬ x < 64) : spS (p64 P) x = false := by unfold spS; rw [p64_ge h, Bool.false_and]
theorem spL_64 {P : Int → Bool} {x : Int} (h : x < 64) : spL P x = (p64 P x && !p64 P (x + 1)) := by unfold spL; rw [p64_lt h]
theorem spN_S {P : Int → Bool} {x : Int} (h0 : 0 ≤ x) (h : x < 64) (hs : spS P x = true) : spN (p64 P) x = isum (fun q => bz (spS P q)) x.toNat := by
  unfold spN
  rw [isum_s _ h0, spS_64 h, hs, bz_t, isum_congr (g := fun q => bz (spS P q)) x.toNat (fun k h1 h2 => by show bz (spS (p64 P) k) = _; rw [spS_64 (by omega)])]
  omega
theorem sp_bal (P : Int → Bool) (n : Nat) (hn : n ≤ 64) : isum (fun q => bz (spS (p64 P) q)) (n + 1) = isum (fun q => bz (spL P q)) n + bz (p64 P (n : Int)) := by
  induction n with
  | zero =>
    show 0 + bz (spS (p64 P) ((0 : Nat) : Int)) = 0 + bz (p64 P ((0 : Nat) : Int))
    unfold spS pv
    rw [if_pos (show ((0 : Nat) : Int) = 0 from rfl)]
    cases p64 P ((0 : Nat) : Int) <;> rfl
  | succ n ih =>
    show isum (fun q => bz (spS (p64 P) q)) (n + 1) + bz (spS (p64 P) ((n + 1 : Nat) : Int)) = isum (fun q => bz (spL P q)) n + bz (spL P (n : Int)) + bz (p64 P ((n + 1 : Nat) : Int))
    rw [ih (by omega), spL_64 (by omega), show ((n + 1 : Nat) : Int) = (n : Int) + 1 by omega]
    unfold spS
    rw [pv_s _ (by omega)]
    cases p64 P (n : Int) <;> cases p64 P ((n : Int) + 1) <;> simp [bz]
theorem spN_E {P : Int → Bool} {b : Int} (h0 : 0 ≤ b) (h : b < 64) (hs : spL P b = true) : spN (p64 P) (b + 1) = isum (fun q => bz (spL P q)) b.toNat := by
  have hb := sp_bal P (b + 1).toNat (by omega)
  unfold spN
  rw [show (b + 1 + 1).toNat = (b + 1).toNat + 1 by omega, hb, isum_s _ h0, hs, bz_t, Int.toNat_of_nonneg (show 0 ≤ b + 1 by omega)]
  rw [spL_64 h] at hs
  have : p64 P (b + 1) = false := by
    cases hq : p64 P (b + 1)
    · rfl
    · rw [hq] at hs; cases hp : p64 P b <;> rw [hp] at hs <;> cases hs
  rw [this, bz_f]; omega
theorem spE_L {P : Int → Bool} {x : Int} (h0 : 0 ≤ x) (h : x < 65) (he : spE (p64 P) x = true) : 1 ≤ x ∧ spL P (x - 1) = true := by
  unfold spE pv at he
  by_cases hx : x = 0
  · rw [if_pos hx] at he; cases he
  · rw [if_neg hx] at he
    refine ⟨by omega, ?_⟩
    rw [spL_64 (by omega), show x - 1 + 1 = x by omega]; exact he
theorem spL_E {P : Int → Bool} {b : Int} (h0 : 0 ≤ b) (h : b < 64) (hs : spL P b = true) : spE (p64 P) (b + 1) = true := by
  unfold spE
  rw [pv_s _ h0]
  rw [spL_64 h] at hs; exact hs
theorem span_eq {P : Int → Bool} {k z : Int} {en : Bool} (h : spC P k en z) : z = fnd (p64 P) k en 65 := by
  obtain ⟨b, hb, hz⟩ := h
  cases en with
  | false =>
    rw [if_neg (fun q => by cases q.1)] at hz
    rw [if_neg (show ¬ (false = true) by decide)] at hb
    rcases hb with ⟨h1, h2, h3, h4⟩ | ⟨h1, h2⟩
    · rw [hz, fnd_hit (x := b) h1 ⟨by rw [if_neg (show ¬ (false = true) by decide), spS_64 h2]; exact h3, by rw [spN_S h1 h2 h3]; exact h4⟩ 65 (fun y y1 y2 y3 => ?_), if_pos (by omega)]
      obtain ⟨y3, y4⟩ := y3
      rw [if_neg (show ¬ (false = true) by decide)] at y3
      have y5 : y < 64 := by
        by_cases q : y < 64
        · exact q
        · rw [spS_no q] at y3; cases y3
      rw [spS_64 y5] at y3
      rw [spN_S y1 y5 y3] at y4
      exact ev_uni y1 h1 y3 h3 (by rw [y4, h4])
    · rw [hz, h1, fnd_no 65 (fun y y1 y2 y3 => ?_)]
      obtain ⟨y3, y4⟩ := y3
      rw [if_neg (show ¬ (false = true) by decide)] at y3
      have y5 : y < 64 := by
        by_cases q : y < 64
        · exact q
        · rw [spS_no q] at y3; cases y3
      rw [spS_64 y5] at y3
      rw [spN_S y1 y5 y3] at y4
      exact h2 y y1 y5 y3 y4
  | true =>
    rw [if_pos (show true = true from rfl)] at hb
    rcases hb with ⟨h1, h2, h3, h4⟩ | ⟨h1, h2⟩
    · rw [if_pos ⟨rfl, by omega⟩] at hz
      rw [hz, fnd_hit (x := b + 1) (by omega) ⟨by rw [if_pos (show true = true from rfl)]; exact spL_E h1 h2 h3, by rw [spN_E h1 h2 h3]; exact h4⟩ 65 (fun y y1 y2 y3 => ?_), if_pos (by omega)]
      obtain ⟨y3, y4⟩ := y3
      rw [if_pos (show true = true from rfl)] at y3
      obtain ⟨y5, y6⟩ := spE_L y1 (by omega) y3
      have y7 := spN_E (P := P) (b := y - 1) (by omega) (by omega) y6
      rw [show y - 1 + 1 = y by omega, y4] at y7
      have := ev_uni (x := y - 1) (y := b) (by omega) h1 y6 h3 (by rw [← y7, h4])
      omega
    · rw [if_neg (fun q => q.2 h1)] at hz
      rw [hz, h1, fnd_no 65 (fun y y1 y2 y3 => ?_)]
      obtain ⟨y3, y4⟩ := y3
      rw [if_pos (show true = true from rfl)] at y3
      obtain ⟨y5, y6⟩ := spE_L y1 (by omega) y3
      have y7 := spN_E (P := P) (b := y - 1) (by omega) (by omega) y6
      rw [show y - 1 + 1 = y by omega, y4] at y7
      exact h2 (y - 1) (by omega) (by omega) y6 y7.symm
theorem hbd_pbw {d : PD} (h : pdOk d) {w : Int} (hw : 0 ≤ w ∧ w ≤ 3) : hbd w d.px d.py d.qx d.qy d.rx d.ry (!d.ln) = pbw d w := by
  have key : ∀ p q r : Int, (d.ln = true → q = p) → bnd p q r (!d.ln) true = fol p q r ∧ bnd p q r (!d.ln) false = -fol (-p) (-q) (-r) := fun p q r hq => by
    unfold bnd
    cases hl : d.ln with
    | true =>
      have e := hq hl
      subst e
      refine ⟨?_, ?_⟩
      · rw [if_pos rfl, if_neg (by decide), fol_n (by omega)]
      · rw [if_neg (by decide), if_neg (by decide), fol_n (by omega)]; omega
    | false => exact ⟨by rw [if_pos rfl, if_pos (by decide)], by rw [if_neg (by decide), if_pos (by decide)]⟩
  have kx := key d.px d.qx d.rx (fun q => (h.2.2.2.2.2.2 q).1)
  have ky := key d.py d.qy d.ry (fun q => (h.2.2.2.2.2.2 q).2)
  unfold hbd pbw pbd
  rcases (show w = 0 ∨ w = 1 ∨ w = 2 ∨ w = 3 by omega) with e | e | e | e <;> subst e
  · exact kx.1
  · exact ky.1
  · exact kx.2
  · exact ky.2
theorem pbw_in {d : PD} (h : pdOk d) {w : Int} (hw : 0 ≤ w ∧ w ≤ 3) : if w < 2 then pbw d w ≤ 8191 else -8192 ≤ pbw d w := by
  obtain ⟨h1, h2, h3, h4, h5, h6, -⟩ := h
  have key : ∀ p q r : Int, fol p q r ≤ p := fun p q r => by
    unfold fol
    split
    · rename_i hh
      have e1 : -(q - p) * (q - p) = -((q - p) * (q - p)) := Int.neg_mul _ _
      have s0 := sq_nn (q - p)
      have k1 : -(q - p) * (q - p) / (p - 2 * q + r) ≤ 0 := Int.ediv_le_of_le_mul (by omega) (by rw [Int.zero_mul]; omega)
      omega
    · omega
  have k1 := key d.px d.qx d.rx
  have k2 := key d.py d.qy d.ry
  have k3 := key (-d.px) (-d.qx) (-d.rx)
  have k4 := key (-d.py) (-d.qy) (-d.ry)
  unfold pbw pbd
  rcases (show w = 0 ∨ w = 1 ∨ w = 2 ∨ w = 3 by omega) with e | e | e | e <;> subst e <;> simp <;> omega
theorem isum_ex {f : Int → Int} (n : Nat) (h : 0 < isum f n) : ∃ k : Int, 0 ≤ k ∧ k < (n : Int) ∧ 0 < f k := by
  induction n with
  | zero => exact absurd h (by show ¬ (0 : Int) < 0; omega)
  | succ n ih =>
    by_cases hn : 0 < f (n : Int)
    · exact ⟨(n : Int), by omega, by omega, hn⟩
    · have : isum f (n + 1) = isum f n + f (n : Int) := rfl
      obtain ⟨k, k1, k2, k3⟩ := ih (by omega)
      exact ⟨k, k1, by omega, k3⟩
theorem ext_eq {LP : List Nat} {G : Nat → PD} {PQ : Int → Option Nat} {X Y : Int → Int} {O : Int → Bool} {E : Int → Int} {nc np : Int} (hI : cInv LP G PQ X Y O E nc) (hL : lInv X Y E nc np) {w v1 v2 : Int} (hw : 0 ≤ w ∧ w ≤ 3) (hn : 0 < nc) (h1 : exC PQ G w (clo nc E) v1) (h2 : tot X Y O E (hlt w v2) nc = 0 ∧ 0 < tot X Y O E (heq w v2) nc) : v1 = v2 := by
  have hb := hL.2.2.1
  have hok := inv_ok hI hL
  rw [← sum_eq hI hL, ← sum_eq hI hL] at h2
  -- a piece that lies at v2
  obtain ⟨i, i1, i2, i3⟩ := isum_ex _ h2.2
  have hterm : ∀ j : Int, 0 ≤ j → j < clo nc E → ∀ a : Nat, PQ j = some a → btr w (pbw (G a) w) v2 = false := fun j j1 j2 a ha => by
    have q := (isum_p (f := pdh (hlt w v2) PQ G) (fun k => by
      unfold pdh ohp
      split
      · exact Int.le_refl _
      · exact (bz_in _).1) (clo nc E).toNat).2 j j1 (by omega)
    rw [h2.1] at q
    have q2 : pdh (hlt w v2) PQ G j = bz (btr w (pbw (G a) w) v2) := by
      unfold pdh; rw [ha]
      show bz (btr w (hbd w (G a).px (G a).py (G a).qx (G a).qy (G a).rx (G a).ry (!(G a).ln)) v2) = _
      rw [hbd_pbw (hok j j1 j2 a ha).2 hw]
    rw [q2] at q
    cases hq : btr w (pbw (G a) w) v2
    · rfl
    · rw [hq, bz_t] at q; omega
  have hone : ∃ (j : Int) (a : Nat), 0 ≤ j ∧ j < clo nc E ∧ PQ j = some a ∧ pbw (G a) w = v2 := by
    unfold pdh at i3
    cases ha : PQ i with
    | none => rw [ha] at i3; exact absurd i3 (by show ¬ (0 : Int) < 0; omega)
    | some a =>
      rw [ha] at i3
      have i4 : 0 < bz (decide (hbd w (G a).px (G a).py (G a).qx (G a).qy (G a).rx (G a).ry (!(G a).ln) = v2)) := i3
      rw [hbd_pbw (hok i i1 (by omega) a ha).2 hw] at i4
      refine ⟨i, a, i1, by omega, ha, ?_⟩
      by_cases hq : pbw (G a) w = v2
      · exact hq
      · rw [decide_eq_false hq] at i4; cases i4
  obtain ⟨j, a, j1, j2, j3, j4⟩ := hone
  have c1 := h1.1 j a j1 j2 j3
  rw [j4] at c1
  have c2 : btr w v1 v2 = false ∨ v1 = exI w := by
    rcases h1.2 with q | ⟨i', a', q1, q2, q3, q4⟩
    · exact Or.inr q
    · exact Or.inl (by rw [← q4]; exact hterm i' q1 q2 a' q3)
  have c3 := pbw_in (hok j j1 j2 a j3).2 hw
  rw [j4] at c3
  unfold btr at c1 c2
  unfold exI at c2
  by_cases hw2 : w < 2
  · rw [if_pos hw2] at c1 c2 c3
    rw [if_pos hw2] at c2
    have := of_decide_eq_false c1
    rcases c2 with q | q
    · have := of_decide_eq_false q; omega
    · omega
  · rw [if_neg hw2] at c1 c2 c3
    rw [if_neg hw2] at c2
    have := of_decide_eq_false c1
    rcases c2 with q | q
    · have := of_decide_eq_false q; omega
    · omega
/-! what each call keeps -/
theorem pdt_cg {X Y X2 Y2 : Int → Int} {O O2 : Int → Bool} {a b i : Int} (h1 : a ≤ i) (h2 : i < b) (hX : ∀ k : Int, a ≤ k → k < b → X2 k = X k ∧ Y2 k = Y k ∧ O2 k = O k) : pdt X2 Y2 O2 a b i = pdt X Y O a b i := by
  have n1 := nx_in h1 h2
  have n2 := bf_in h1 h2
  obtain ⟨a1, a2, a3⟩ := hX i h1 h2
  obtain ⟨b1, b2, b3⟩ := hX _ n1.1 n1.2
  obtain ⟨c1, c2, c3⟩ := hX _ n2.1 n2.2
  unfold pdt cen
  rw [a1, a2, a3, b1, b2, b3, c1, c2, c3]
theorem inv_0 {LP : List Nat} {G : Nat → PD} {PQ : Int → Option Nat} {X Y : Int → Int} {O : Int → Bool} {E : Int → Int} : cInv LP G PQ X Y O E 0 ∧ lInv X Y E 0 0 := by
  have e : clo 0 E = 0 := rfl
  exact ⟨⟨fun c h1 h2 => by omega, fun i a h1 h2 => by omega, fun i j a h1 h2 => by omega⟩, ⟨by omega, fun c h1 h2 => by omega, by omega, fun k h1 h2 => by omega⟩⟩
theorem inv_add {LP : List Nat} {G : Nat → PD} {PQ : Int → Option Nat} {X Y : Int → Int} {O : Int → Bool} {E : Int → Int} {nc np x y : Int} {on : Bool} (hI : cInv LP G PQ X Y O E nc) (hL : lInv X Y E nc np) (hf : fA x y np = 0) : cInv LP G PQ (up X np x) (up Y np y) (up O np on) E nc ∧ lInv (up X np x) (up Y np y) E nc (np + 1) := by
  obtain ⟨l1, l2, l3, l4⟩ := hL
  have hf2 : ((-8192 ≤ x ∧ x ≤ 8191) ∧ (-8192 ≤ y ∧ y ≤ 8191)) ∧ np ≠ 512 := by
    unfold fA at hf
    split at hf
    · rename_i q; refine ⟨q, ?_⟩; split at hf; cases hf; assumption
    · cases hf
  refine ⟨⟨fun c c1 c2 i i1 i2 => ?_, hI.2.1, hI.2.2⟩, l1, l2, by omega, fun k k1 k2 => ?_⟩
  · have h3 := l2 c c1 c2
    rw [hI.1 c c1 c2 i i1 i2, pdt_cg i1 i2 (fun k k1 k2 => ⟨up_n _ _ (by omega), up_n _ _ (by omega), up_n _ _ (by omega)⟩)]
  · by_cases e : k = np
    · rw [e, up_s, up_s]; exact hf2.1
    · rw [up_n _ _ e, up_n _ _ e]; exact l4 k k1 (by omega)
theorem inv_drop {LP : List Nat} {G : Nat → PD} {PQ : Int → Option Nat} {X Y : Int → Int} {O : Int → Bool} {E : Int → Int} {nc np : Int} (hI : cInv LP G PQ X Y O E nc) (hL : lInv X Y E nc np) : cInv LP G PQ X Y O E nc ∧ lInv X Y E nc (clo nc E) := by
  obtain ⟨l1, l2, l3, l4⟩ := hL
  exact ⟨hI, l1, l2, by omega, fun k k1 k2 => l4 k k1 (by omega)⟩
theorem clo_up (E : Int → Int) {nc : Int} (np : Int) (h : 0 ≤ nc) : clo (nc + 1) (up E nc np) = np := by unfold clo; rw [if_neg (by omega), show nc + 1 - 1 = nc by omega, up_s]
theorem stE_up (E : Int → Int) {nc c : Int} (np : Int) (h : c ≤ nc) : stE (up E nc np) c = stE E c := by
  unfold stE
  by_cases e : c = 0
  · rw [if_pos e, if_pos e]
  · rw [if_neg e, if_neg e, up_n _ _ (by omega)]
theorem inv_close {LP L1 : List Nat} {G G1 : Nat → PD} {PQ Q1 : Int → Option Nat} {X Y : Int → Int} {O : Int → Bool} {E : Int → Int} {nc np : Int} (hI : cInv LP G PQ X Y O E nc) (hL : lInv X Y E nc np) (hf : ¬ (np = clo nc E ∨ 64 ≤ nc)) (hN : newP LP G PQ L1 G1 Q1 X Y O (clo nc E) np np) : cInv L1 G1 Q1 X Y O (up E nc np) (nc + 1) ∧ lInv X Y (up E nc np) (nc + 1) np := by
  have hb := hL
  obtain ⟨l1, l2, l3, l4⟩ := hL
  obtain ⟨n1, n2, n3, n4⟩ := hN
  have hE : ∀ c : Int, c < nc → up E nc np c = E c := fun c h => up_n _ _ (by omega)
  refine ⟨⟨fun c c1 c2 i i1 i2 => ?_, fun i a i1 i2 ha => ?_, fun i j a i1 i2 j1 j2 ha hb2 => ?_⟩, by omega, fun c c1 c2 => ?_, ?_, l4⟩
  · rw [stE_up E np (by omega)] at i1 ⊢
    by_cases e : c = nc
    · subst e
      rw [up_s] at i2 ⊢
      exact (n3 i i1 i2).1
    · rw [hE c (by omega)] at i2 ⊢
      have h3 := l2 c c1 (by omega)
      rw [← hI.1 c c1 (by omega) i i1 i2, n2 i (by omega)]
      cases hq : PQ i with
      | none => rfl
      | some q =>
        show some (G1 q) = some (G q)
        rw [(n1 q (hI.2.1 i q (by omega) (by omega) hq)).2]
  · rw [clo_up E np l1.1] at i2
    by_cases e : i < clo nc E
    · rw [n2 i (by omega)] at ha
      exact (n1 a (hI.2.1 i a i1 e ha)).1
    · exact ((n3 i (by omega) i2).2 a ha).1
  · rw [clo_up E np l1.1] at i2 j2
    by_cases e : i < clo nc E
    · have ha2 := ha
      rw [n2 i (by omega)] at ha2
      have hm := hI.2.1 i a i1 e ha2
      by_cases e2 : j < clo nc E
      · rw [n2 j (by omega)] at hb2; exact hI.2.2 i j a i1 e j1 e2 ha2 hb2
      · exact absurd hm ((n3 j (by omega) j2).2 a hb2).2
    · by_cases e2 : j < clo nc E
      · have hb3 := hb2
        rw [n2 j (by omega)] at hb3
        exact absurd (hI.2.1 j a j1 e2 hb3) ((n3 i (by omega) i2).2 a ha).2
      · exact n4 i j a (by omega) i2 (by omega) j2 ha hb2
  · rw [stE_up E np (by omega), clo_up E np l1.1]
    by_cases e : c = nc
    · subst e
      rw [up_s]
      have : stE E c = clo c E := rfl
      omega
    · rw [hE c (by omega)]
      have := l2 c c1 (by omega)
      omega
  · rw [clo_up E np l1.1]; omega
theorem mvok_t {X Y : Int → Int} {dx dy : Int} (n : Nat) (h : mvok X Y dx dy n = true) : ∀ k : Int, 0 ≤ k → k < (n : Int) → (-8192 ≤ X k + dx ∧ X k + dx ≤ 8191) ∧ (-8192 ≤ Y k + dy ∧ Y k + dy ≤ 8191) := fun k h1 h2 => by
  by_cases hq : (-8192 ≤ X k + dx ∧ X k + dx ≤ 8191) ∧ (-8192 ≤ Y k + dy ∧ Y k + dy ≤ 8191)
  · exact hq
  · have := mvok_f n ⟨h1, h2⟩ hq; rw [this] at h; cases h
theorem pdt_mv {X Y : Int → Int} {O : Int → Bool} {a b i np : Int} (dx dy : Int) (h0 : 0 ≤ a) (h1 : a ≤ i) (h2 : i < b) (h3 : b ≤ np) : pdt (mvF X dx np) (mvF Y dy np) O a b i = (pdt X Y O a b i).map (fun d => shd d dx dy) := by
  have n1 := nx_in h1 h2
  have n2 := bf_in h1 h2
  have key : ∀ (F : Int → Int) (d k : Int), a ≤ k → k < b → mvF F d np k = F k + d := fun F d k k1 k2 => by unfold mvF; rw [if_pos (by omega)]
  have cn : ∀ (F : Int → Int) (d k j : Int), a ≤ k → k < b → a ≤ j → j < b → cen (mvF F d np) O k j = cen F O k j + d := fun F d k j k1 k2 j1 j2 => by
    unfold cen
    rw [key F d k k1 k2, key F d j j1 j2]
    split <;> omega
  unfold pdt
  by_cases hi : O i = true
  · rw [if_pos hi, if_pos hi]
    by_cases hj : O (nx a b i) = true
    · rw [if_pos hj, if_pos hj, key X dx i h1 h2, key Y dy i h1 h2, key X dx _ n1.1 n1.2, key Y dy _ n1.1 n1.2]; rfl
    · rw [if_neg hj, if_neg hj]; rfl
  · rw [if_neg hi, if_neg hi, key X dx i h1 h2, key Y dy i h1 h2, cn X dx i _ h1 h2 n1.1 n1.2, cn Y dy i _ h1 h2 n1.1 n1.2, cn X dx i _ h1 h2 n2.1 n2.2, cn Y dy i _ h1 h2 n2.1 n2.2]; rfl
theorem inv_move {LP : List Nat} {G G1 : Nat → PD} {PQ : Int → Option Nat} {X Y : Int → Int} {O : Int → Bool} {E : Int → Int} {nc np dx dy : Int} (hI : cInv LP G PQ X Y O E nc) (hL : lInv X Y E nc np) (hm : mvok X Y dx dy np.toNat = true) (hM : mvP G PQ G1 dx dy (clo nc E)) : cInv LP G1 PQ (mvF X dx np) (mvF Y dy np) O E nc ∧ lInv (mvF X dx np) (mvF Y dy np) E nc np := by
  obtain ⟨l1, l2, l3, l4⟩ := hL
  refine ⟨⟨fun c c1 c2 i i1 i2 => ?_, hI.2.1, hI.2.2⟩, l1, l2, l3, fun k k1 k2 => ?_⟩
  · have h3 := l2 c c1 c2
    rw [pdt_mv dx dy h3.1 i1 i2 (by omega), ← hI.1 c c1 c2 i i1 i2]
    cases hq : PQ i with
    | none => rfl
    | some q =>
      show some (G1 q) = some (shd (G q) dx dy)
      rw [hM.1 i q (by omega) (by omega) hq]
  · have := mvok_t np.toNat hm k k1 (by omega)
    unfold mvF
    rw [if_pos (by omega), if_pos (by omega)]; exact this
