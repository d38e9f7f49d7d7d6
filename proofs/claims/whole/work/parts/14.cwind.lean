/-! the class: its pieces, its world -/
def PD : Type := Bool × Int × Int × Int × Int × Int × Int
def PD.mk (ln : Bool) (px py qx qy rx ry : Int) : PD := (ln, px, py, qx, qy, rx, ry)
def PD.ln (d : PD) : Bool := d.1
def PD.px (d : PD) : Int := d.2.1
def PD.py (d : PD) : Int := d.2.2.1
def PD.qx (d : PD) : Int := d.2.2.2.1
def PD.qy (d : PD) : Int := d.2.2.2.2.1
def PD.rx (d : PD) : Int := d.2.2.2.2.2.1
def PD.ry (d : PD) : Int := d.2.2.2.2.2.2
abbrev pE (d : PD) : va_E := .inr (0, [.int (iI (bz d.ln)), .int (iI (sqv d.ln d.px d.qx d.rx)), .int (iI (onv d.ln d.px d.qx d.rx)), .int (iI (sqv d.ln d.py d.qy d.ry)), .int (iI (onv d.ln d.py d.qy d.ry)), .int (iI d.px), .int (iI d.py), .int (iI d.qx), .int (iI d.qy), .int (iI d.rx), .int (iI d.ry)])
abbrev pG (G : Nat → PD) : Nat → va_E := fun a => pE (G a)
def pdOk (d : PD) : Prop := (-8192 ≤ d.px ∧ d.px ≤ 8191) ∧ (-8192 ≤ d.py ∧ d.py ≤ 8191) ∧ (-8192 ≤ d.qx ∧ d.qx ≤ 8191) ∧ (-8192 ≤ d.qy ∧ d.qy ≤ 8191) ∧ (-8192 ≤ d.rx ∧ d.rx ≤ 8191) ∧ (-8192 ≤ d.ry ∧ d.ry ≤ 8191) ∧ (d.ln = true → d.qx = d.px ∧ d.qy = d.py)
def cOk (LP : List Nat) (G : Nat → PD) (PQ : Int → Option Nat) (op : Int) : Prop := ∀ i : Int, 0 ≤ i → i < op → ∀ a : Nat, PQ i = some a → a ∈ LP ∧ pdOk (G a)
abbrev cW (ad : Nat → Nat) (cs : Nat → ClassId) (nc : Int) (np : Int) (op : Int) (par : Bool) (X : Int → Int) (Y : Int → Int) (O : Int → Bool) (PQ : Int → Option Nat) (Wd : Int → Int) (pw : Int) (pf : Int) (pu : Int) (ps : Int) : va_W := [((ad 0), .inr (2, [.ref (ad 1), .ref (ad 2), .ref (ad 3), .ref (ad 4), .ref (ad 5), .ref (ad 6), .int (iI nc), .int (iI np), .int (iI op), .int (iI (bz par))])), ((ad 1), .inl (cs 0, 512, .inl (aI X))), ((ad 2), .inl (cs 1, 512, .inl (aI Y))), ((ad 3), .inl (cs 2, 512, .inl (aB O))), ((ad 4), .inl (cs 3, 512, .inr (.inr (.inr (.inr (aQ PQ)))))), ((ad 5), .inl (cs 4, 65, .inl (aI Wd))), ((ad 6), .inr (1, [.long (lI pw), .long (lI pf), .long (lI pu), .long (lI ps)]))]
abbrev cT (cs : Nat → ClassId) : List (ClassId × FieldType) := [(cs 0, .int), (cs 1, .int), (cs 2, .boolean), (cs 3, .object RP), (cs 4, .int)]
theorem xp_two {D : va_G} {cl : List vw_C} {ws : va_W} {H : Heap} {i j : Nat} {q1 q2 : Nat × va_E} (h : va_P D cl ws H) (hi : ws[i]? = some q1) (hj : ws[j]? = some q2) : va_P D cl [q1, q2] H := fun k q hk => by
  rcases k with _ | _ | k
  · cases hk; exact h i _ hi
  · cases hk; exact h j _ hj
  · cases hk
theorem xp_twoD {A : Nat → Prop} {ws : va_W} {i j : Nat} {q1 q2 : Nat × va_E} (h : va_D A ws) (hij : i ≠ j) (hi : ws[i]? = some q1) (hj : ws[j]? = some q2) : va_D A [q1, q2] := by
  refine ⟨fun a b p q ha hb hpq => ?_, fun k q hk => ?_⟩
  · rcases a with _ | _ | a <;> rcases b with _ | _ | b <;> first | rfl | (cases ha; cases hb; first | exact absurd (h.1 i j _ _ hi hj hpq) hij | exact absurd (h.1 j i _ _ hj hi hpq) (fun e => hij e.symm)) | (cases ha; done) | (cases hb; done)
  · rcases k with _ | _ | k
    · cases hk; exact h.2 i _ hi
    · cases hk; exact h.2 j _ hj
    · cases hk
theorem xp_free {A : Nat → Prop} {ws wc : va_W} {H0 H : Heap} {locs : List Loc} (hD : va_D A ws) (hS : va_S A H0 H locs) (hA : ∀ q, H0.size ≤ q → A q) (h : ∀ (i : Nat) (q : Nat × va_E), wc[i]? = some q → ∃ j : Nat, ws[j]? = some q) : ∀ q, va_A wc H.size q → A q := fun q hq => by
  rcases hq with ⟨k, e, hk⟩ | hq
  · obtain ⟨j, hj⟩ := h k _ hk; exact hD.2 j _ hj
  · exact hA q (Nat.le_trans hS.1 hq)
theorem xp_free1 {A : Nat → Prop} {ws : va_W} {H0 H : Heap} {locs : List Loc} {q1 : Nat × va_E} {i : Nat} (hD : va_D A ws) (hS : va_S A H0 H locs) (hA : ∀ q, H0.size ≤ q → A q) (hi : ws[i]? = some q1) : ∀ q, va_A [q1] H.size q → A q := xp_free hD hS hA (fun k q hk => by
  rcases k with _ | k
  · cases hk; exact ⟨i, hi⟩
  · cases hk)
theorem xp_free2 {A : Nat → Prop} {ws : va_W} {H0 H : Heap} {locs : List Loc} {q1 q2 : Nat × va_E} {i j : Nat} (hD : va_D A ws) (hS : va_S A H0 H locs) (hA : ∀ q, H0.size ≤ q → A q) (hi : ws[i]? = some q1) (hj : ws[j]? = some q2) : ∀ q, va_A [q1, q2] H.size q → A q := xp_free hD hS hA (fun k q hk => by
  rcases k with _ | _ | k
  · cases hk; exact ⟨i, hi⟩
  · cases hk; exact ⟨j, hj⟩
  · cases hk)
theorem xp_set2 {D : va_G} {cl : List vw_C} {A : Nat → Prop} {ws : va_W} {H H1 : Heap} {a i j : Nat} {e0 e : va_E} {q2 : Nat × va_E} (hP : va_P D cl ws H) (hD : va_D A ws) (hij : i ≠ j) (hi : ws[i]? = some (a, e0)) (hj : ws[j]? = some q2) (h1 : va_P D cl [(a, e), q2] H1) (hq : ∀ q : Nat, q < H.size → ¬ va_A [(a, e0), q2] H.size q → H1[q]? = H[q]?) : va_P D cl (ws.set i (a, e)) H1 := fun k q hk => by
  by_cases h2 : k = i
  · subst h2
    have h3 : k < ws.length := by
      rcases Nat.lt_or_ge k ws.length with h | h
      · exact h
      · rw [List.getElem?_eq_none h] at hi; cases hi
    rw [List.getElem?_set_self h3] at hk
    cases hk
    exact h1 0 _ rfl
  · rw [List.getElem?_set_ne (Ne.symm h2)] at hk
    by_cases h4 : k = j
    · subst h4; rw [hj] at hk; cases hk; exact h1 1 _ rfl
    · refine (hP k q hk).kept (hq q.1 (hP k q hk).lt (fun hc => ?_))
      rcases hc with ⟨n, e9, hn⟩ | hc
      · rcases n with _ | _ | n
        · have : q.1 = a := by cases hn; rfl
          exact h2 (hD.1 k i _ _ hk hi this)
        · have : q.1 = q2.1 := by cases hn; rfl
          exact h4 (hD.1 k j _ _ hk hj this)
        · cases hn
      · exact absurd (hP k q hk).lt (by omega)
def ciOf (e : va_E) : Nat := match e with | .inr (n, _) => n | .inl _ => 99
theorem xp_ne {ws : va_W} {i k : Nat} {q r : Nat × va_E} (hi : ws[i]? = some q) (hk : ws[k]? = some r) (h : ciOf q.2 ≠ ciOf r.2) : i ≠ k := fun e => h (by subst e; rw [hi] at hk; cases hk; rfl)
/-! what a piece does at a height -/
theorem pd_b {d : PD} (h : pdOk d) : (-32766 ≤ sqv d.ln d.px d.qx d.rx ∧ sqv d.ln d.px d.qx d.rx ≤ 32766) ∧ (-32766 ≤ onv d.ln d.px d.qx d.rx ∧ onv d.ln d.px d.qx d.rx ≤ 32766) ∧ (-32766 ≤ sqv d.ln d.py d.qy d.ry ∧ sqv d.ln d.py d.qy d.ry ≤ 32766) ∧ (-32766 ≤ onv d.ln d.py d.qy d.ry ∧ onv d.ln d.py d.qy d.ry ≤ 32766) := by
  obtain ⟨h1, h2, h3, h4, h5, h6, -⟩ := h
  unfold sqv onv
  refine ⟨?_, ?_, ?_, ?_⟩ <;> split <;> omega
def rtp (d : PD) (x y : Int) (u : Bool) : Bool := rgt (tkW (sqv d.ln d.px d.qx d.rx) (onv d.ln d.px d.qx d.rx) (sqv d.ln d.py d.qy d.ry) (onv d.ln d.py d.qy d.ry) d.px d.py y - tkS (sqv d.ln d.py d.qy d.ry) (onv d.ln d.py d.qy d.ry) * x) (tkF (sqv d.ln d.px d.qx d.rx) (onv d.ln d.px d.qx d.rx) (sqv d.ln d.py d.qy d.ry) (onv d.ln d.py d.qy d.ry) u) (tkU (sqv d.ln d.py d.qy d.ry) (onv d.ln d.py d.qy d.ry) d.py y)
def crp (d : PD) (y : Int) (u : Bool) : Bool := crs (onv d.ln d.py d.qy d.ry) (sqv d.ln d.py d.qy d.ry) d.py d.qy d.ry y u
def cu (d : PD) (x y : Int) (u : Bool) : Int := if crp d y u = true then (if rtp d x y u = true then 0 else 1) else 0
def cct (d : PD) (x y : Int) : Int := cu d x y true - cu d x y false
theorem cu_in (d : PD) (x y : Int) (u : Bool) : 0 ≤ cu d x y u ∧ cu d x y u ≤ 1 := by
  unfold cu
  repeat' split
  all_goals omega
theorem cct_in (d : PD) (x y : Int) : -1 ≤ cct d x y ∧ cct d x y ≤ 1 := by
  have h1 := cu_in d x y true
  have h2 := cu_in d x y false
  unfold cct; omega
def pct (PQ : Int → Option Nat) (G : Nat → PD) (x y i : Int) : Int := match PQ i with | none => 0 | some a => cct (G a) x y
theorem pct_n {PQ : Int → Option Nat} {G : Nat → PD} {x y i : Int} (h : PQ i = none) : pct PQ G x y i = 0 := by unfold pct; rw [h]
theorem pct_s {PQ : Int → Option Nat} {G : Nat → PD} {x y i : Int} {a : Nat} (h : PQ i = some a) : pct PQ G x y i = cct (G a) x y := by unfold pct; rw [h]
theorem pct_in (PQ : Int → Option Nat) (G : Nat → PD) (x y i : Int) : -1 ≤ pct PQ G x y i ∧ pct PQ G x y i ≤ 1 := by
  unfold pct
  split
  · omega
  · exact cct_in _ _ _
/-- the winding that the class finds -/
def wC (PQ : Int → Option Nat) (G : Nat → PD) (op x y : Int) : Int := isum (pct PQ G x y) op.toNat
theorem wC_bd (PQ : Int → Option Nat) (G : Nat → PD) {op : Int} (x y : Int) (h : 0 ≤ op ∧ op ≤ 512) : -512 ≤ wC PQ G op x y ∧ wC PQ G op x y ≤ 512 := by
  have h1 := isum_bd (h := pct PQ G x y) (pct_in PQ G x y) op.toNat
  unfold wC; omega
theorem und_bd {p q r y : Int} (h1 : -8192 ≤ p ∧ p ≤ 8191) (h2 : -8192 ≤ q ∧ q ≤ 8191) (h3 : -8192 ≤ r ∧ r ≤ 8191) (hy : (p ≤ y ∧ y ≤ r) ∨ (r ≤ y ∧ y ≤ p) ∨ (p ≤ y ∧ y ≤ q) ∨ (q ≤ y ∧ y ≤ p)) : 2 * (q - p) * (2 * (q - p)) - 4 * (p - 2 * q + r) * (p - y) < 1073741824 := by
  have e1 : 2 * (q - p) * (2 * (q - p)) - 4 * (p - 2 * q + r) * (p - y) = 4 * ((q - p) * (q - p)) + 4 * ((p - 2 * q + r) * (y - p)) := by grind
  have a1 := mul_bd 16383 16383 (a := q - p) (b := q - p) (by omega) (by omega)
  have a2 := mul_bd 16383 16383 (a := r - q) (b := r - q) (by omega) (by omega)
  have a3 := mul_bd 16383 16383 (a := q - p) (b := r - q) (by omega) (by omega)
  have e2 : (q - p) * (q - p) + (p - 2 * q + r) * (r - p) = (r - q) * (r - q) := by grind
  have e3 : (q - p) * (q - p) + (p - 2 * q + r) * (q - p) = (q - p) * (r - q) := by grind
  rw [e1]
  rcases Int.le_total 0 (p - 2 * q + r) with hs | hs
  · rcases hy with hy | hy | hy | hy
    · have := Int.mul_le_mul_of_nonneg_left (show y - p ≤ r - p by omega) hs; omega
    · have := Int.mul_le_mul_of_nonneg_left (show y - p ≤ 0 by omega) hs; omega
    · have := Int.mul_le_mul_of_nonneg_left (show y - p ≤ q - p by omega) hs; omega
    · have := Int.mul_le_mul_of_nonneg_left (show y - p ≤ 0 by omega) hs; omega
  · rcases hy with hy | hy | hy | hy
    · have := Int.mul_le_mul_of_nonpos_left hs (show 0 ≤ y - p by omega); omega
    · have := Int.mul_le_mul_of_nonpos_left hs (show r - p ≤ y - p by omega); omega
    · have := Int.mul_le_mul_of_nonpos_left hs (show 0 ≤ y - p by omega); omega
    · have := Int.mul_le_mul_of_nonpos_left hs (show q - p ≤ y - p by omega); omega
theorem crs_y {oy sy py qy ry y : Int} {u : Bool} (h : crs oy sy py qy ry y u = true) : (py ≤ y ∧ y ≤ ry) ∨ (ry ≤ y ∧ y ≤ py) ∨ (py ≤ y ∧ y ≤ qy) ∨ (qy ≤ y ∧ y ≤ py) := by
  by_cases h1 : decide (y < py) = decide (y < ry)
  · rw [crs_b h1] at h
    have h2 := (Bool.and_eq_true _ _ ▸ h).1
    by_cases a : y < py <;> by_cases b : y < qy
    · rw [decide_eq_true a, decide_eq_true b] at h2; cases h2
    · omega
    · omega
    · rw [decide_eq_false a, decide_eq_false b] at h2; cases h2
  · by_cases a : y < py <;> by_cases b : y < ry
    · rw [decide_eq_true a, decide_eq_true b] at h1; exact absurd rfl h1
    · omega
    · omega
    · rw [decide_eq_false a, decide_eq_false b] at h1; exact absurd rfl h1
theorem tk_bd {d : PD} {y : Int} {u : Bool} (h : pdOk d) (hy : -16384 ≤ y ∧ y ≤ 16384) (hc : crp d y u = true) :
    (-1152921504606846976 ≤ tkU (sqv d.ln d.py d.qy d.ry) (onv d.ln d.py d.qy d.ry) d.py y ∧ tkU (sqv d.ln d.py d.qy d.ry) (onv d.ln d.py d.qy d.ry) d.py y < 1073741824) ∧
    (-2147483647 ≤ tkF (sqv d.ln d.px d.qx d.rx) (onv d.ln d.px d.qx d.rx) (sqv d.ln d.py d.qy d.ry) (onv d.ln d.py d.qy d.ry) u ∧ tkF (sqv d.ln d.px d.qx d.rx) (onv d.ln d.px d.qx d.rx) (sqv d.ln d.py d.qy d.ry) (onv d.ln d.py d.qy d.ry) u ≤ 2147483647) ∧
    (-1125899906842624 ≤ tkW (sqv d.ln d.px d.qx d.rx) (onv d.ln d.px d.qx d.rx) (sqv d.ln d.py d.qy d.ry) (onv d.ln d.py d.qy d.ry) d.px d.py y ∧ tkW (sqv d.ln d.px d.qx d.rx) (onv d.ln d.px d.qx d.rx) (sqv d.ln d.py d.qy d.ry) (onv d.ln d.py d.qy d.ry) d.px d.py y ≤ 1125899906842624) ∧
    (0 ≤ tkS (sqv d.ln d.py d.qy d.ry) (onv d.ln d.py d.qy d.ry) ∧ tkS (sqv d.ln d.py d.qy d.ry) (onv d.ln d.py d.qy d.ry) ≤ 2147483647) := by
  obtain ⟨b1, b2, b3, b4⟩ := pd_b h
  have hU : sqv d.ln d.py d.qy d.ry ≠ 0 → onv d.ln d.py d.qy d.ry * onv d.ln d.py d.qy d.ry - 4 * sqv d.ln d.py d.qy d.ry * (d.py - y) < 1073741824 := fun hn => by
    have h9 := crs_y hc
    cases hl : d.ln with
    | true => exfalso; apply hn; unfold sqv; rw [hl, if_pos rfl]
    | false =>
      have e1 : sqv false d.py d.qy d.ry = d.py - 2 * d.qy + d.ry := by unfold sqv; rw [if_neg (by decide)]
      have e2 : onv false d.py d.qy d.ry = 2 * (d.qy - d.py) := by unfold onv; rw [if_neg (by decide)]
      rw [e1, e2]
      exact und_bd h.2.1 h.2.2.2.1 h.2.2.2.2.2.1 h9
  obtain ⟨h1, h2, -, -, -, -, -⟩ := h
  generalize sqv d.ln d.px d.qx d.rx = sx at *
  generalize onv d.ln d.px d.qx d.rx = ox at *
  generalize sqv d.ln d.py d.qy d.ry = sy at *
  generalize onv d.ln d.py d.qy d.ry = oy at *
  generalize d.px = px at *
  generalize d.py = py at *
  clear hc
  have m1 := mul_bd 32766 32766 (a := oy) (b := oy) (by omega) (by omega)
  have n1 := sq_nn oy
  unfold tkU tkF tkW tkS
  by_cases h0 : sy = 0
  · rw [if_pos h0, if_pos h0, if_pos h0, if_pos h0]
    refine ⟨by omega, by omega, ?_, by omega⟩
    have m2 := mul_bd 32766 24576 (a := sx) (b := py - y) (by omega) (by omega)
    have m3 := mul_bd (32766 * 24576) 24576 (a := sx * (py - y)) (b := py - y) m2 (by omega)
    have m4 := mul_bd 32766 32766 (a := ox) (b := oy) (by omega) (by omega)
    have m5 := mul_bd (32766 * 32766) 24576 (a := ox * oy) (b := py - y) m4 (by omega)
    have m6 := mul_bd (32766 * 32766) 8192 (a := oy * oy) (b := px) m1 (by omega)
    omega
  · rw [if_neg h0, if_neg h0, if_neg h0, if_neg h0]
    have hU := hU h0
    have m2 := mul_bd (4 * 32766) 24576 (a := 4 * sy) (b := py - y) (by omega) (by omega)
    have m3 := mul_bd 32766 32766 (a := sy) (b := ox) (by omega) (by omega)
    have m4 := mul_bd 32766 32766 (a := sx) (b := oy) (by omega) (by omega)
    have m5 := mul_bd (2 * 32766 * 32766) 32766 (a := -(sy * ox - sx * oy)) (b := oy) (by omega) (by omega)
    have m6 := mul_bd (2 * 32766) 32766 (a := 2 * sy) (b := sx) (by omega) (by omega)
    have m7 := mul_bd (2 * 32766 * 32766) 24576 (a := 2 * sy * sx) (b := py - y) m6 (by omega)
    have m8 := mul_bd (2 * 32766) 32766 (a := 2 * sy) (b := sy) (by omega) (by omega)
    have m9 := mul_bd (2 * 32766 * 32766) 8192 (a := 2 * sy * sy) (b := px) m8 (by omega)
    have n2 := sq_nn sy
    have e2 : 2 * sy * sy = 2 * (sy * sy) := Int.mul_assoc _ _ _
    refine ⟨by omega, by split <;> omega, by omega, by omega⟩
theorem isum_up (R : Int → Int) (k c : Int) (n : Nat) : isum (up R k (R k + c)) n = isum R n + (if 0 ≤ k ∧ k < (n : Int) then c else 0) := by
  induction n with
  | zero => rw [if_neg (by omega)]; rfl
  | succ n ih =>
    show isum (up R k (R k + c)) n + up R k (R k + c) (n : Int) = isum R n + R (n : Int) + _
    rw [ih]
    by_cases h : (n : Int) = k
    · rw [h, up_s, if_neg (by omega), if_pos (by omega)]; omega
    · rw [up_n _ _ h]
      by_cases h2 : 0 ≤ k ∧ k < (n : Int)
      · rw [if_pos h2, if_pos (by omega)]; omega
      · rw [if_neg h2, if_neg (by omega)]; omega
theorem ptl_at {w f u sc fi sp mn k j : Int} (h : ptl w f u sc fi sp mn k) (hs : 0 ≤ sc) (hp : 0 ≤ sp) (hj : 0 ≤ j ∧ j < mn) (c : Int) : (if 0 ≤ k ∧ k < ((j + 1).toNat : Int) then c else 0) = (if rgt (w - sc * (fi + sp * j)) f u = true then 0 else c) := by
  obtain ⟨h1, h2, h3, h4⟩ := h
  by_cases hk : k ≤ j
  · rw [if_pos (by omega), if_neg (fun hc => by
      have := rgt_pts hs hp hk hc
      rw [h4 (by omega)] at this; cases this)]
  · rw [if_neg (by omega), if_pos (h3 j hj.1 (by omega))]

set_option maxHeartbeats 4000000 in
set_option maxRecDepth 100000 in
/-- wind -/
theorem k_wind (l : Launch) (dC : Nat → ClassId) (dI : Nat → Nat → Nat) (ad : Nat → Nat) (cs : Nat → ClassId) (sz : Nat) (LP : List Nat) (G : Nat → PD) (nc np op : Int) (par : Bool) (X Y : Int → Int) (O : Int → Bool) (PQ : Int → Option Nat) (Wd : Int → Int) (pw pf pu ps : Int) (y fi sp mn : Int) (hop : 0 ≤ op ∧ op ≤ 512) (hG : cOk LP G PQ op) (hy : -16384 ≤ y ∧ y ≤ 16384) (hfi : -16384 ≤ fi ∧ fi ≤ 16384) (hsp : 0 ≤ sp ∧ sp ≤ 64) (hmn : 1 ≤ mn ∧ mn ≤ 64) : Met l yC_wind wC_wind ({ frames := 3, cells := 0, slots := 0, locals := 78 }) (va_Pc [.ref (ad 0), .int (iI y), .int (iI fi), .int (iI sp), .int (iI mn)] (fun U => U.heap.size = sz ∧ va_P (dC, dI) vwCl ((cW ad cs nc np op par X Y O PQ Wd pw pf pu ps) ++ va_pl LP (pG G)) U.heap ∧ va_K (dC, dI) vwCl (cT cs) U ∧ va_D (fun _ => True) ((cW ad cs nc np op par X Y O PQ Wd pw pf pu ps) ++ va_pl LP (pG G)))) (va_Qv (fun (u : (Int → Int) × Int × Int × Int × Int) => ∀ j : Int, 0 ≤ j → j < mn → u.1 j = wC PQ G op (fi + sp * j) y) (fun (u : (Int → Int) × Int × Int × Int × Int) t9 => va_P (dC, dI) vwCl ((cW ad cs nc np op par X Y O PQ u.1 u.2.1 u.2.2.1 u.2.2.2.1 u.2.2.2.2) ++ va_pl LP (pG G)) t9.heap ∧ va_K (dC, dI) vwCl (cT cs) t9 ∧ va_D (va_A ((cW ad cs nc np op par X Y O PQ Wd pw pf pu ps) ++ va_pl LP (pG G)) sz) ((cW ad cs nc np op par X Y O PQ u.1 u.2.1 u.2.2.1 u.2.2.2.1 u.2.2.2.2) ++ va_pl LP (pG G))) (va_A ((cW ad cs nc np op par X Y O PQ Wd pw pf pu ps) ++ va_pl LP (pG G)) sz)) 0 0 (va_A ((cW ad cs nc np op par X Y O PQ Wd pw pf pu ps) ++ va_pl LP (pG G)) sz) := by
  refine Met.ofW (cc := cC_wind) (maxL := 7) (ret := none) (by decide) rfl ?_
  intro p e s m args below meth c s₁ B hml hv
  obtain ⟨hargs, hsz, hP, hK, hD0⟩ := hv
  have hx := B.exec
  have hb := B.bytes
  have hr := B.returns
  have hts := atoms_spec (ws := wC_wind) B.pre
  have hown : s.vm.findClass RC = some m.cls := findClass_of_methodNamed B.named
  have hlocks := B.notSynchronized
  subst hsz
  have hD := hD0.self (sz := s.heap.size)
  generalize hAe : va_A ((cW ad cs nc np op par X Y O PQ Wd pw pf pu ps) ++ va_pl LP (pG G)) s.heap.size = A at hD ⊢
  have hA : ∀ q : Nat, s.heap.size ≤ q → A q := fun q h => by rw [← hAe]; exact Or.inr h
  have hS0 : va_S A s.heap s.heap [] := va_S.rf
  refine x_name (fun R Q H locs hR hQ hH hlo => ?_)
  rw [← hH] at hP
  have hS : va_S A s.heap H locs := by rw [hH, hlo]; exact hS0
  refine x_entry hargs (Nat.le_of_ble_eq_true rfl) (fun ls hl => ?_)
  have hl : lv_has ls 7 [(0, .ref (ad 0)), (1, .int (iI y)), (2, .int (iI fi)), (3, .int (iI sp)), (4, .int (iI mn))] := hl
  have hP : va_P (dC, dI) vwCl ((cW ad cs nc np op par X Y O PQ Wd pw pf pu ps) ++ va_pl LP (pG G)) H := hP
  refine lv_aload_n hx hb dC_wind_0 rfl (lv_at hl 0 rfl) ?_
  refine va_get (D := (dC, dI)) (ci := 2) (v := .ref (ad 5)) (C := RC) (T := TC) (N := 10) hx hb hts (fun w9 h9 => List.mem_cons_of_mem _ (inC w9 h9)) hown hK hP 0 rfl rfl 4 (by decide) (hts _ (List.mem_cons_of_mem _ flC_26)) (fun _ h9 => h9) rfl dC_wind_1 ?_
  refine xi_iconst hx hb dC_wind_4 ?_
  have hPc := hP.sub (ws' := [((ad 5), .inl (cs 4, 65, .inl (aI Wd)))]) [5] rfl
  have hKc := hK.sub (tys' := [(cs 4, .int)]) [4] rfl
  have hDc := hD.sub (ws' := [((ad 5), .inl (cs 4, 65, .inl (aI Wd)))]) [5] (by decide) rfl
  have hFc := xp_free1 (i := 5) hD hS hA (q1 := ((ad 5), .inl (cs 4, 65, .inl (aI Wd)))) rfl
  refine va_callv (va_runS (As := [.ref (ad 5), .int (iI 0)]) (rest := []) ⟨hx, hb, hml, hown, hts⟩ (j_fill l dC dI H.size (ad 5) (cs 4) (Wd) 0) (va_cwS 2 hts (tb_S mlC_171 smJA_fill iniJA coJA_fill) rfl rfl rfl (by decide +kernel) (by subst hR; exact ⟨Nat.le_of_ble_eq_true rfl, Nat.le_of_ble_eq_true rfl⟩)) ⟨fun a9 U9 g9 mk9 q9 => by obtain ⟨q0, q1, qP, qK, qD⟩ := q9; exact ⟨q0, q1, qP, va_K.moved (u := U9) (U := U9.calling g9 mk9 a9) (Vm.Alike.refl U9.vm) qK, qD⟩, fun U hU hW => ⟨rfl, by rw [hU], by rw [hU]; exact hPc, va_K.moved hW.alike hKc, hDc.weaken (fun _ _ _ _ => trivial)⟩⟩ rfl rfl hl.1 rfl (lv_room (Nat.le_of_ble_eq_true rfl)) dC_wind_5 ⟨by subst hR; exact Nat.le_of_ble_eq_true rfl, by subst hR; exact Nat.le_of_ble_eq_true rfl⟩) hS (fun q9 _ h9 => hFc q9 h9) hFc (fun u_5 t9 H1 locs1 ht9 hvm9 hw_5 hB9 hz9 hk9 hS1 => ?_)
  obtain ⟨hP1, hK1, hD1⟩ := hB9
  rw [ht9] at hP1
  have hD2 := va_D.set (e := .inl (cs 4, 65, .inl (aI u_5))) hD (p := 5) rfl
  have hP2 := xp_set hP hD (k := 5) rfl hP1 hk9
  have hP : va_P (dC, dI) vwCl ((cW ad cs nc np op par X Y O PQ u_5 pw pf pu ps) ++ va_pl LP (pG G)) H1 := hP2
  have hD : va_D A ((cW ad cs nc np op par X Y O PQ u_5 pw pf pu ps) ++ va_pl LP (pG G)) := hD2
  clear hP1 hD1 hK1 hFc hP2 hD2 hPc hDc hKc
  have hS := hS1
  clear hS1 hz9 hk9 ht9 hvm9
  revert hP hD hS; generalize H1 = H; generalize locs1 = locs; intro hP hD hS
  refine xi_iconst hx hb dC_wind_8 ?_
  refine lv_istore (lv' := [(5, .int (iI 0)), (0, .ref (ad 0)), (1, .int (iI y)), (2, .int (iI fi)), (3, .int (iI sp)), (4, .int (iI mn))]) hx hb dC_wind_9 hl (by decide) rfl (fun ls hl => ?_)
  have cut_11_1 : ∀ (fu_11 : Nat) (z : Int) (R1 : Int → Int) (w1 : Int) (f1 : Int) (u1 : Int) (s1 : Int) (H : Heap) (locs : List Loc) (ls : Array Slot), ((op - z).toNat) < fu_11 → (0 ≤ z ∧ z ≤ op) → (∀ j : Int, 0 ≤ j → j < mn → isum R1 (j + 1).toNat = isum (pct PQ G (fi + sp * j) y) z.toNat) → va_P (dC, dI) vwCl ((cW ad cs nc np op par X Y O PQ R1 w1 f1 u1 s1) ++ va_pl LP (pG G)) H → va_D A ((cW ad cs nc np op par X Y O PQ R1 w1 f1 u1 s1) ++ va_pl LP (pG G)) → va_S A s.heap H locs → lv_has ls 7 [(0, .ref (ad 0)), (1, .int (iI y)), (2, .int (iI fi)), (3, .int (iI sp)), (4, .int (iI mn)), (5, .int (iI z))] → W p l e R s m args below meth c H locs 0 0 Q (F0 m 11 ls []) := by
    intro fu_11
    induction fu_11 with
    | zero => intro _ _ _ _ _ _ _ _ _ hm; exact absurd hm (Nat.not_lt_zero _)
    | succ fu_11 ih_11 =>
      intro z R1 w1 f1 u1 s1 H locs ls hm i1 i2 hP hD hS hl
      refine lv_iload hx hb dC_wind_11 (lv_at hl 5 rfl) ?_
      refine lv_aload_n hx hb dC_wind_13 rfl (lv_at hl 0 rfl) ?_
      refine va_get (D := (dC, dI)) (ci := 2) (v := .int (iI op)) (C := RC) (T := TC) (N := 10) hx hb hts (fun w9 h9 => List.mem_cons_of_mem _ (inC w9 h9)) hown hK hP 0 rfl rfl 8 (by decide) (hts _ (List.mem_cons_of_mem _ flC_43)) (fun _ h9 => h9) rfl dC_wind_14 ?_
      refine xi_icmp_ge (tgt := 122) hx hb dC_wind_17 (by decide) (by omega) (by omega) (fun c_17 => ?_) (fun c_17 => ?_)
      · skip
        refine xi_iconst hx hb dC_wind_122 ?_
        refine lv_istore (lv' := [(5, .int (iI 1)), (0, .ref (ad 0)), (1, .int (iI y)), (2, .int (iI fi)), (3, .int (iI sp)), (4, .int (iI mn))]) hx hb dC_wind_123 hl (by decide) rfl (fun ls hl => ?_)
        have cut_125_2 : ∀ (fu_125 : Nat) (v : Int) (R3 : Int → Int) (H : Heap) (locs : List Loc) (ls : Array Slot), ((mn - v).toNat) < fu_125 → (1 ≤ v ∧ v ≤ mn) → (∀ j : Int, 0 ≤ j → j < v → j < mn → R3 j = isum R1 (j + 1).toNat) → (∀ j : Int, v ≤ j → R3 j = R1 j) → va_P (dC, dI) vwCl ((cW ad cs nc np op par X Y O PQ R3 w1 f1 u1 s1) ++ va_pl LP (pG G)) H → va_D A ((cW ad cs nc np op par X Y O PQ R3 w1 f1 u1 s1) ++ va_pl LP (pG G)) → va_S A s.heap H locs → lv_has ls 7 [(0, .ref (ad 0)), (1, .int (iI y)), (2, .int (iI fi)), (3, .int (iI sp)), (4, .int (iI mn)), (5, .int (iI v))] → W p l e R s m args below meth c H locs 0 0 Q (F0 m 125 ls []) := by
          intro fu_125
          induction fu_125 with
          | zero => intro _ _ _ _ _ hm; exact absurd hm (Nat.not_lt_zero _)
          | succ fu_125 ih_125 =>
            intro v R3 H locs ls hm m1 m2 m3 hP hD hS hl
            refine lv_iload hx hb dC_wind_125 (lv_at hl 5 rfl) ?_
            refine lv_iload hx hb dC_wind_127 (lv_at hl 4 rfl) ?_
            refine xi_icmp_ge (tgt := 157) hx hb dC_wind_129 (by decide) (by omega) (by omega) (fun c_129 => ?_) (fun c_129 => ?_)
            · skip
              subst hQ
              exact W.vret hx hb hr (fun t9 ht9 hW9 => ⟨⟨(R3, w1, f1, u1, s1), rfl, (fun j q1 q2 => by show R3 j = _; rw [m2 j q1 (by omega) q2, i2 j q1 q2, show z = op by omega]; rfl), by rw [ht9]; exact hP, va_K.moved hW9.alike hK, hD⟩, hS.F ht9⟩) hS.2.2 dC_wind_157
            · skip
              refine lv_aload_n hx hb dC_wind_132 rfl (lv_at hl 0 rfl) ?_
              refine va_get (D := (dC, dI)) (ci := 2) (v := .ref (ad 5)) (C := RC) (T := TC) (N := 10) hx hb hts (fun w9 h9 => List.mem_cons_of_mem _ (inC w9 h9)) hown hK hP 0 rfl rfl 4 (by decide) (hts _ (List.mem_cons_of_mem _ flC_26)) (fun _ h9 => h9) rfl dC_wind_133 ?_
              refine lv_iload hx hb dC_wind_136 (lv_at hl 5 rfl) ?_
              refine lv_dup2_11 hx hb dC_wind_138 rfl rfl ?_
              refine xa_iald hx hb hK hP 5 4 rfl rfl (by decide) (by omega) dC_wind_139 ?_
              refine lv_aload_n hx hb dC_wind_140 rfl (lv_at hl 0 rfl) ?_
              refine va_get (D := (dC, dI)) (ci := 2) (v := .ref (ad 5)) (C := RC) (T := TC) (N := 10) hx hb hts (fun w9 h9 => List.mem_cons_of_mem _ (inC w9 h9)) hown hK hP 0 rfl rfl 4 (by decide) (hts _ (List.mem_cons_of_mem _ flC_26)) (fun _ h9 => h9) rfl dC_wind_141 ?_
              refine lv_iload hx hb dC_wind_144 (lv_at hl 5 rfl) ?_
              refine xi_iconst hx hb dC_wind_146 ?_
              refine xi_sub (z := v - 1) hx hb dC_wind_147 rfl ?_
              refine xa_iald hx hb hK hP 5 4 rfl rfl (by decide) (by omega) dC_wind_148 ?_
              refine xi_add (z := (R3 v) + (R3 (v - 1))) hx hb dC_wind_149 rfl ?_
              refine xa_iast (z := v) (v := (R3 v) + (R3 (v - 1))) hx hb hK hP hD hS 5 4 rfl rfl (by decide) (by omega) dC_wind_150 (fun H locs hP hD hS => ?_)
              have hP : va_P (dC, dI) vwCl ((cW ad cs nc np op par X Y O PQ (up R3 v ((R3 v) + (R3 (v - 1)))) w1 f1 u1 s1) ++ va_pl LP (pG G)) H := hP
              have hD : va_D A ((cW ad cs nc np op par X Y O PQ (up R3 v ((R3 v) + (R3 (v - 1)))) w1 f1 u1 s1) ++ va_pl LP (pG G)) := hD
              refine xi_iinc (z := v + 1) (lv' := [(5, .int (iI (v + 1))), (0, .ref (ad 0)), (1, .int (iI y)), (2, .int (iI fi)), (3, .int (iI sp)), (4, .int (iI mn))]) hx hb dC_wind_151 hl (k := 5) rfl rfl (by decide) rfl (fun ls hl => ?_)
              refine lv_goto (tgt := 125) hx hb dC_wind_154 (by decide) ?_
              exact ih_125 (v + 1) (up R3 v ((R3 v) + (R3 (v - 1)))) _ _ _ (by omega) (by omega) (fun j q1 q2 q3 => by (by_cases h : j = v; (rw [h, up_s, isum_s _ (show 0 ≤ v by omega), m3 v (by omega)]; have h9 := m2 (v - 1) (by omega) (by omega) (by omega); rw [show v - 1 + 1 = v by omega] at h9; rw [h9]; omega); (rw [up_n _ _ h]; exact m2 j q1 (by omega) q3))) (fun j q1 => by rw [up_n _ _ (by omega)]; exact m3 j (by omega)) hP hD hS (lv_sub hl [1, 2, 3, 4, 5, 0] rfl)
        exact cut_125_2 (((mn - (1 : Int)).toNat) + 1) 1 R1 _ _ _ (Nat.lt_succ_self _) (by omega) (fun j q1 q2 q3 => by rw [show j = 0 by omega]; show R1 0 = 0 + R1 0; omega) (fun j q1 => rfl) hP hD hS (lv_sub hl [1, 2, 3, 4, 5, 0] rfl)
      · skip
        refine lv_aload_n hx hb dC_wind_20 rfl (lv_at hl 0 rfl) ?_
        refine va_get (D := (dC, dI)) (ci := 2) (v := .ref (ad 4)) (C := RC) (T := TC) (N := 10) hx hb hts (fun w9 h9 => List.mem_cons_of_mem _ (inC w9 h9)) hown hK hP 0 rfl rfl 3 (by decide) (hts _ (List.mem_cons_of_mem _ flC_22)) (fun _ h9 => h9) rfl dC_wind_21 ?_
        refine lv_iload hx hb dC_wind_24 (lv_at hl 5 rfl) ?_
        refine xa_aldq hx hb hK hP 4 3 rfl rfl (by decide) (by omega) dC_wind_26 ?_
        rcases ha : PQ z with _ | a
        · rw [show va_rf none = Value.null from rfl]
          refine lv_astoreN (lv' := [(6, .null), (0, .ref (ad 0)), (1, .int (iI y)), (2, .int (iI fi)), (3, .int (iI sp)), (4, .int (iI mn)), (5, .int (iI z))]) hx hb dC_wind_27 hl (by decide) rfl (fun ls hl => ?_)
          refine lv_aloadN hx hb dC_wind_29 (lv_at hl 0 rfl) ?_
          refine lv_ifnullN (tgt := 116) hx hb dC_wind_31 (by decide) ?_
          refine xi_iinc (z := z + 1) (lv' := [(5, .int (iI (z + 1))), (6, .null), (0, .ref (ad 0)), (1, .int (iI y)), (2, .int (iI fi)), (3, .int (iI sp)), (4, .int (iI mn))]) hx hb dC_wind_116 hl (k := 6) rfl rfl (by decide) rfl (fun ls hl => ?_)
          refine lv_goto (tgt := 11) hx hb dC_wind_119 (by decide) ?_
          exact ih_11 (z + 1) R1 w1 f1 u1 s1 _ _ _ (by omega) (by omega) (fun j q1 q2 => by rw [isum_s _ i1.1, pct_n ha, i2 j q1 q2]; omega) hP hD hS (lv_sub hl [2, 3, 4, 5, 6, 0] rfl)
        · rw [show va_rf (some a) = Value.ref a from rfl]
          obtain ⟨haL, hGa⟩ := hG z i1.1 (by omega) a ha
          obtain ⟨g1, g2, g3, g4⟩ := pd_b hGa
          obtain ⟨q1, q2, q3, q4, q5, q6, q7⟩ := (show pdOk (G a) from hGa)
          refine lv_astore (lv' := [(6, .ref a), (0, .ref (ad 0)), (1, .int (iI y)), (2, .int (iI fi)), (3, .int (iI sp)), (4, .int (iI mn)), (5, .int (iI z))]) hx hb dC_wind_27 hl (by decide) rfl (fun ls hl => ?_)
          refine lv_aload hx hb dC_wind_29 (lv_at hl 0 rfl) ?_
          refine lv_ifnull hx hb dC_wind_31 ?_
          refine lv_aload hx hb dC_wind_34 (lv_at hl 0 rfl) ?_
          refine lv_iload_n hx hb dC_wind_36 rfl (lv_at hl 2 rfl) ?_
          refine xi_iconst hx hb dC_wind_37 ?_
          obtain ⟨kq, hkq⟩ := va_pl_get (X := (cW ad cs nc np op par X Y O PQ R1 w1 f1 u1 s1)) (f := pG G) haL
          have hPc : va_P (dC, dI) vwCl [(a, .inr (0, [.int (iI (bz ((G a).ln))), .int (iI (sqv (G a).ln (G a).px (G a).qx (G a).rx)), .int (iI (onv (G a).ln (G a).px (G a).qx (G a).rx)), .int (iI (sqv (G a).ln (G a).py (G a).qy (G a).ry)), .int (iI (onv (G a).ln (G a).py (G a).qy (G a).ry)), .int (iI ((G a).px)), .int (iI ((G a).py)), .int (iI ((G a).qx)), .int (iI ((G a).qy)), .int (iI ((G a).rx)), .int (iI ((G a).ry))]))] H := xp_one hP hkq
          have hKc := hK.sub (tys' := []) [] rfl
          refine vp_callSi (W.runV (As := [.int (iI y), .int (iI (bz true))]) (rest := []) ⟨hx, hb, hml, hown, hts⟩ (p_crosses l dC dI a ((G a).ln) (sqv (G a).ln (G a).px (G a).qx (G a).rx) (onv (G a).ln (G a).px (G a).qx (G a).rx) (sqv (G a).ln (G a).py (G a).qy (G a).ry) (onv (G a).ln (G a).py (G a).qy (G a).ry) ((G a).px) ((G a).py) ((G a).qx) ((G a).qy) ((G a).rx) ((G a).ry) y true (by omega) (by omega) (by omega) (by omega) (by omega) (by omega)) (cwV 2 hts (tb_V mlC_177 imP_crosses seP_crosses iniP coP_crosses) rfl rfl rfl (by decide +kernel) (by subst hR; exact ⟨Nat.le_of_ble_eq_true rfl, Nat.le_of_ble_eq_true rfl⟩)) ⟨fun a9 U9 g9 mk9 q9 => by obtain ⟨q0, qP, qK⟩ := q9; exact ⟨q0, qP, va_K.moved (u := U9) (U := U9.calling g9 mk9 a9) (Vm.Alike.refl U9.vm) qK⟩, va_recv hKc hPc (ci := 0) (q0 := 0) rfl rfl, fun U hU hW => ⟨rfl, by rw [hU]; exact hPc, va_K.moved hW.alike hKc⟩⟩ rfl rfl hl.1 rfl (lv_room (Nat.le_of_ble_eq_true rfl)) dC_wind_38 ⟨by subst hR; exact Nat.zero_le _, by subst hR; exact Nat.zero_le _⟩) (fun r_38 hw_38 => ?_)
          subst hw_38
          clear hPc hKc hkq
          have cut_75_3 : ∀ (R2 : Int → Int) (w2 : Int) (f2 : Int) (u2 : Int) (s2 : Int) (H : Heap) (locs : List Loc) (ls : Array Slot), (∀ j : Int, 0 ≤ j → j < mn → isum R2 (j + 1).toNat = isum (pct PQ G (fi + sp * j) y) z.toNat + cu (G a) (fi + sp * j) y true) → va_P (dC, dI) vwCl ((cW ad cs nc np op par X Y O PQ R2 w2 f2 u2 s2) ++ va_pl LP (pG G)) H → va_D A ((cW ad cs nc np op par X Y O PQ R2 w2 f2 u2 s2) ++ va_pl LP (pG G)) → va_S A s.heap H locs → lv_has ls 7 [(6, .ref a), (0, .ref (ad 0)), (1, .int (iI y)), (2, .int (iI fi)), (3, .int (iI sp)), (4, .int (iI mn)), (5, .int (iI z))] → W p l e R s m args below meth c H locs 0 0 Q (F0 m 75 ls []) := by
            intro R2 w2 f2 u2 s2 H locs ls j2 hP hD hS hl
            refine lv_aload hx hb dC_wind_75 (lv_at hl 0 rfl) ?_
            refine lv_iload_n hx hb dC_wind_77 rfl (lv_at hl 2 rfl) ?_
            refine xi_iconst hx hb dC_wind_78 ?_
            obtain ⟨kq, hkq⟩ := va_pl_get (X := (cW ad cs nc np op par X Y O PQ R2 w2 f2 u2 s2)) (f := pG G) haL
            have hPc : va_P (dC, dI) vwCl [(a, .inr (0, [.int (iI (bz ((G a).ln))), .int (iI (sqv (G a).ln (G a).px (G a).qx (G a).rx)), .int (iI (onv (G a).ln (G a).px (G a).qx (G a).rx)), .int (iI (sqv (G a).ln (G a).py (G a).qy (G a).ry)), .int (iI (onv (G a).ln (G a).py (G a).qy (G a).ry)), .int (iI ((G a).px)), .int (iI ((G a).py)), .int (iI ((G a).qx)), .int (iI ((G a).qy)), .int (iI ((G a).rx)), .int (iI ((G a).ry))]))] H := xp_one hP hkq
            have hKc := hK.sub (tys' := []) [] rfl
            refine vp_callSi (W.runV (As := [.int (iI y), .int (iI (bz false))]) (rest := []) ⟨hx, hb, hml, hown, hts⟩ (p_crosses l dC dI a ((G a).ln) (sqv (G a).ln (G a).px (G a).qx (G a).rx) (onv (G a).ln (G a).px (G a).qx (G a).rx) (sqv (G a).ln (G a).py (G a).qy (G a).ry) (onv (G a).ln (G a).py (G a).qy (G a).ry) ((G a).px) ((G a).py) ((G a).qx) ((G a).qy) ((G a).rx) ((G a).ry) y false (by omega) (by omega) (by omega) (by omega) (by omega) (by omega)) (cwV 2 hts (tb_V mlC_177 imP_crosses seP_crosses iniP coP_crosses) rfl rfl rfl (by decide +kernel) (by subst hR; exact ⟨Nat.le_of_ble_eq_true rfl, Nat.le_of_ble_eq_true rfl⟩)) ⟨fun a9 U9 g9 mk9 q9 => by obtain ⟨q0, qP, qK⟩ := q9; exact ⟨q0, qP, va_K.moved (u := U9) (U := U9.calling g9 mk9 a9) (Vm.Alike.refl U9.vm) qK⟩, va_recv hKc hPc (ci := 0) (q0 := 0) rfl rfl, fun U hU hW => ⟨rfl, by rw [hU]; exact hPc, va_K.moved hW.alike hKc⟩⟩ rfl rfl hl.1 rfl (lv_room (Nat.le_of_ble_eq_true rfl)) dC_wind_79 ⟨by subst hR; exact Nat.zero_le _, by subst hR; exact Nat.zero_le _⟩) (fun r_79 hw_79 => ?_)
            subst hw_79
            clear hPc hKc hkq
            refine xb_if_eq (tgt := 116) hx hb dC_wind_82 (by decide) (fun c_82 => ?_) (fun c_82 => ?_)
            · skip
              refine xi_iinc (z := z + 1) (lv' := [(5, .int (iI (z + 1))), (6, .ref a), (0, .ref (ad 0)), (1, .int (iI y)), (2, .int (iI fi)), (3, .int (iI sp)), (4, .int (iI mn))]) hx hb dC_wind_116 hl (k := 6) rfl rfl (by decide) rfl (fun ls hl => ?_)
              refine lv_goto (tgt := 11) hx hb dC_wind_119 (by decide) ?_
              exact ih_11 (z + 1) R2 w2 f2 u2 s2 _ _ _ (by omega) (by omega) (fun j q1 q2 => by rw [isum_s _ i1.1, pct_s ha, j2 j q1 q2]; unfold cct; rw [show cu (G a) (fi + sp * j) y false = 0 from if_neg (by unfold crp; rw [c_82]; decide)]; omega) hP hD hS (lv_sub hl [2, 3, 4, 5, 6, 0] rfl)
            · skip
              refine lv_aload_n hx hb dC_wind_85 rfl (lv_at hl 1 rfl) ?_
              refine va_get (D := (dC, dI)) (ci := 2) (v := .ref (ad 6)) (C := RC) (T := TC) (N := 10) hx hb hts (fun w9 h9 => List.mem_cons_of_mem _ (inC w9 h9)) hown hK hP 0 rfl rfl 5 (by decide) (hts _ (List.mem_cons_of_mem _ flC_32)) (fun _ h9 => h9) rfl dC_wind_86 ?_
              refine lv_aload hx hb dC_wind_89 (lv_at hl 0 rfl) ?_
              refine lv_iload_n hx hb dC_wind_91 rfl (lv_at hl 2 rfl) ?_
              refine xi_iconst hx hb dC_wind_92 ?_
              obtain ⟨kq, hkq⟩ := va_pl_get (X := (cW ad cs nc np op par X Y O PQ R2 w2 f2 u2 s2)) (f := pG G) haL
              have hne : (6 : Nat) ≠ kq := xp_ne (ws := ((cW ad cs nc np op par X Y O PQ R2 w2 f2 u2 s2) ++ va_pl LP (pG G))) (q := ((ad 6), .inr (1, [.long (lI w2), .long (lI f2), .long (lI u2), .long (lI s2)]))) rfl hkq (by show (1 : Nat) ≠ 0; decide)
              have hPc : va_P (dC, dI) vwCl [((ad 6), .inr (1, [.long (lI w2), .long (lI f2), .long (lI u2), .long (lI s2)])), (a, .inr (0, [.int (iI (bz ((G a).ln))), .int (iI (sqv (G a).ln (G a).px (G a).qx (G a).rx)), .int (iI (onv (G a).ln (G a).px (G a).qx (G a).rx)), .int (iI (sqv (G a).ln (G a).py (G a).qy (G a).ry)), .int (iI (onv (G a).ln (G a).py (G a).qy (G a).ry)), .int (iI ((G a).px)), .int (iI ((G a).py)), .int (iI ((G a).qx)), .int (iI ((G a).qy)), .int (iI ((G a).rx)), .int (iI ((G a).ry))]))] H := xp_two (i := 6) hP rfl hkq
              have hKc := hK.sub (tys' := []) [] rfl
              have hDc : va_D A [((ad 6), .inr (1, [.long (lI w2), .long (lI f2), .long (lI u2), .long (lI s2)])), (a, .inr (0, [.int (iI (bz ((G a).ln))), .int (iI (sqv (G a).ln (G a).px (G a).qx (G a).rx)), .int (iI (onv (G a).ln (G a).px (G a).qx (G a).rx)), .int (iI (sqv (G a).ln (G a).py (G a).qy (G a).ry)), .int (iI (onv (G a).ln (G a).py (G a).qy (G a).ry)), .int (iI ((G a).px)), .int (iI ((G a).py)), .int (iI ((G a).qx)), .int (iI ((G a).qy)), .int (iI ((G a).rx)), .int (iI ((G a).ry))]))] := xp_twoD (i := 6) hD hne rfl hkq
              have hFc : ∀ q, va_A [((ad 6), .inr (1, [.long (lI w2), .long (lI f2), .long (lI u2), .long (lI s2)])), (a, .inr (0, [.int (iI (bz ((G a).ln))), .int (iI (sqv (G a).ln (G a).px (G a).qx (G a).rx)), .int (iI (onv (G a).ln (G a).px (G a).qx (G a).rx)), .int (iI (sqv (G a).ln (G a).py (G a).qy (G a).ry)), .int (iI (onv (G a).ln (G a).py (G a).qy (G a).ry)), .int (iI ((G a).px)), .int (iI ((G a).py)), .int (iI ((G a).qx)), .int (iI ((G a).qy)), .int (iI ((G a).rx)), .int (iI ((G a).ry))]))] H.size q → A q := xp_free2 (i := 6) hD hS hA rfl hkq
              refine va_callv (va_runV (As := [.ref a, .int (iI y), .int (iI (bz false))]) (rest := []) ⟨hx, hb, hml, hown, hts⟩ (l_take l dC dI H.size (ad 6) a w2 f2 u2 s2 ((G a).ln) (sqv (G a).ln (G a).px (G a).qx (G a).rx) (onv (G a).ln (G a).px (G a).qx (G a).rx) (sqv (G a).ln (G a).py (G a).qy (G a).ry) (onv (G a).ln (G a).py (G a).qy (G a).ry) ((G a).px) ((G a).py) ((G a).qx) ((G a).qy) ((G a).rx) ((G a).ry) y false (by omega) (by omega) (by omega) (by omega) (by omega) (by omega) (by omega)) (cwV 3 hts (tb_V mlC_181 imL_take seL_take iniL coL_take) rfl rfl rfl (by decide +kernel) (by subst hR; exact ⟨Nat.le_of_ble_eq_true rfl, Nat.le_of_ble_eq_true rfl⟩)) ⟨fun a9 U9 g9 mk9 q9 => by obtain ⟨q0, q1, qP, qK, qD⟩ := q9; exact ⟨q0, q1, qP, va_K.moved (u := U9) (U := U9.calling g9 mk9 a9) (Vm.Alike.refl U9.vm) qK, qD⟩, va_recv hKc hPc (ci := 1) (q0 := 0) rfl rfl, fun U hU hW => ⟨rfl, by rw [hU], by rw [hU]; exact hPc, va_K.moved hW.alike hKc, hDc.weaken (fun _ _ _ _ => trivial)⟩⟩ rfl rfl hl.1 rfl (lv_room (Nat.le_of_ble_eq_true rfl)) dC_wind_93 ⟨by subst hR; exact Nat.le_of_ble_eq_true rfl, by subst hR; exact Nat.le_of_ble_eq_true rfl⟩) hS (fun q9 _ h9 => hFc q9 h9) hFc (fun u_93 t9 H1 locs1 ht9 hvm9 hw_93 hB9 hz9 hk9 hS1 => ?_)
              obtain ⟨hP1, hK1, hD1⟩ := hB9
              rw [ht9] at hP1
              have hD2 := va_D.set (e := .inr (1, [.long (lI u_93.1), .long (lI u_93.2.1), .long (lI u_93.2.2.1), .long (lI u_93.2.2.2)])) hD (p := 6) rfl
              have hP2 := xp_set2 (i := 6) hP hD hne rfl hkq hP1 hk9
              have hP : va_P (dC, dI) vwCl ((cW ad cs nc np op par X Y O PQ R2 u_93.1 u_93.2.1 u_93.2.2.1 u_93.2.2.2) ++ va_pl LP (pG G)) H1 := hP2
              have hD : va_D A ((cW ad cs nc np op par X Y O PQ R2 u_93.1 u_93.2.1 u_93.2.2.1 u_93.2.2.2) ++ va_pl LP (pG G)) := hD2
              clear hP1 hD1 hK1 hFc hP2 hD2 hPc hDc hKc hkq hne
              have hS := hS1
              clear hS1 hz9 hk9 ht9 hvm9
              revert hP hD hS; generalize H1 = H; generalize locs1 = locs; intro hP hD hS
              obtain ⟨t1, t2, t3, t4⟩ := hw_93
              obtain ⟨hb1, hb2, hb3, hb4⟩ := tk_bd (u := false) hGa hy c_82
              rw [← t1] at hb3; rw [← t2] at hb2; rw [← t3] at hb1; rw [← t4] at hb4
              refine lv_aload_n hx hb dC_wind_96 rfl (lv_at hl 1 rfl) ?_
              refine va_get (D := (dC, dI)) (ci := 2) (v := .ref (ad 5)) (C := RC) (T := TC) (N := 10) hx hb hts (fun w9 h9 => List.mem_cons_of_mem _ (inC w9 h9)) hown hK hP 0 rfl rfl 4 (by decide) (hts _ (List.mem_cons_of_mem _ flC_26)) (fun _ h9 => h9) rfl dC_wind_97 ?_
              refine lv_aload_n hx hb dC_wind_100 rfl (lv_at hl 1 rfl) ?_
              refine va_get (D := (dC, dI)) (ci := 2) (v := .ref (ad 6)) (C := RC) (T := TC) (N := 10) hx hb hts (fun w9 h9 => List.mem_cons_of_mem _ (inC w9 h9)) hown hK hP 0 rfl rfl 5 (by decide) (hts _ (List.mem_cons_of_mem _ flC_32)) (fun _ h9 => h9) rfl dC_wind_101 ?_
              refine lv_iload_n hx hb dC_wind_104 rfl (lv_at hl 3 rfl) ?_
              refine lv_iload_n hx hb dC_wind_105 rfl (lv_at hl 4 rfl) ?_
              refine lv_iload hx hb dC_wind_106 (lv_at hl 5 rfl) ?_
              have hPc := hP.sub (ws' := [((ad 6), .inr (1, [.long (lI u_93.1), .long (lI u_93.2.1), .long (lI u_93.2.2.1), .long (lI u_93.2.2.2)]))]) [6] rfl
              have hKc := hK.sub (tys' := []) [] rfl
              refine vp_callSi (W.runV (As := [.int (iI fi), .int (iI sp), .int (iI mn)]) (rest := [.ref (ad 5)]) ⟨hx, hb, hml, hown, hts⟩ (l_pointsLeft l dC dI (ad 6) u_93.1 u_93.2.1 u_93.2.2.1 u_93.2.2.2 fi sp mn hb1 hb2 hb3 hb4 (by omega) (by omega) (by omega)) (cwV 3 hts (tb_V mlC_185 imL_pointsLeft seL_pointsLeft iniL coL_pointsLeft) rfl rfl rfl (by decide +kernel) (by subst hR; exact ⟨Nat.le_of_ble_eq_true rfl, Nat.le_of_ble_eq_true rfl⟩)) ⟨fun a9 U9 g9 mk9 q9 => by obtain ⟨q0, qP, qK⟩ := q9; exact ⟨q0, qP, va_K.moved (u := U9) (U := U9.calling g9 mk9 a9) (Vm.Alike.refl U9.vm) qK⟩, va_recv hKc hPc (ci := 1) (q0 := 0) rfl rfl, fun U hU hW => ⟨rfl, by rw [hU]; exact hPc, va_K.moved hW.alike hKc⟩⟩ rfl rfl hl.1 rfl (lv_room (Nat.le_of_ble_eq_true rfl)) dC_wind_108 ⟨by subst hR; exact Nat.zero_le _, by subst hR; exact Nat.zero_le _⟩) (fun r_108 hw_108 => ?_)
              obtain ⟨k2, hk1, hpt2⟩ := hw_108; subst hk1
              have hkb : 0 ≤ k2 ∧ k2 ≤ mn := ⟨hpt2.1, hpt2.2.1⟩
              rw [t1, t2, t3, t4] at hpt2
              rw [t4] at hb4
              refine lv_dup2_11 hx hb dC_wind_111 rfl rfl ?_
              refine xa_iald hx hb hK hP 5 4 rfl rfl (by decide) (by omega) dC_wind_112 ?_
              refine xi_iconst hx hb dC_wind_113 ?_
              refine xi_sub (z := (R2 k2) - 1) hx hb dC_wind_114 rfl ?_
              refine xa_iast (z := k2) (v := (R2 k2) - 1) hx hb hK hP hD hS 5 4 rfl rfl (by decide) (by omega) dC_wind_115 (fun H locs hP hD hS => ?_)
              have hP : va_P (dC, dI) vwCl ((cW ad cs nc np op par X Y O PQ (up R2 k2 ((R2 k2) - 1)) u_93.1 u_93.2.1 u_93.2.2.1 u_93.2.2.2) ++ va_pl LP (pG G)) H := hP
              have hD : va_D A ((cW ad cs nc np op par X Y O PQ (up R2 k2 ((R2 k2) - 1)) u_93.1 u_93.2.1 u_93.2.2.1 u_93.2.2.2) ++ va_pl LP (pG G)) := hD
              refine xi_iinc (z := z + 1) (lv' := [(5, .int (iI (z + 1))), (6, .ref a), (0, .ref (ad 0)), (1, .int (iI y)), (2, .int (iI fi)), (3, .int (iI sp)), (4, .int (iI mn))]) hx hb dC_wind_116 hl (k := 6) rfl rfl (by decide) rfl (fun ls hl => ?_)
              refine lv_goto (tgt := 11) hx hb dC_wind_119 (by decide) ?_
              exact ih_11 (z + 1) (up R2 k2 ((R2 k2) - 1)) u_93.1 u_93.2.1 u_93.2.2.1 u_93.2.2.2 _ _ _ (by omega) (by omega) (fun j q1 q2 => by rw [show R2 k2 - 1 = R2 k2 + (-1) by omega, isum_s _ i1.1, pct_s ha, isum_up R2 k2 (-1), ptl_at hpt2 hb4.1 hsp.1 ⟨q1, q2⟩, j2 j q1 q2]; unfold cct; rw [show cu (G a) (fi + sp * j) y false = if rtp (G a) (fi + sp * j) y false = true then 0 else 1 from if_pos c_82]; unfold rtp; split <;> omega) hP hD hS (lv_sub hl [2, 3, 4, 5, 6, 0] rfl)
          refine xb_if_eq (tgt := 75) hx hb dC_wind_41 (by decide) (fun c_41 => ?_) (fun c_41 => ?_)
          · skip
            exact cut_75_3 R1 w1 f1 u1 s1 _ _ _ (fun j q1 q2 => by rw [i2 j q1 q2, show cu (G a) (fi + sp * j) y true = 0 from if_neg (by unfold crp; rw [c_41]; decide)]; omega) hP hD hS (lv_sub hl [0, 1, 2, 3, 4, 5, 6] rfl)
          · skip
            refine lv_aload_n hx hb dC_wind_44 rfl (lv_at hl 1 rfl) ?_
            refine va_get (D := (dC, dI)) (ci := 2) (v := .ref (ad 6)) (C := RC) (T := TC) (N := 10) hx hb hts (fun w9 h9 => List.mem_cons_of_mem _ (inC w9 h9)) hown hK hP 0 rfl rfl 5 (by decide) (hts _ (List.mem_cons_of_mem _ flC_32)) (fun _ h9 => h9) rfl dC_wind_45 ?_
            refine lv_aload hx hb dC_wind_48 (lv_at hl 0 rfl) ?_
            refine lv_iload_n hx hb dC_wind_50 rfl (lv_at hl 2 rfl) ?_
            refine xi_iconst hx hb dC_wind_51 ?_
            obtain ⟨kq, hkq⟩ := va_pl_get (X := (cW ad cs nc np op par X Y O PQ R1 w1 f1 u1 s1)) (f := pG G) haL
            have hne : (6 : Nat) ≠ kq := xp_ne (ws := ((cW ad cs nc np op par X Y O PQ R1 w1 f1 u1 s1) ++ va_pl LP (pG G))) (q := ((ad 6), .inr (1, [.long (lI w1), .long (lI f1), .long (lI u1), .long (lI s1)]))) rfl hkq (by show (1 : Nat) ≠ 0; decide)
            have hPc : va_P (dC, dI) vwCl [((ad 6), .inr (1, [.long (lI w1), .long (lI f1), .long (lI u1), .long (lI s1)])), (a, .inr (0, [.int (iI (bz ((G a).ln))), .int (iI (sqv (G a).ln (G a).px (G a).qx (G a).rx)), .int (iI (onv (G a).ln (G a).px (G a).qx (G a).rx)), .int (iI (sqv (G a).ln (G a).py (G a).qy (G a).ry)), .int (iI (onv (G a).ln (G a).py (G a).qy (G a).ry)), .int (iI ((G a).px)), .int (iI ((G a).py)), .int (iI ((G a).qx)), .int (iI ((G a).qy)), .int (iI ((G a).rx)), .int (iI ((G a).ry))]))] H := xp_two (i := 6) hP rfl hkq
            have hKc := hK.sub (tys' := []) [] rfl
            have hDc : va_D A [((ad 6), .inr (1, [.long (lI w1), .long (lI f1), .long (lI u1), .long (lI s1)])), (a, .inr (0, [.int (iI (bz ((G a).ln))), .int (iI (sqv (G a).ln (G a).px (G a).qx (G a).rx)), .int (iI (onv (G a).ln (G a).px (G a).qx (G a).rx)), .int (iI (sqv (G a).ln (G a).py (G a).qy (G a).ry)), .int (iI (onv (G a).ln (G a).py (G a).qy (G a).ry)), .int (iI ((G a).px)), .int (iI ((G a).py)), .int (iI ((G a).qx)), .int (iI ((G a).qy)), .int (iI ((G a).rx)), .int (iI ((G a).ry))]))] := xp_twoD (i := 6) hD hne rfl hkq
            have hFc : ∀ q, va_A [((ad 6), .inr (1, [.long (lI w1), .long (lI f1), .long (lI u1), .long (lI s1)])), (a, .inr (0, [.int (iI (bz ((G a).ln))), .int (iI (sqv (G a).ln (G a).px (G a).qx (G a).rx)), .int (iI (onv (G a).ln (G a).px (G a).qx (G a).rx)), .int (iI (sqv (G a).ln (G a).py (G a).qy (G a).ry)), .int (iI (onv (G a).ln (G a).py (G a).qy (G a).ry)), .int (iI ((G a).px)), .int (iI ((G a).py)), .int (iI ((G a).qx)), .int (iI ((G a).qy)), .int (iI ((G a).rx)), .int (iI ((G a).ry))]))] H.size q → A q := xp_free2 (i := 6) hD hS hA rfl hkq
            refine va_callv (va_runV (As := [.ref a, .int (iI y), .int (iI (bz true))]) (rest := []) ⟨hx, hb, hml, hown, hts⟩ (l_take l dC dI H.size (ad 6) a w1 f1 u1 s1 ((G a).ln) (sqv (G a).ln (G a).px (G a).qx (G a).rx) (onv (G a).ln (G a).px (G a).qx (G a).rx) (sqv (G a).ln (G a).py (G a).qy (G a).ry) (onv (G a).ln (G a).py (G a).qy (G a).ry) ((G a).px) ((G a).py) ((G a).qx) ((G a).qy) ((G a).rx) ((G a).ry) y true (by omega) (by omega) (by omega) (by omega) (by omega) (by omega) (by omega)) (cwV 3 hts (tb_V mlC_181 imL_take seL_take iniL coL_take) rfl rfl rfl (by decide +kernel) (by subst hR; exact ⟨Nat.le_of_ble_eq_true rfl, Nat.le_of_ble_eq_true rfl⟩)) ⟨fun a9 U9 g9 mk9 q9 => by obtain ⟨q0, q1, qP, qK, qD⟩ := q9; exact ⟨q0, q1, qP, va_K.moved (u := U9) (U := U9.calling g9 mk9 a9) (Vm.Alike.refl U9.vm) qK, qD⟩, va_recv hKc hPc (ci := 1) (q0 := 0) rfl rfl, fun U hU hW => ⟨rfl, by rw [hU], by rw [hU]; exact hPc, va_K.moved hW.alike hKc, hDc.weaken (fun _ _ _ _ => trivial)⟩⟩ rfl rfl hl.1 rfl (lv_room (Nat.le_of_ble_eq_true rfl)) dC_wind_52 ⟨by subst hR; exact Nat.le_of_ble_eq_true rfl, by subst hR; exact Nat.le_of_ble_eq_true rfl⟩) hS (fun q9 _ h9 => hFc q9 h9) hFc (fun u_52 t9 H1 locs1 ht9 hvm9 hw_52 hB9 hz9 hk9 hS1 => ?_)
            obtain ⟨hP1, hK1, hD1⟩ := hB9
            rw [ht9] at hP1
            have hD2 := va_D.set (e := .inr (1, [.long (lI u_52.1), .long (lI u_52.2.1), .long (lI u_52.2.2.1), .long (lI u_52.2.2.2)])) hD (p := 6) rfl
            have hP2 := xp_set2 (i := 6) hP hD hne rfl hkq hP1 hk9
            have hP : va_P (dC, dI) vwCl ((cW ad cs nc np op par X Y O PQ R1 u_52.1 u_52.2.1 u_52.2.2.1 u_52.2.2.2) ++ va_pl LP (pG G)) H1 := hP2
            have hD : va_D A ((cW ad cs nc np op par X Y O PQ R1 u_52.1 u_52.2.1 u_52.2.2.1 u_52.2.2.2) ++ va_pl LP (pG G)) := hD2
            clear hP1 hD1 hK1 hFc hP2 hD2 hPc hDc hKc hkq hne
            have hS := hS1
            clear hS1 hz9 hk9 ht9 hvm9
            revert hP hD hS; generalize H1 = H; generalize locs1 = locs; intro hP hD hS
            obtain ⟨t1, t2, t3, t4⟩ := hw_52
            obtain ⟨hb1, hb2, hb3, hb4⟩ := tk_bd (u := true) hGa hy c_41
            rw [← t1] at hb3; rw [← t2] at hb2; rw [← t3] at hb1; rw [← t4] at hb4
            refine lv_aload_n hx hb dC_wind_55 rfl (lv_at hl 1 rfl) ?_
            refine va_get (D := (dC, dI)) (ci := 2) (v := .ref (ad 5)) (C := RC) (T := TC) (N := 10) hx hb hts (fun w9 h9 => List.mem_cons_of_mem _ (inC w9 h9)) hown hK hP 0 rfl rfl 4 (by decide) (hts _ (List.mem_cons_of_mem _ flC_26)) (fun _ h9 => h9) rfl dC_wind_56 ?_
            refine lv_aload_n hx hb dC_wind_59 rfl (lv_at hl 1 rfl) ?_
            refine va_get (D := (dC, dI)) (ci := 2) (v := .ref (ad 6)) (C := RC) (T := TC) (N := 10) hx hb hts (fun w9 h9 => List.mem_cons_of_mem _ (inC w9 h9)) hown hK hP 0 rfl rfl 5 (by decide) (hts _ (List.mem_cons_of_mem _ flC_32)) (fun _ h9 => h9) rfl dC_wind_60 ?_
            refine lv_iload_n hx hb dC_wind_63 rfl (lv_at hl 3 rfl) ?_
            refine lv_iload_n hx hb dC_wind_64 rfl (lv_at hl 4 rfl) ?_
            refine lv_iload hx hb dC_wind_65 (lv_at hl 5 rfl) ?_
            have hPc := hP.sub (ws' := [((ad 6), .inr (1, [.long (lI u_52.1), .long (lI u_52.2.1), .long (lI u_52.2.2.1), .long (lI u_52.2.2.2)]))]) [6] rfl
            have hKc := hK.sub (tys' := []) [] rfl
            refine vp_callSi (W.runV (As := [.int (iI fi), .int (iI sp), .int (iI mn)]) (rest := [.ref (ad 5)]) ⟨hx, hb, hml, hown, hts⟩ (l_pointsLeft l dC dI (ad 6) u_52.1 u_52.2.1 u_52.2.2.1 u_52.2.2.2 fi sp mn hb1 hb2 hb3 hb4 (by omega) (by omega) (by omega)) (cwV 3 hts (tb_V mlC_185 imL_pointsLeft seL_pointsLeft iniL coL_pointsLeft) rfl rfl rfl (by decide +kernel) (by subst hR; exact ⟨Nat.le_of_ble_eq_true rfl, Nat.le_of_ble_eq_true rfl⟩)) ⟨fun a9 U9 g9 mk9 q9 => by obtain ⟨q0, qP, qK⟩ := q9; exact ⟨q0, qP, va_K.moved (u := U9) (U := U9.calling g9 mk9 a9) (Vm.Alike.refl U9.vm) qK⟩, va_recv hKc hPc (ci := 1) (q0 := 0) rfl rfl, fun U hU hW => ⟨rfl, by rw [hU]; exact hPc, va_K.moved hW.alike hKc⟩⟩ rfl rfl hl.1 rfl (lv_room (Nat.le_of_ble_eq_true rfl)) dC_wind_67 ⟨by subst hR; exact Nat.zero_le _, by subst hR; exact Nat.zero_le _⟩) (fun r_67 hw_67 => ?_)
            obtain ⟨k1, hk1, hpt1⟩ := hw_67; subst hk1
            have hkb : 0 ≤ k1 ∧ k1 ≤ mn := ⟨hpt1.1, hpt1.2.1⟩
            rw [t1, t2, t3, t4] at hpt1
            rw [t4] at hb4
            refine lv_dup2_11 hx hb dC_wind_70 rfl rfl ?_
            refine xa_iald hx hb hK hP 5 4 rfl rfl (by decide) (by omega) dC_wind_71 ?_
            refine xi_iconst hx hb dC_wind_72 ?_
            refine xi_add (z := (R1 k1) + 1) hx hb dC_wind_73 rfl ?_
            refine xa_iast (z := k1) (v := (R1 k1) + 1) hx hb hK hP hD hS 5 4 rfl rfl (by decide) (by omega) dC_wind_74 (fun H locs hP hD hS => ?_)
            have hP : va_P (dC, dI) vwCl ((cW ad cs nc np op par X Y O PQ (up R1 k1 ((R1 k1) + 1)) u_52.1 u_52.2.1 u_52.2.2.1 u_52.2.2.2) ++ va_pl LP (pG G)) H := hP
            have hD : va_D A ((cW ad cs nc np op par X Y O PQ (up R1 k1 ((R1 k1) + 1)) u_52.1 u_52.2.1 u_52.2.2.1 u_52.2.2.2) ++ va_pl LP (pG G)) := hD
            exact cut_75_3 (up R1 k1 ((R1 k1) + 1)) u_52.1 u_52.2.1 u_52.2.2.1 u_52.2.2.2 _ _ _ (fun j q1 q2 => by rw [isum_up R1 k1 1, ptl_at hpt1 hb4.1 hsp.1 ⟨q1, q2⟩, i2 j q1 q2, show cu (G a) (fi + sp * j) y true = if rtp (G a) (fi + sp * j) y true = true then 0 else 1 from if_pos c_41]; rfl) hP hD hS (lv_sub hl [0, 1, 2, 3, 4, 5, 6] rfl)
  exact cut_11_1 (((op - (0 : Int)).toNat) + 1) 0 u_5 pw pf pu ps _ _ _ (Nat.lt_succ_self _) (by omega) (fun j q1 q2 => isum_0 _ (fun k r1 r2 => hw_5 k r1 (by omega))) hP hD hS (lv_sub hl [1, 2, 3, 4, 5, 0] rfl)
