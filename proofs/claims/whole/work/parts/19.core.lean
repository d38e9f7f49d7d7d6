/-! a piece's crossings: the class's and the reference's are the same -/
theorem sgn_mulc (x y : Int) : sgn x * sgn y = sgn (x * y) := by
  rcases sgn_in x with ⟨h1, h2⟩ | ⟨h1, h2⟩ | ⟨h1, h2⟩ <;> rcases sgn_in y with ⟨k1, k2⟩ | ⟨k1, k2⟩ | ⟨k1, k2⟩ <;> rw [h2, k2]
  · rw [sgn_p (Int.mul_pos h1 k1)]; rfl
  · rw [sgn_n (Int.mul_neg_of_pos_of_neg h1 k1)]; rfl
  · rw [sgn_0 (z := x * y) (by rw [k1, Int.mul_zero])]; rfl
  · rw [sgn_n (Int.mul_neg_of_neg_of_pos h1 k1)]; rfl
  · rw [sgn_p (Int.mul_pos_of_neg_of_neg h1 k1)]; rfl
  · rw [sgn_0 (z := x * y) (by rw [k1, Int.mul_zero])]; rfl
  · rw [sgn_0 (z := x * y) (by rw [h1, Int.zero_mul])]; rfl
  · rw [sgn_0 (z := x * y) (by rw [h1, Int.zero_mul])]; rfl
  · rw [sgn_0 (z := x * y) (by rw [h1, Int.zero_mul])]; rfl
theorem sgn_4 (z : Int) : sgn (4 * z) = sgn z := by
  rcases sgn_in z with ⟨h1, h2⟩ | ⟨h1, h2⟩ | ⟨h1, h2⟩ <;> rw [h2]
  · exact sgn_p (by omega)
  · exact sgn_n (by omega)
  · exact sgn_0 (by omega)
theorem sgn_neg (z : Int) : sgn (-z) = -sgn z := by
  rcases sgn_in z with ⟨h1, h2⟩ | ⟨h1, h2⟩ | ⟨h1, h2⟩ <;> rw [h2]
  · exact sgn_n (by omega)
  · exact sgn_p (by omega)
  · exact sgn_0 (by omega)
/-- the condition that both come to: F√Δ + R is above 0 -/
def abv (F R N : Int) : Prop := (N < 0 ∧ 0 < F) ∨ (0 < N ∧ 0 < R) ∨ (N = 0 ∧ 0 < F ∧ 0 < R)
theorem core_ref {a A R N : Int} (u : Bool) (ha : a ≠ 0) (hA : A ≠ 0) (hR : 0 < N → R ≠ 0) : 0 < sgn a * (sgn A * cmr2 (sgn N) (sgn a * (-(sgn A) * sgn R)) (u == decide (0 < a))) ↔ abv (if u = true then A else -A) R N := by
  unfold abv cmr2
  rcases sgn_in a with ⟨h1, h2⟩ | ⟨h1, h2⟩ | ⟨h1, h2⟩
  · rw [h2, decide_eq_true h1]
    rcases sgn_in A with ⟨k1, k2⟩ | ⟨k1, k2⟩ | ⟨k1, k2⟩
    · rw [k2]
      rcases sgn_in N with ⟨n1, n2⟩ | ⟨n1, n2⟩ | ⟨n1, n2⟩ <;> rw [n2] <;> rcases sgn_in R with ⟨r1, r2⟩ | ⟨r1, r2⟩ | ⟨r1, r2⟩ <;> rw [r2] <;> cases u <;> simp <;> omega
    · rw [k2]
      rcases sgn_in N with ⟨n1, n2⟩ | ⟨n1, n2⟩ | ⟨n1, n2⟩ <;> rw [n2] <;> rcases sgn_in R with ⟨r1, r2⟩ | ⟨r1, r2⟩ | ⟨r1, r2⟩ <;> rw [r2] <;> cases u <;> simp <;> omega
    · exact absurd k1 hA
  · rw [h2, decide_eq_false (by omega)]
    rcases sgn_in A with ⟨k1, k2⟩ | ⟨k1, k2⟩ | ⟨k1, k2⟩
    · rw [k2]
      rcases sgn_in N with ⟨n1, n2⟩ | ⟨n1, n2⟩ | ⟨n1, n2⟩ <;> rw [n2] <;> rcases sgn_in R with ⟨r1, r2⟩ | ⟨r1, r2⟩ | ⟨r1, r2⟩ <;> rw [r2] <;> cases u <;> simp <;> omega
    · rw [k2]
      rcases sgn_in N with ⟨n1, n2⟩ | ⟨n1, n2⟩ | ⟨n1, n2⟩ <;> rw [n2] <;> rcases sgn_in R with ⟨r1, r2⟩ | ⟨r1, r2⟩ | ⟨r1, r2⟩ <;> rw [r2] <;> cases u <;> simp <;> omega
    · exact absurd k1 hA
  · exact absurd h1 ha
theorem core_cls {F R D : Int} (hF : F ≠ 0) : rgt R F D = true ↔ abv F R (R * R - F * F * D) := by
  have f2 := sq_pp hF
  have r0 := sq_nn R
  have r1 : R ≠ 0 → 0 < R * R := fun h => sq_pp h
  have r2 : R = 0 → R * R = 0 := fun h => by rw [h]; rfl
  have d1 : 0 < D → 0 < F * F * D := fun h => Int.mul_pos f2 h
  have d2 : D ≤ 0 → F * F * D ≤ 0 := fun h => Int.mul_nonpos_of_nonneg_of_nonpos (by omega) h
  have d3 : D < 0 → F * F * D < 0 := fun h => Int.mul_neg_of_pos_of_neg f2 h
  have d4 : D = 0 → F * F * D = 0 := fun h => by rw [h, Int.mul_zero]
  unfold rgt abv
  generalize R * R = RR at *
  generalize F * F * D = FD at *
  by_cases h1 : D ≤ 0
  · rw [if_pos (Or.inr h1), decide_eq_true_eq]
    have := d2 h1
    by_cases h2 : R = 0
    · have := r2 h2; rcases Int.lt_or_eq_of_le h1 with h3 | h3
      · have := d3 h3; omega
      · have := d4 h3; omega
    · have := r1 h2; omega
  · rw [if_neg (by omega)]
    have := d1 (by omega)
    by_cases h2 : 0 < F
    · rw [if_pos h2, decide_eq_true_eq]
      by_cases h3 : R = 0
      · have := r2 h3; omega
      · have := r1 h3; omega
    · rw [if_neg h2, decide_eq_true_eq]
      by_cases h3 : R = 0
      · have := r2 h3; omega
      · have := r1 h3; omega
theorem core {a b c e f g : Int} (ha : a ≠ 0) (hD : 0 ≤ b * b - 4 * a * c) (u : Bool) : rgt (2 * a * (a * g - e * c) - (a * f - e * b) * b) (if u = true then a * f - e * b else -(a * f - e * b)) (b * b - 4 * a * c) = !ilf a b c (u == decide (0 < a)) e f g := by
  unfold ilf isg cmr
  rw [if_neg ha]
  generalize a * f - e * b = A
  generalize a * g - e * c = q
  by_cases hA : A = 0
  · subst hA
    rw [if_pos rfl, show (if u = true then (0 : Int) else -0) = 0 by cases u <;> rfl]
    have e1 : rgt (2 * a * q - 0 * b) 0 (b * b - 4 * a * c) = decide (0 < 2 * a * q - 0 * b) := by unfold rgt; rw [if_pos (Or.inl rfl)]
    have e2 : 2 * a * q - 0 * b = 2 * (a * q) := by grind
    rw [e1, e2, sgn_mulc]
    rcases sgn_in (a * q) with ⟨h1, h2⟩ | ⟨h1, h2⟩ | ⟨h1, h2⟩ <;> rw [h2]
    · rw [decide_eq_true (by omega)]; rfl
    · rw [decide_eq_false (by omega)]; rfl
    · rw [decide_eq_false (by omega)]; rfl
  · rw [if_neg hA]
    have key : ∀ P M R : Int, 4 * (a * P) = R * R - A * A * (b * b - 4 * a * c) → sgn M = -(sgn A) * sgn R → (rgt R (if u = true then A else -A) (b * b - 4 * a * c) = !decide (sgn a * (sgn A * cmr2 (sgn a * sgn P) (sgn a * sgn M) (u == decide (0 < a))) ≤ 0)) := by
      intro P M R h1 h2
      have hF : (if u = true then A else -A) ≠ 0 := by cases u <;> simp <;> omega
      have hFF : (if u = true then A else -A) * (if u = true then A else -A) = A * A := by
        cases u
        · rw [if_neg (by decide), Int.neg_mul_neg]
        · rw [if_pos rfl]
      have c1 := core_cls (R := R) (D := b * b - 4 * a * c) hF
      rw [hFF] at c1
      rw [sgn_mulc a P, ← sgn_4 (a * P), h1, h2]
      have c2 := core_ref (R := R) (N := R * R - A * A * (b * b - 4 * a * c)) u ha hA (fun h h0 => by
        subst h0
        have f2 := sq_nn A
        have f3 := Int.mul_nonneg f2 hD
        omega)
      rw [← c2] at c1
      cases hg : rgt R (if u = true then A else -A) (b * b - 4 * a * c)
      · have c3 : ¬ (0 < sgn a * (sgn A * cmr2 (sgn (R * R - A * A * (b * b - 4 * a * c))) (sgn a * (-(sgn A) * sgn R)) (u == decide (0 < a)))) := fun h => by
          have := c1.mpr h; rw [hg] at this; cases this
        rw [decide_eq_true (by omega)]; rfl
      · have c3 := c1.mp hg
        rw [decide_eq_false (by omega)]; rfl
    rcases Int.lt_or_gt_of_ne hA with h | h
    · rw [if_neg (show ¬ 0 < A by omega), if_neg (show ¬ 0 < A by omega)]
      exact key _ _ _ (by grind) (by rw [show 2 * a * q + b * -A = 2 * a * q - A * b by grind, sgn_n h]; omega)
    · rw [if_pos h, if_pos h]
      exact key _ _ _ (by grind) (by rw [show 2 * a * -q + b * A = -(2 * a * q - A * b) by grind, sgn_neg, sgn_p h]; omega)
theorem disc_nn {a b c : Int} (h : (0 < c ∧ a + b + c ≤ 0) ∨ (c ≤ 0 ∧ 0 < a + b + c)) : 0 ≤ b * b - 4 * a * c := by
  have e1 : 4 * a * c = 4 * (a * c) := Int.mul_assoc _ _ _
  have e2 : (a + c) * (a + c) - 4 * (a * c) = (a - c) * (a - c) := by grind
  have s1 := sq_nn (a - c)
  have s2 := sq_nn b
  rw [e1]
  rcases h with ⟨h1, h2⟩ | ⟨h1, h2⟩
  · by_cases ha : 0 < a
    · have := sq_le (a := a + c) (b := -b) (by omega) (by omega)
      rw [Int.neg_mul_neg] at this
      omega
    · have := Int.mul_nonpos_of_nonpos_of_nonneg (show a ≤ 0 by omega) (show 0 ≤ c by omega); omega
  · by_cases ha : a < 0
    · have := sq_le (a := -(a + c)) (b := b) (by omega) (by omega)
      rw [Int.neg_mul_neg] at this
      omega
    · have := Int.mul_nonpos_of_nonneg_of_nonpos (show 0 ≤ a by omega) h1; omega
theorem core0 {b c e f g : Int} (u gr : Bool) : rgt (e * c * c - f * b * c + b * b * g) 0 0 = !ilf 0 b c gr e f g := by
  unfold ilf rgt
  rw [if_pos rfl, if_pos (Or.inl rfl), show e * c * c - f * c * b + g * b * b = e * c * c - f * b * c + b * b * g by grind]
  rcases sgn_in (e * c * c - f * b * c + b * b * g) with ⟨h1, h2⟩ | ⟨h1, h2⟩ | ⟨h1, h2⟩ <;> rw [h2]
  · rw [decide_eq_true h1]; rfl
  · rw [decide_eq_false (by omega)]; rfl
  · rw [decide_eq_false (by omega)]; rfl
/-- the place of a curve, and its being left or right -/
theorem rtp_cv {d : PD} (hl : d.ln = false) (x y : Int) (u : Bool) (hD : 0 ≤ 2 * (d.qy - d.py) * (2 * (d.qy - d.py)) - 4 * (d.py - 2 * d.qy + d.ry) * (d.py - y)) :
    rtp d x y u = !ilf (d.py - 2 * d.qy + d.ry) (2 * (d.qy - d.py)) (d.py - y) (u == decide (0 < d.py - 2 * d.qy + d.ry)) (d.px - 2 * d.qx + d.rx) (2 * (d.qx - d.px)) (d.px - x) := by
  unfold rtp sqv onv
  rw [hl, if_neg (by decide), if_neg (by decide), if_neg (by decide), if_neg (by decide)]
  generalize d.py - 2 * d.qy + d.ry = a at *
  generalize 2 * (d.qy - d.py) = b at *
  generalize d.px - 2 * d.qx + d.rx = e at *
  generalize 2 * (d.qx - d.px) = f at *
  unfold tkW tkS tkF tkU
  by_cases ha : a = 0
  · subst ha
    rw [if_pos rfl, if_pos rfl, if_pos rfl, if_pos rfl, ← core0 u _]
    congr 1
    generalize d.py - y = c
    grind
  · rw [if_neg ha, if_neg ha, if_neg ha, if_neg ha, ← core ha hD u]
    congr 1
    generalize d.py - y = c
    grind
theorem rtp_ln {d : PD} (hl : d.ln = true) (x y : Int) (u : Bool) : rtp d x y u = decide (0 < sgn ((d.rx - d.px) * (y - d.py) - (x - d.px) * (d.ry - d.py)) * sgn (d.ry - d.py)) := by
  unfold rtp sqv onv
  rw [hl, if_pos rfl, if_pos rfl, if_pos rfl, if_pos rfl]
  unfold tkW tkS tkF tkU rgt
  rw [if_pos rfl, if_pos rfl, if_pos rfl, if_pos rfl, if_pos (Or.inl rfl), sgn_mulc]
  have e1 : 0 * (d.py - y) * (d.py - y) - (d.rx - d.px) * (d.ry - d.py) * (d.py - y) + (d.ry - d.py) * (d.ry - d.py) * d.px - (d.ry - d.py) * (d.ry - d.py) * x = ((d.rx - d.px) * (y - d.py) - (x - d.px) * (d.ry - d.py)) * (d.ry - d.py) := by grind
  rw [e1]
  rcases sgn_in (((d.rx - d.px) * (y - d.py) - (x - d.px) * (d.ry - d.py)) * (d.ry - d.py)) with ⟨h1, h2⟩ | ⟨h1, h2⟩ | ⟨h1, h2⟩ <;> rw [h2]
  · rw [decide_eq_true h1, decide_eq_true (by decide)]
  · rw [decide_eq_false (by omega), decide_eq_false (by decide)]
  · rw [decide_eq_false (by omega), decide_eq_false (by decide)]
theorem turn_iff {p q r y : Int} (hf : decide (y < p) = decide (y < r)) (hD : 0 < 2 * (q - p) * (2 * (q - p)) - 4 * (p - 2 * q + r) * (p - y)) : (decide (y < q) != decide (y < p)) = true ↔ (trn (p - 2 * q + r) (2 * (q - p)) = true ∧ byd (p - 2 * q + r) (decide (y < p)) = true) := by
  have e1 : 2 * (q - p) * (2 * (q - p)) - 4 * (p - 2 * q + r) * (p - y) = -(4 * ((p - q) * (r - q)) + 4 * ((p - 2 * q + r) * (q - y))) := by grind
  rw [e1] at hD
  unfold trn byd
  by_cases hp : y < p
  · have hr : y < r := by rw [decide_eq_true hp] at hf; exact of_decide_eq_true hf.symm
    rw [decide_eq_true hp, if_pos (show true = true from rfl)]
    by_cases hq : y < q
    · rw [decide_eq_true hq]
      refine ⟨fun h => (by cases h), fun ⟨h1, h2⟩ => ?_⟩
      have h2 := of_decide_eq_true h2
      rw [if_pos h2] at h1
      have h1 := of_decide_eq_true h1
      have := Int.mul_nonneg (show 0 ≤ p - q by omega) (show 0 ≤ r - q by omega)
      have := Int.mul_nonneg (show 0 ≤ p - 2 * q + r by omega) (show 0 ≤ q - y by omega)
      omega
    · rw [decide_eq_false hq, if_pos (show 0 < p - 2 * q + r by omega)]
      exact ⟨fun _ => ⟨decide_eq_true (by omega), decide_eq_true (by omega)⟩, fun _ => rfl⟩
  · have hr : ¬ y < r := by rw [decide_eq_false hp] at hf; exact of_decide_eq_false hf.symm
    rw [decide_eq_false hp, if_neg (show ¬ (false = true) by decide)]
    by_cases hq : y < q
    · rw [decide_eq_true hq, if_neg (show ¬ 0 < p - 2 * q + r by omega)]
      exact ⟨fun _ => ⟨decide_eq_true (by omega), decide_eq_true (by omega)⟩, fun _ => rfl⟩
    · rw [decide_eq_false hq]
      refine ⟨fun h => (by cases h), fun ⟨h1, h2⟩ => ?_⟩
      have h2 := of_decide_eq_true h2
      rw [if_neg (show ¬ 0 < p - 2 * q + r by omega)] at h1
      have h1 := of_decide_eq_true h1
      have := Int.mul_nonneg (show 0 ≤ q - p by omega) (show 0 ≤ q - r by omega)
      rw [show (q - p) * (q - r) = (p - q) * (r - q) by grind] at this
      have := Int.mul_nonneg (show 0 ≤ -(p - 2 * q + r) by omega) (show 0 ≤ -(q - y) by omega)
      rw [Int.neg_mul_neg] at this
      omega
/-- a piece counts for the class as for the reference -/
theorem cct_hw {d : PD} (h : pdOk d) (x y : Int) : cct d x y = hw x y d.px d.py d.qx d.qy d.rx d.ry (!d.ln) := by
  unfold hw cct cu crp
  cases hl : d.ln with
  | true =>
    obtain ⟨h1, h2⟩ := h.2.2.2.2.2.2 hl
    rw [if_neg (show ¬ ((!true) = true) by decide), rtp_ln hl, rtp_ln hl, h2]
    unfold lnc
    by_cases hf : decide (y < d.py) = decide (y < d.ry)
    · rw [crs_b hf, crs_b hf, if_pos hf]
      have : (decide (y < d.py) != decide (y < d.py)) = false := by cases decide (y < d.py) <;> rfl
      rw [this, Bool.false_and, if_neg (show ¬ (false = true) by decide)]; rfl
    · rw [crs_a hf, crs_a hf, if_neg hf]
      by_cases hr : y < d.ry
      · rw [decide_eq_true hr]
        by_cases hs : 0 < sgn ((d.rx - d.px) * (y - d.py) - (x - d.px) * (d.ry - d.py)) * sgn (d.ry - d.py)
        · rw [decide_eq_true hs, if_pos hs]; rfl
        · rw [decide_eq_false hs, if_neg hs, if_pos hr]; rfl
      · rw [decide_eq_false hr]
        by_cases hs : 0 < sgn ((d.rx - d.px) * (y - d.py) - (x - d.px) * (d.ry - d.py)) * sgn (d.ry - d.py)
        · rw [decide_eq_true hs, if_pos hs]; rfl
        · rw [decide_eq_false hs, if_neg hs, if_neg hr]; rfl
  | false =>
    have e1 : sqv false d.py d.qy d.ry = d.py - 2 * d.qy + d.ry := by unfold sqv; rw [if_neg (by decide)]
    have e2 : onv false d.py d.qy d.ry = 2 * (d.qy - d.py) := by unfold onv; rw [if_neg (by decide)]
    rw [if_pos (show (!false) = true from rfl), e1, e2]
    unfold cvc cvc2
    rw [show decide (0 < d.py - y) = decide (y < d.py) by by_cases hh : y < d.py; (rw [decide_eq_true hh, decide_eq_true (by omega)]); (rw [decide_eq_false hh, decide_eq_false (by omega)])]
    by_cases hf : decide (y < d.py) = decide (y < d.ry)
    · rw [crs_b hf, crs_b hf, if_pos hf]
      by_cases hD : 0 < 2 * (d.qy - d.py) * (2 * (d.qy - d.py)) - 4 * (d.py - 2 * d.qy + d.ry) * (d.py - y)
      · have ti := turn_iff hf hD
        rw [decide_eq_true hD, Bool.and_true, rtp_cv hl x y true (by omega), rtp_cv hl x y false (by omega)]
        by_cases ht : (decide (y < d.qy) != decide (y < d.py)) = true
        · rw [if_pos ht, if_pos ht, if_pos (c := trn _ _ = true ∧ byd _ _ = true ∧ 0 < _) ⟨(ti.mp ht).1, (ti.mp ht).2, hD⟩]
          have hb := (ti.mp ht).2
          unfold byd at hb
          by_cases hp : y < d.py
          · rw [decide_eq_true hp, if_pos (show true = true from rfl)] at hb
            rw [decide_eq_true hp, if_pos (show true = true from rfl), hb]
            rw [show (true == true) = true from rfl, show (false == true) = false from rfl]
            cases ilf (d.py - 2 * d.qy + d.ry) (2 * (d.qy - d.py)) (d.py - y) true (d.px - 2 * d.qx + d.rx) (2 * (d.qx - d.px)) (d.px - x) <;> cases ilf (d.py - 2 * d.qy + d.ry) (2 * (d.qy - d.py)) (d.py - y) false (d.px - 2 * d.qx + d.rx) (2 * (d.qx - d.px)) (d.px - x) <;> rfl
          · rw [decide_eq_false hp, if_neg (show ¬ (false = true) by decide)] at hb
            have hb := of_decide_eq_true hb
            rw [decide_eq_false hp, if_neg (show ¬ (false = true) by decide), decide_eq_false (show ¬ 0 < d.py - 2 * d.qy + d.ry by omega)]
            rw [show (true == false) = false from rfl, show (false == false) = true from rfl]
            cases ilf (d.py - 2 * d.qy + d.ry) (2 * (d.qy - d.py)) (d.py - y) true (d.px - 2 * d.qx + d.rx) (2 * (d.qx - d.px)) (d.px - x) <;> cases ilf (d.py - 2 * d.qy + d.ry) (2 * (d.qy - d.py)) (d.py - y) false (d.px - 2 * d.qx + d.rx) (2 * (d.qx - d.px)) (d.px - x) <;> rfl
        · rw [if_neg ht, if_neg ht, if_neg (fun hh => ht (ti.mpr ⟨hh.1, hh.2.1⟩))]; rfl
      · rw [decide_eq_false hD, Bool.and_false, if_neg (show ¬ (false = true) by decide), if_neg (show ¬ (false = true) by decide), if_neg (fun hh => hD hh.2.2)]; rfl
    · have hD : 0 ≤ 2 * (d.qy - d.py) * (2 * (d.qy - d.py)) - 4 * (d.py - 2 * d.qy + d.ry) * (d.py - y) := disc_nn (by
        by_cases hp : y < d.py <;> by_cases hr : y < d.ry
        · rw [decide_eq_true hp, decide_eq_true hr] at hf; exact absurd rfl hf
        · omega
        · omega
        · rw [decide_eq_false hp, decide_eq_false hr] at hf; exact absurd rfl hf)
      rw [crs_a hf, crs_a hf, if_neg hf, rtp_cv hl x y true hD, rtp_cv hl x y false hD]
      by_cases hr : y < d.ry
      · rw [decide_eq_true hr]
        cases ilf (d.py - 2 * d.qy + d.ry) (2 * (d.qy - d.py)) (d.py - y) (true == decide (0 < d.py - 2 * d.qy + d.ry)) (d.px - 2 * d.qx + d.rx) (2 * (d.qx - d.px)) (d.px - x) <;> rfl
      · rw [decide_eq_false hr]
        cases ilf (d.py - 2 * d.qy + d.ry) (2 * (d.qy - d.py)) (d.py - y) (false == decide (0 < d.py - 2 * d.qy + d.ry)) (d.px - 2 * d.qx + d.rx) (2 * (d.qx - d.px)) (d.px - x) <;> rfl
