/-! pure numbers -/
theorem mul_bd {a b : Int} (A B : Nat) (ha : -(A : Int) ≤ a ∧ a ≤ A) (hb : -(B : Int) ≤ b ∧ b ≤ B) : -((A * B : Nat) : Int) ≤ a * b ∧ a * b ≤ ((A * B : Nat) : Int) := by
  have h1 : a.natAbs ≤ A := by omega
  have h2 : b.natAbs ≤ B := by omega
  have h3 : (a * b).natAbs ≤ A * B := by rw [Int.natAbs_mul]; exact Nat.mul_le_mul h1 h2
  generalize a * b = x at h3 ⊢
  generalize A * B = y at h3 ⊢
  omega
theorem mul_nn {a b : Int} (ha : 0 ≤ a) (hb : 0 ≤ b) : 0 ≤ a * b := Int.mul_nonneg ha hb
theorem mul_pp {a b : Int} (ha : 0 < a) (hb : 0 < b) : 0 < a * b := Int.mul_pos ha hb
theorem sq_nn (a : Int) : 0 ≤ a * a := by
  rcases Int.le_total 0 a with h | h
  · exact Int.mul_nonneg h h
  · exact Int.mul_nonneg_of_nonpos_of_nonpos h h
theorem sq_pp {a : Int} (h : a ≠ 0) : 0 < a * a := by
  have h1 := sq_nn a
  have h2 : a * a ≠ 0 := fun q => by
    rcases Int.mul_eq_zero.mp q with h3 | h3 <;> exact h h3
  omega
theorem sq_le {a b : Int} (h0 : 0 ≤ a) (h : a ≤ b) : a * a ≤ b * b := Int.mul_le_mul h h h0 (by omega)
theorem sq_lt {a b : Int} (h0 : 0 ≤ a) (h : a < b) : a * a < b * b := by
  have h1 : a * a ≤ a * b := Int.mul_le_mul_of_nonneg_left (by omega) h0
  have h2 : a * b < b * b := Int.mul_lt_mul_of_pos_right h (by omega)
  omega
/-- n against t times the root of u: below, at or above 0 -/
def crv (u n t : Int) : Int :=
  if t ≤ 0 then 1 else if 32768 < n / t then 1 else
  if (u - n / t * (n / t)) * t - 2 * (n / t) * (n % t) < 0 then 1 else
  if n % t < (u - n / t * (n / t)) * t - 2 * (n / t) * (n % t) then -1 else
  n % t * (n % t) - ((u - n / t * (n / t)) * t - 2 * (n / t) * (n % t)) * t
theorem crv_id (u t q r : Int) : (q * t + r) * (q * t + r) - t * t * u = r * r - ((u - q * q) * t - 2 * q * r) * t := by grind
theorem crv_sign {u n t : Int} (hu : 0 < u) (hu2 : u < 1073741824) (hn : 0 ≤ n) (ht : 0 < t) :
    (crv u n t < 0 ↔ n * n < t * t * u) ∧ (0 < crv u n t ↔ t * t * u < n * n) := by
  have e1 : n = n / t * t + n % t := by have := Int.emod_add_mul_ediv n t; rw [Int.mul_comm] at this; omega
  have r0 : 0 ≤ n % t := Int.emod_nonneg n (by omega)
  have r1 : n % t < t := Int.emod_lt_of_pos n ht
  have q0 : 0 ≤ n / t := Int.ediv_nonneg hn (by omega)
  unfold crv
  rw [if_neg (by omega)]
  generalize n / t = q at *
  generalize n % t = r at *
  have e2 := crv_id u t q r
  rw [← e1] at e2
  generalize hk : (u - q * q) * t - 2 * q * r = k at *
  have T0 : 0 < t * t := mul_pp ht ht
  by_cases hq : 32768 < q
  · rw [if_pos hq]
    have h1 : 32769 * t ≤ q * t := Int.mul_le_mul_of_nonneg_right (by omega) (by omega)
    have h2 : (32769 * t) * (32769 * t) ≤ n * n := sq_le (by omega) (by omega)
    have h3 : (32769 * t) * (32769 * t) = 1073807361 * (t * t) := by grind
    have h4 : t * t * u ≤ t * t * 1073741824 := Int.mul_le_mul_of_nonneg_left (by omega) (by omega)
    omega
  · rw [if_neg hq]
    by_cases hk0 : k < 0
    · rw [if_pos hk0]
      have h1 : k * t < 0 := Int.mul_neg_of_neg_of_pos hk0 ht
      have h2 := sq_nn r
      omega
    · rw [if_neg hk0]
      by_cases hk1 : r < k
      · rw [if_pos hk1]
        have h1 : (r + 1) * t ≤ k * t := Int.mul_le_mul_of_nonneg_right (by omega) (by omega)
        have h2 : r * r ≤ r * t := Int.mul_le_mul_of_nonneg_left (by omega) r0
        have h3 : (r + 1) * t = r * t + t := by grind
        omega
      · rw [if_neg hk1]
        omega
/-- is a place, rest + f times the root of u, above 0 -/
def rgt (rest f u : Int) : Bool :=
  if f = 0 ∨ u ≤ 0 then decide (0 < rest) else if 0 < f then decide (0 ≤ rest ∨ rest * rest < f * f * u) else decide (0 < rest ∧ f * f * u < rest * rest)
theorem rgt_mono {r1 r2 f u : Int} (h : r1 ≤ r2) (h1 : rgt r1 f u = true) : rgt r2 f u = true := by
  unfold rgt at h1 ⊢
  split at h1
  · rename_i hc
    rw [if_pos hc]
    simp only [decide_eq_true_eq] at h1 ⊢
    omega
  · rename_i hc
    rw [if_neg hc]
    split at h1
    · rename_i hf
      rw [if_pos hf]
      simp only [decide_eq_true_eq] at h1 ⊢
      rcases Int.lt_or_le r2 0 with h2 | h2
      · right
        rcases h1 with h1 | h1
        · omega
        · have h3 : (-r2) * (-r2) ≤ (-r1) * (-r1) := sq_le (by omega) (by omega)
          have h4 : (-r2) * (-r2) = r2 * r2 := by grind
          have h5 : (-r1) * (-r1) = r1 * r1 := by grind
          omega
      · left; exact h2
    · rename_i hf
      rw [if_neg hf]
      simp only [decide_eq_true_eq] at h1 ⊢
      have h3 : r1 * r1 ≤ r2 * r2 := sq_le (by omega) h
      omega
/-! how many bits are set: Long.bitCount -/
def pc8 (b : Nat) : Nat := b % 2 + b / 2 % 2 + b / 4 % 2 + b / 8 % 2 + b / 16 % 2 + b / 32 % 2 + b / 64 % 2 + b / 128 % 2
def mk8 (d : Nat) : Nat → Nat | 0 => 0 | k + 1 => d + 256 * mk8 d k
theorem and_256 (a b x y : Nat) (ha : a < 256) (hb : b < 256) : (a + 256 * x) &&& (b + 256 * y) = (a &&& b) + 256 * (x &&& y) := by
  have h1 : ((a + 256 * x) &&& (b + 256 * y)) % 256 = a &&& b := by
    rw [show (256 : Nat) = 2 ^ 8 from rfl, Nat.and_mod_two_pow]
    rw [show (a + 2 ^ 8 * x) % 2 ^ 8 = a by omega, show (b + 2 ^ 8 * y) % 2 ^ 8 = b by omega]
  have h2 : ((a + 256 * x) &&& (b + 256 * y)) / 256 = x &&& y := by
    rw [show (256 : Nat) = 2 ^ 8 from rfl, Nat.and_div_two_pow]
    rw [show (a + 2 ^ 8 * x) / 2 ^ 8 = x by omega, show (b + 2 ^ 8 * y) / 2 ^ 8 = y by omega]
  have h3 := Nat.div_add_mod ((a + 256 * x) &&& (b + 256 * y)) 256
  omega
def bt1 (b : Nat) : Nat := b - (b / 2 &&& 85)
def bt2 (b : Nat) : Nat := (bt1 b &&& 51) + (bt1 b / 4 &&& 51)
def be1 : Nat → Nat → Nat | 0, _ => 0 | k + 1, x => bt1 (x % 256) + 256 * be1 k (x / 256)
def be2 : Nat → Nat → Nat | 0, _ => 0 | k + 1, x => bt2 (x % 256) + 256 * be2 k (x / 256)
def be3 : Nat → Nat → Nat | 0, _ => 0 | k + 1, x => pc8 (x % 256) + 256 * be3 k (x / 256)
theorem bt_a : ∀ b, b < 256 → ∀ e, e < 2 → (b / 2 + 128 * e) &&& 85 = b / 2 &&& 85 := by decide +kernel
theorem bt_b : ∀ b, b < 256 → bt1 b < 256 ∧ bt2 b ≤ 68 ∧ bt2 b % 16 ≤ 4 ∧ (bt2 b + bt2 b / 16) &&& 15 = pc8 b ∧ pc8 b ≤ 8 := by decide +kernel
theorem bt_c : ∀ b, b < 256 → ∀ e, e < 4 → (b / 4 + 64 * e) &&& 51 = b / 4 &&& 51 := by decide +kernel
theorem bt_d : ∀ b, b < 69 → ∀ e, e < 5 → (b + b / 16 + 16 * e) &&& 15 = (b + b / 16) &&& 15 := by decide +kernel
theorem b256 (k x : Nat) (h : x < 256 ^ (k + 1)) : x / 256 < 256 ^ k := by
  rw [Nat.pow_succ] at h
  exact Nat.div_lt_of_lt_mul (by rw [Nat.mul_comm]; exact h)
theorem be_1 (k : Nat) : ∀ x, x < 256 ^ k → x - (x / 2 &&& mk8 85 k) = be1 k x := by
  induction k with
  | zero => intro x h; simp at h; subst h; rfl
  | succ k ih =>
    intro x h
    have h1 := ih (x / 256) (b256 k x h)
    have e1 : x / 2 = (x % 256 / 2 + 128 * (x / 256 % 2)) + 256 * (x / 256 / 2) := by omega
    have e2 : (x / 2 &&& mk8 85 (k + 1)) = (x % 256 / 2 &&& 85) + 256 * (x / 256 / 2 &&& mk8 85 k) := by
      rw [show mk8 85 (k + 1) = 85 + 256 * mk8 85 k from rfl, e1, and_256 _ _ _ _ (by omega) (by omega), bt_a _ (by omega) _ (by omega)]
    have e3 : be1 (k + 1) x = bt1 (x % 256) + 256 * be1 k (x / 256) := rfl
    have l1 : (x % 256 / 2 &&& 85) ≤ x % 256 / 2 := Nat.and_le_left
    have l2 : (x / 256 / 2 &&& mk8 85 k) ≤ x / 256 / 2 := Nat.and_le_left
    rw [e2, e3, ← h1]
    unfold bt1
    generalize (x % 256 / 2 &&& 85) = c1 at *
    generalize (x / 256 / 2 &&& mk8 85 k) = c2 at *
    omega
theorem be_2 (k : Nat) : ∀ x, (be1 k x &&& mk8 51 k) + (be1 k x / 4 &&& mk8 51 k) = be2 k x := by
  induction k with
  | zero => intro x; simp [be1, be2, mk8]
  | succ k ih =>
    intro x
    have h1 := ih (x / 256)
    obtain ⟨l1, -⟩ := bt_b (x % 256) (by omega)
    rw [show be1 (k + 1) x = bt1 (x % 256) + 256 * be1 k (x / 256) from rfl, show be2 (k + 1) x = bt2 (x % 256) + 256 * be2 k (x / 256) from rfl, show mk8 51 (k + 1) = 51 + 256 * mk8 51 k from rfl, ← h1]
    rw [show (bt1 (x % 256) + 256 * be1 k (x / 256)) / 4 = (bt1 (x % 256) / 4 + 64 * (be1 k (x / 256) % 4)) + 256 * (be1 k (x / 256) / 4) by omega]
    rw [and_256 _ _ _ _ l1 (by omega), and_256 _ _ _ _ (by omega) (by omega), bt_c _ l1 _ (by omega)]
    unfold bt2
    omega
theorem be_3 (k : Nat) : ∀ x, (be2 k x + be2 k x / 16) &&& mk8 15 k = be3 k x := by
  induction k with
  | zero => intro x; simp [be2, be3, mk8]
  | succ k ih =>
    intro x
    have h1 := ih (x / 256)
    obtain ⟨-, l2, l3, l4, l5⟩ := bt_b (x % 256) (by omega)
    have l6 : be2 k (x / 256) % 16 ≤ 4 := by
      cases k with
      | zero => show 0 % 16 ≤ 4; decide
      | succ k =>
        obtain ⟨-, m2, m3, -⟩ := bt_b (x / 256 % 256) (by omega)
        rw [show be2 (k + 1) (x / 256) = bt2 (x / 256 % 256) + 256 * be2 k (x / 256 / 256) from rfl]
        omega
    rw [show be2 (k + 1) x = bt2 (x % 256) + 256 * be2 k (x / 256) from rfl, show be3 (k + 1) x = pc8 (x % 256) + 256 * be3 k (x / 256) from rfl, show mk8 15 (k + 1) = 15 + 256 * mk8 15 k from rfl, ← h1, ← l4]
    rw [show bt2 (x % 256) + 256 * be2 k (x / 256) + (bt2 (x % 256) + 256 * be2 k (x / 256)) / 16 = (bt2 (x % 256) + bt2 (x % 256) / 16 + 16 * (be2 k (x / 256) % 16)) + 256 * (be2 k (x / 256) + be2 k (x / 256) / 16) by omega]
    rw [and_256 _ _ _ _ (by omega) (by omega), bt_d _ (by omega) _ (by omega)]
/-- how many of the first k bits are set -/
def pop : Nat → Nat → Nat | 0, _ => 0 | k + 1, n => n % 2 + pop k (n / 2)
theorem pop_8 (k n : Nat) : pop (k + 8) n = pc8 (n % 256) + pop k (n / 256) := by
  show n % 2 + (n / 2 % 2 + (n / 2 / 2 % 2 + (n / 2 / 2 / 2 % 2 + (n / 2 / 2 / 2 / 2 % 2 + (n / 2 / 2 / 2 / 2 / 2 % 2 + (n / 2 / 2 / 2 / 2 / 2 / 2 % 2 + (n / 2 / 2 / 2 / 2 / 2 / 2 / 2 % 2 + pop k (n / 2 / 2 / 2 / 2 / 2 / 2 / 2 / 2)))))))) = _
  rw [show n / 2 / 2 / 2 / 2 / 2 / 2 / 2 / 2 = n / 256 by omega]
  unfold pc8
  omega
theorem bitCount_nat (n : Nat) (h : n < 18446744073709551616) :
    ∃ i1 i2 i3 : Nat, n - (n / 2 &&& 6148914691236517205) = i1 ∧ (n / 2 &&& 6148914691236517205) ≤ n ∧ (i1 &&& 3689348814741910323) + (i1 / 4 &&& 3689348814741910323) = i2 ∧ ((i2 + i2 / 16) &&& 1085102592571150095) = i3 ∧ i1 ≤ n ∧ i2 ≤ 7378697629483820646 ∧ i3 ≤ 578721382704613384 ∧
      (i3 + i3 / 256 + (i3 + i3 / 256) / 65536 + (i3 + i3 / 256 + (i3 + i3 / 256) / 65536) / 4294967296) % 128 = pop 64 n := by
  have h8 : n < 256 ^ 8 := h
  have a1 := be_1 8 n h8
  have a2 := be_2 8 n
  have a3 := be_3 8 n
  rw [show mk8 85 8 = 6148914691236517205 from rfl] at a1
  rw [show mk8 51 8 = 3689348814741910323 from rfl] at a2
  rw [show mk8 15 8 = 1085102592571150095 from rfl] at a3
  have l0 : (n / 2 &&& 6148914691236517205) ≤ n / 2 := Nat.and_le_left
  have l1 : (be1 8 n &&& 3689348814741910323) ≤ 3689348814741910323 := Nat.and_le_right
  have l2 : (be1 8 n / 4 &&& 3689348814741910323) ≤ 3689348814741910323 := Nat.and_le_right
  have e3 : be3 8 n = pc8 (n % 256) + 256 * (pc8 (n / 256 % 256) + 256 * (pc8 (n / 256 / 256 % 256) + 256 * (pc8 (n / 256 / 256 / 256 % 256) + 256 * (pc8 (n / 256 / 256 / 256 / 256 % 256) + 256 * (pc8 (n / 256 / 256 / 256 / 256 / 256 % 256) + 256 * (pc8 (n / 256 / 256 / 256 / 256 / 256 / 256 % 256) + 256 * (pc8 (n / 256 / 256 / 256 / 256 / 256 / 256 / 256 % 256) + 256 * 0))))))) := rfl
  have e4 : pop 64 n = pc8 (n % 256) + (pc8 (n / 256 % 256) + (pc8 (n / 256 / 256 % 256) + (pc8 (n / 256 / 256 / 256 % 256) + (pc8 (n / 256 / 256 / 256 / 256 % 256) + (pc8 (n / 256 / 256 / 256 / 256 / 256 % 256) + (pc8 (n / 256 / 256 / 256 / 256 / 256 / 256 % 256) + (pc8 (n / 256 / 256 / 256 / 256 / 256 / 256 / 256 % 256) + 0))))))) := by
    rw [pop_8 56, pop_8 48, pop_8 40, pop_8 32, pop_8 24, pop_8 16, pop_8 8, pop_8 0]; rfl
  have p0 := (bt_b (n % 256) (by omega)).2.2.2.2
  have p1 := (bt_b (n / 256 % 256) (by omega)).2.2.2.2
  have p2 := (bt_b (n / 256 / 256 % 256) (by omega)).2.2.2.2
  have p3 := (bt_b (n / 256 / 256 / 256 % 256) (by omega)).2.2.2.2
  have p4 := (bt_b (n / 256 / 256 / 256 / 256 % 256) (by omega)).2.2.2.2
  have p5 := (bt_b (n / 256 / 256 / 256 / 256 / 256 % 256) (by omega)).2.2.2.2
  have p6 := (bt_b (n / 256 / 256 / 256 / 256 / 256 / 256 % 256) (by omega)).2.2.2.2
  have p7 := (bt_b (n / 256 / 256 / 256 / 256 / 256 / 256 / 256 % 256) (by omega)).2.2.2.2
  refine ⟨be1 8 n, be2 8 n, be3 8 n, a1, by omega, a2, a3, by omega, by omega, ?_, ?_⟩
  · rw [e3]
    generalize pc8 (n % 256) = d0 at *
    generalize pc8 (n / 256 % 256) = d1 at *
    generalize pc8 (n / 256 / 256 % 256) = d2 at *
    generalize pc8 (n / 256 / 256 / 256 % 256) = d3 at *
    generalize pc8 (n / 256 / 256 / 256 / 256 % 256) = d4 at *
    generalize pc8 (n / 256 / 256 / 256 / 256 / 256 % 256) = d5 at *
    generalize pc8 (n / 256 / 256 / 256 / 256 / 256 / 256 % 256) = d6 at *
    generalize pc8 (n / 256 / 256 / 256 / 256 / 256 / 256 / 256 % 256) = d7 at *
    omega
  · rw [e3, e4]
    clear e3 e4 a1 a2 a3 l0 l1 l2 h h8
    generalize pc8 (n % 256) = d0 at *
    generalize pc8 (n / 256 % 256) = d1 at *
    generalize pc8 (n / 256 / 256 % 256) = d2 at *
    generalize pc8 (n / 256 / 256 / 256 % 256) = d3 at *
    generalize pc8 (n / 256 / 256 / 256 / 256 % 256) = d4 at *
    generalize pc8 (n / 256 / 256 / 256 / 256 / 256 % 256) = d5 at *
    generalize pc8 (n / 256 / 256 / 256 / 256 / 256 / 256 % 256) = d6 at *
    generalize pc8 (n / 256 / 256 / 256 / 256 / 256 / 256 / 256 % 256) = d7 at *
    have q1 : (d0 + 256 * (d1 + 256 * (d2 + 256 * (d3 + 256 * (d4 + 256 * (d5 + 256 * (d6 + 256 * (d7 + 256 * 0)))))))) / 256 = d1 + 256 * (d2 + 256 * (d3 + 256 * (d4 + 256 * (d5 + 256 * (d6 + 256 * d7))))) := by omega
    rw [q1]
    have q2 : (d0 + 256 * (d1 + 256 * (d2 + 256 * (d3 + 256 * (d4 + 256 * (d5 + 256 * (d6 + 256 * (d7 + 256 * 0))))))) + (d1 + 256 * (d2 + 256 * (d3 + 256 * (d4 + 256 * (d5 + 256 * (d6 + 256 * d7))))))) / 65536 = (d2 + d3) + 256 * ((d3 + d4) + 256 * ((d4 + d5) + 256 * ((d5 + d6) + 256 * ((d6 + d7) + 256 * d7)))) := by omega
    rw [q2]
    have q3 : (d0 + 256 * (d1 + 256 * (d2 + 256 * (d3 + 256 * (d4 + 256 * (d5 + 256 * (d6 + 256 * (d7 + 256 * 0))))))) + (d1 + 256 * (d2 + 256 * (d3 + 256 * (d4 + 256 * (d5 + 256 * (d6 + 256 * d7)))))) + ((d2 + d3) + 256 * ((d3 + d4) + 256 * ((d4 + d5) + 256 * ((d5 + d6) + 256 * ((d6 + d7) + 256 * d7)))))) / 4294967296 = (d4 + d5 + (d6 + d7)) + 256 * ((d5 + d6 + d7) + 256 * (d6 + d7 + 256 * d7)) := by omega
    rw [q3]
    clear q1 q2 q3
    have q4 : ∀ S Z T : Nat, T = S + 256 * Z → S ≤ 64 → T % 128 = S := by intro S Z T h1 h2; omega
    exact q4 _ ((d1 + 256 * (d2 + 256 * (d3 + 256 * (d4 + 256 * (d5 + 256 * (d6 + 256 * (d7 + 256 * 0))))))) + (d2 + 256 * (d3 + 256 * (d4 + 256 * (d5 + 256 * (d6 + 256 * d7))))) + ((d3 + d4) + 256 * ((d4 + d5) + 256 * ((d5 + d6) + 256 * ((d6 + d7) + 256 * d7)))) + ((d5 + d6 + d7) + 256 * (d6 + d7 + 256 * d7))) _ (by omega) (by omega)
