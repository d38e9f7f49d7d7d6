/-! bits of a row, told by their places -/
theorem bF_tb (P : Int → Bool) (n i : Nat) : (bitsF P n).testBit i = (decide (i < n) && P (i : Int)) := by
  induction n with
  | zero => rw [decide_eq_false (by omega)]; show (0 : Nat).testBit i = _; simp
  | succ n ih =>
    have hl := bitsF_lt P n
    show (bitsF P n + (if P (n : Int) = true then 2 ^ n else 0)).testBit i = _
    have h1 : bitsF P n + (if P (n : Int) = true then 2 ^ n else 0) = 2 ^ n * (if P (n : Int) = true then 1 else 0) + bitsF P n := by split <;> omega
    rw [h1]
    rw [Nat.testBit_two_pow_mul_add _ hl]
    by_cases h : i < n
    · rw [if_pos h, ih, decide_eq_true h, decide_eq_true (by omega)]
    · rw [if_neg h]
      by_cases h2 : i = n
      · subst h2
        rw [Nat.sub_self, decide_eq_true (by omega)]
        cases hp : P (i : Int) <;> simp
      · rw [decide_eq_false (by omega)]
        obtain ⟨k, hk⟩ : ∃ k, i - n = k + 1 := ⟨i - n - 1, by omega⟩
        rw [hk]
        split <;> simp [Nat.testBit_succ]
theorem bF_bit (P : Int → Bool) {z : Int} (hz : 0 ≤ z ∧ z < 64) : bitsF P 64 / 2 ^ z.toNat % 2 = (bz (P z)).toNat := by
  have h := bF_tb P 64 z.toNat
  rw [decide_eq_true (by omega), Int.toNat_of_nonneg hz.1, Bool.true_and] at h
  rw [Nat.testBit_eq_decide_div_mod_eq] at h
  cases hp : P z
  · rw [hp] at h; have := of_decide_eq_false h; show _ = 0; omega
  · rw [hp] at h; have := of_decide_eq_true h; show _ = 1; omega
theorem bF_64 (P : Int → Bool) : bitsF P 64 < 18446744073709551616 := bitsF_lt P 64
theorem bF_eq {m : Nat} {P : Int → Bool} (hm : m < 2 ^ 64) (h : ∀ i : Nat, i < 64 → m.testBit i = P (i : Int)) : m = bitsF P 64 := by
  apply Nat.eq_of_testBit_eq
  intro i
  rw [bF_tb]
  by_cases hi : i < 64
  · rw [h i hi, decide_eq_true hi, Bool.true_and]
  · rw [decide_eq_false hi, Bool.false_and]
    exact Nat.testBit_lt_two_pow (Nat.lt_of_lt_of_le hm (Nat.pow_le_pow_right (by decide) (by omega)))
theorem lN_xr (a b : Nat) : lN a ^^^ lN b = lN (a ^^^ b) := by
  apply Int64.toBitVec_inj.mp
  rw [Int64.toBitVec_xor, wb_tb, wb_tb, wb_tb]
  apply BitVec.eq_of_getLsbD_eq
  intro i hi
  simp [BitVec.getLsbD_ofNat, Nat.testBit_xor, hi]
theorem bF_fst (P : Int → Bool) : lN (bitsF P 64) &&& ((lN (bitsF P 64) <<< ((iI 1).toInt64 &&& 63)) ^^^ lI (-1)) = lN (bitsF (spS P) 64) := by
  have h1 : lI (-1) = lN 18446744073709551615 := by decide +kernel
  rw [h1, show iI 1 = nI 1 by decide +kernel, wb_shl _ (by decide), wb_mod (bitsF P 64 * 2 ^ 1), lN_xr, wb_and (bF_64 P) (Nat.xor_lt_two_pow (n := 64) (Nat.mod_lt _ (by decide)) (by decide))]
  congr 1
  refine bF_eq (Nat.lt_of_le_of_lt Nat.and_le_left (bF_64 P)) (fun i hi => ?_)
  rw [Nat.testBit_and, Nat.testBit_xor, show (18446744073709551615 : Nat) = 2 ^ 64 - 1 from rfl, Nat.testBit_two_pow_sub_one, decide_eq_true hi, Nat.testBit_mod_two_pow, decide_eq_true hi, bF_tb, decide_eq_true hi, Nat.mul_comm, Nat.testBit_two_pow_mul]
  unfold spS pv
  rcases i with _ | i
  · rw [decide_eq_false (by decide), if_pos (show ((0 : Nat) : Int) = 0 from rfl)]; cases P ((0 : Nat) : Int) <;> rfl
  · rw [decide_eq_true (by omega), if_neg (by omega), Nat.add_sub_cancel, bF_tb, decide_eq_true (by omega), show ((i + 1 : Nat) : Int) - 1 = (i : Int) by omega]
    cases P ((i + 1 : Nat) : Int) <;> cases P (i : Int) <;> rfl
/-- the last pixel of a span -/
def spL (P : Int → Bool) (x : Int) : Bool := P x && !p64 P (x + 1)
theorem bF_lst (P : Int → Bool) : lN (bitsF P 64) &&& (((lN (bitsF P 64)).toUInt64 >>> ((iI 1).toInt64.toUInt64 &&& Int64.toUInt64 63)).toInt64 ^^^ lI (-1)) = lN (bitsF (spL P) 64) := by
  have h1 : lI (-1) = lN 18446744073709551615 := by decide +kernel
  rw [h1, show iI 1 = nI 1 by decide +kernel, wb_shr (bF_64 P) (by decide), lN_xr, wb_and (bF_64 P) (Nat.xor_lt_two_pow (n := 64) (Nat.lt_of_le_of_lt (Nat.div_le_self _ _) (bF_64 P)) (by decide))]
  congr 1
  refine bF_eq (Nat.lt_of_le_of_lt Nat.and_le_left (bF_64 P)) (fun i hi => ?_)
  rw [Nat.testBit_and, Nat.testBit_xor, show (18446744073709551615 : Nat) = 2 ^ 64 - 1 from rfl, Nat.testBit_two_pow_sub_one, decide_eq_true hi, bF_tb, decide_eq_true hi, Nat.testBit_div_two_pow, bF_tb]
  unfold spL p64
  rw [show ((i + 1 : Nat) : Int) = (i : Int) + 1 by omega]
  by_cases h : i + 1 < 64
  · rw [decide_eq_true h, decide_eq_true (show (i : Int) + 1 < 64 by omega)]
    cases P (i : Int) <;> cases P ((i : Int) + 1) <;> rfl
  · rw [decide_eq_false h, decide_eq_false (show ¬ (i : Int) + 1 < 64 by omega)]
    cases P (i : Int) <;> cases P ((i : Int) + 1) <;> rfl
theorem pop_add (a : Nat) : ∀ (b n : Nat), pop (a + b) n = pop a n + pop b (n / 2 ^ a) := by
  induction a with
  | zero => intro b n; rw [Nat.zero_add, Nat.pow_zero, Nat.div_one]; show _ = 0 + _; omega
  | succ a ih =>
    intro b n
    rw [show a + 1 + b = (a + b) + 1 by omega]
    show n % 2 + pop (a + b) (n / 2) = n % 2 + pop a (n / 2) + _
    rw [ih, Nat.div_div_eq_div_mul, show 2 ^ (a + 1) = 2 * 2 ^ a by rw [Nat.pow_succ, Nat.mul_comm]]
    omega
theorem pop_mod (a : Nat) : ∀ n : Nat, pop a (n % 2 ^ a) = pop a n := by
  induction a with
  | zero => intro n; rfl
  | succ a ih =>
    intro n
    show n % 2 ^ (a + 1) % 2 + pop a (n % 2 ^ (a + 1) / 2) = n % 2 + pop a (n / 2)
    rw [show 2 ^ (a + 1) = 2 * 2 ^ a by rw [Nat.pow_succ, Nat.mul_comm], Nat.mod_mul_right_div_self, ih, Nat.mod_mul_right_mod]
theorem pop_bF (P : Int → Bool) (k : Nat) : (pop k (bitsF P k) : Int) = isum (fun q => bz (P q)) k := by
  induction k with
  | zero => rfl
  | succ k ih =>
    show _ = isum (fun q => bz (P q)) k + bz (P (k : Int))
    have hl := bitsF_lt P k
    have h0 : 0 < 2 ^ k := Nat.two_pow_pos k
    have e1 : bitsF P (k + 1) = bitsF P k + 2 ^ k * (bz (P (k : Int))).toNat := by
      show bitsF P k + (if P (k : Int) = true then 2 ^ k else 0) = _
      cases P (k : Int)
      · rw [if_neg (by decide)]; show _ = _ + 2 ^ k * 0; rw [Nat.mul_zero]
      · rw [if_pos rfl]; show _ = _ + 2 ^ k * 1; rw [Nat.mul_one]
    have e2 : bitsF P (k + 1) % 2 ^ k = bitsF P k := by rw [e1, Nat.add_mul_mod_self_left, Nat.mod_eq_of_lt hl]
    have e3 : bitsF P (k + 1) / 2 ^ k = (bz (P (k : Int))).toNat := by rw [e1, Nat.add_mul_div_left _ _ h0, Nat.div_eq_of_lt hl, Nat.zero_add]
    rw [pop_add k 1, ← pop_mod k, e2, e3]
    have e4 : pop 1 (bz (P (k : Int))).toNat = (bz (P (k : Int))).toNat := by cases P (k : Int) <;> rfl
    rw [e4]
    have := bz_in (P (k : Int))
    omega
/-- bit number k of a row -/
def bnP (P : Int → Bool) (k z : Int) : Prop := (0 ≤ z ∧ z < 64 ∧ P z = true ∧ isum (fun q => bz (P q)) z.toNat = k) ∨ (z = -1 ∧ ∀ x : Int, 0 ≤ x → x < 64 → P x = true → isum (fun q => bz (P q)) x.toNat ≠ k)
theorem bc_end {t m : Nat} (h : t % 128 = m) : nI t &&& iI 127 = iI (m : Nat) := by
  rw [pk_and (nI t) 7 (by decide +kernel)]
  have h1 : (nI t).toBitVec.toNat = t % 4294967296 := BitVec.toNat_ofNat t 32
  rw [h1, ← iI_nI]
  congr 1
  omega
/-- is pixel x of row q set, by the class -/
def pxC (PQ : Int → Option Nat) (G : Nat → PD) (op : Int) (par : Bool) (q x : Int) : Bool := isin par (wC PQ G op (32 + 64 * x) (64 * (63 - q) + 32))
def lnP (PQ : Int → Option Nat) (G : Nat → PD) (b : Bool) (i : Int) : Int := match PQ i with | none => 0 | some a => bz ((G a).ln == b)
theorem lnP_n {PQ : Int → Option Nat} {G : Nat → PD} {b : Bool} {i : Int} (h : PQ i = none) : lnP PQ G b i = 0 := by unfold lnP; rw [h]
theorem lnP_s {PQ : Int → Option Nat} {G : Nat → PD} {b : Bool} {i : Int} {a : Nat} (h : PQ i = some a) : lnP PQ G b i = bz ((G a).ln == b) := by unfold lnP; rw [h]
theorem lnP_in (PQ : Int → Option Nat) (G : Nat → PD) (b : Bool) (i : Int) : 0 ≤ lnP PQ G b i ∧ lnP PQ G b i ≤ 1 := by
  unfold lnP
  split
  · omega
  · exact bz_in _

set_option maxHeartbeats 4000000 in
set_option maxRecDepth 100000 in
/-- Long.bitCount -/
theorem j_bitCount (l : Launch) (dC : Nat → ClassId) (dI : Nat → Nat → Nat) (n : Nat) (hn : n < 18446744073709551616) : Met l yJL_bitCount wJL_bitCount ({ frames := 0, cells := 0, slots := 0, locals := 0 }) (va_Pc [.long (lN n)] (fun _ => True)) (vp_Si (fun r => r = iI (pop 64 n : Nat))) 0 0 (fun _ => False) := by
  refine va_MetF (cc := cJL_bitCount) (maxL := 2) (ret := (some .int)) (by decide +kernel) rfl ?_
  intro p e s m args below meth c s₁ B hml hv
  obtain ⟨hargs, -⟩ := hv
  have hx := B.exec
  have hb := B.bytes
  have hr := B.returns
  have hts := atoms_spec (ws := wJL_bitCount) B.pre
  have hown : s.vm.findClass RJL = some m.cls := findClass_of_methodNamed B.named
  have hlocks := B.notSynchronized
  refine x_name (fun R Q H locs hR hQ hH hlo => ?_)
  refine x_entry hargs (Nat.le_of_ble_eq_true rfl) (fun ls hl => ?_)
  have hl : lv_has ls 2 [(0, .long (lN n))] := hl
  obtain ⟨i1, i2, i3, e1, l1, e2, e3, b1, b2, b3, e4⟩ := bitCount_nat n hn
  refine lv_lload_n hx hb dJL_bitCount_0 rfl (lv_at hl 0 rfl) ?_
  refine lv_lload_n hx hb dJL_bitCount_1 rfl (lv_at hl 0 rfl) ?_
  refine xi_iconst hx hb dJL_bitCount_2 ?_
  refine lv_lushr (v := lN (n / 2)) hx hb dJL_bitCount_3 (by rw [show iI 1 = nI 1 by decide +kernel]; exact wb_shr (n := n) (hn) (by decide)) ?_
  refine lv_ldc2 (v := 6148914691236517205) hx hb hown (hts _ (List.mem_cons_of_mem _ klJL_314)) dJL_bitCount_4 ?_
  refine xi_top (y := .long (lN (6148914691236517205))) (by decide +kernel) ?_
  refine lv_land hx hb dJL_bitCount_7 ?_
  refine xi_top (y := .long (lN (n / 2 &&& 6148914691236517205))) (by rw [wb_and (by omega) (by decide)]) ?_
  refine lv_lsub hx hb dJL_bitCount_8 ?_
  refine xi_top (y := .long (lN (i1))) (by rw [lN_sub l1, e1]) ?_
  refine lv_lstore_n (lv' := [(0, .long (lN (i1)))]) hx hb dJL_bitCount_9 rfl hl (by decide) rfl (fun ls hl => ?_)
  refine lv_lload_n hx hb dJL_bitCount_10 rfl (lv_at hl 0 rfl) ?_
  refine lv_ldc2 (v := 3689348814741910323) hx hb hown (hts _ (List.mem_cons_of_mem _ klJL_316)) dJL_bitCount_11 ?_
  refine xi_top (y := .long (lN (3689348814741910323))) (by decide +kernel) ?_
  refine lv_land hx hb dJL_bitCount_14 ?_
  refine xi_top (y := .long (lN (i1 &&& 3689348814741910323))) (by rw [wb_and (by omega) (by decide)]) ?_
  refine lv_lload_n hx hb dJL_bitCount_15 rfl (lv_at hl 0 rfl) ?_
  refine xi_iconst hx hb dJL_bitCount_16 ?_
  refine lv_lushr (v := lN (i1 / 4)) hx hb dJL_bitCount_17 (by rw [show iI 2 = nI 2 by decide +kernel]; exact wb_shr (n := i1) (by omega) (by decide)) ?_
  refine lv_ldc2 (v := 3689348814741910323) hx hb hown (hts _ (List.mem_cons_of_mem _ klJL_316)) dJL_bitCount_18 ?_
  refine xi_top (y := .long (lN (3689348814741910323))) (by decide +kernel) ?_
  refine lv_land hx hb dJL_bitCount_21 ?_
  refine xi_top (y := .long (lN (i1 / 4 &&& 3689348814741910323))) (by rw [wb_and (by omega) (by decide)]) ?_
  refine lv_ladd hx hb dJL_bitCount_22 ?_
  refine xi_top (y := .long (lN (i2))) (by rw [lN_add, e2]) ?_
  refine lv_lstore_n (lv' := [(0, .long (lN (i2)))]) hx hb dJL_bitCount_23 rfl hl (by decide) rfl (fun ls hl => ?_)
  refine lv_lload_n hx hb dJL_bitCount_24 rfl (lv_at hl 0 rfl) ?_
  refine lv_lload_n hx hb dJL_bitCount_25 rfl (lv_at hl 0 rfl) ?_
  refine xi_iconst hx hb dJL_bitCount_26 ?_
  refine lv_lushr (v := lN (i2 / 16)) hx hb dJL_bitCount_27 (by rw [show iI 4 = nI 4 by decide +kernel]; exact wb_shr (n := i2) (by omega) (by decide)) ?_
  refine lv_ladd hx hb dJL_bitCount_28 ?_
  refine xi_top (y := .long (lN (i2 + i2 / 16))) (by rw [lN_add]) ?_
  refine lv_ldc2 (v := 1085102592571150095) hx hb hown (hts _ (List.mem_cons_of_mem _ klJL_318)) dJL_bitCount_29 ?_
  refine xi_top (y := .long (lN (1085102592571150095))) (by decide +kernel) ?_
  refine lv_land hx hb dJL_bitCount_32 ?_
  refine xi_top (y := .long (lN (i3))) (by rw [wb_and (by omega) (by decide), e3]) ?_
  refine lv_lstore_n (lv' := [(0, .long (lN (i3)))]) hx hb dJL_bitCount_33 rfl hl (by decide) rfl (fun ls hl => ?_)
  refine lv_lload_n hx hb dJL_bitCount_34 rfl (lv_at hl 0 rfl) ?_
  refine lv_lload_n hx hb dJL_bitCount_35 rfl (lv_at hl 0 rfl) ?_
  refine lv_bipush (v := iI 8) hx hb dJL_bitCount_36 (by decide +kernel) ?_
  refine lv_lushr (v := lN (i3 / 256)) hx hb dJL_bitCount_38 (by rw [show iI 8 = nI 8 by decide +kernel]; exact wb_shr (n := i3) (by omega) (by decide)) ?_
  refine lv_ladd hx hb dJL_bitCount_39 ?_
  refine xi_top (y := .long (lN (i3 + i3 / 256))) (by rw [lN_add]) ?_
  refine lv_lstore_n (lv' := [(0, .long (lN (i3 + i3 / 256)))]) hx hb dJL_bitCount_40 rfl hl (by decide) rfl (fun ls hl => ?_)
  refine lv_lload_n hx hb dJL_bitCount_41 rfl (lv_at hl 0 rfl) ?_
  refine lv_lload_n hx hb dJL_bitCount_42 rfl (lv_at hl 0 rfl) ?_
  refine lv_bipush (v := iI 16) hx hb dJL_bitCount_43 (by decide +kernel) ?_
  refine lv_lushr (v := lN ((i3 + i3 / 256) / 65536)) hx hb dJL_bitCount_45 (by rw [show iI 16 = nI 16 by decide +kernel]; exact wb_shr (n := (i3 + i3 / 256)) (by omega) (by decide)) ?_
  refine lv_ladd hx hb dJL_bitCount_46 ?_
  refine xi_top (y := .long (lN (i3 + i3 / 256 + (i3 + i3 / 256) / 65536))) (by rw [lN_add]) ?_
  refine lv_lstore_n (lv' := [(0, .long (lN (i3 + i3 / 256 + (i3 + i3 / 256) / 65536)))]) hx hb dJL_bitCount_47 rfl hl (by decide) rfl (fun ls hl => ?_)
  refine lv_lload_n hx hb dJL_bitCount_48 rfl (lv_at hl 0 rfl) ?_
  refine lv_lload_n hx hb dJL_bitCount_49 rfl (lv_at hl 0 rfl) ?_
  refine lv_bipush (v := iI 32) hx hb dJL_bitCount_50 (by decide +kernel) ?_
  refine lv_lushr (v := lN ((i3 + i3 / 256 + (i3 + i3 / 256) / 65536) / 4294967296)) hx hb dJL_bitCount_52 (by rw [show iI 32 = nI 32 by decide +kernel]; exact wb_shr (n := (i3 + i3 / 256 + (i3 + i3 / 256) / 65536)) (by omega) (by decide)) ?_
  refine lv_ladd hx hb dJL_bitCount_53 ?_
  refine xi_top (y := .long (lN (i3 + i3 / 256 + (i3 + i3 / 256) / 65536 + (i3 + i3 / 256 + (i3 + i3 / 256) / 65536) / 4294967296))) (by rw [lN_add]) ?_
  refine lv_lstore_n (lv' := [(0, .long (lN (i3 + i3 / 256 + (i3 + i3 / 256) / 65536 + (i3 + i3 / 256 + (i3 + i3 / 256) / 65536) / 4294967296)))]) hx hb dJL_bitCount_54 rfl hl (by decide) rfl (fun ls hl => ?_)
  refine lv_lload_n hx hb dJL_bitCount_55 rfl (lv_at hl 0 rfl) ?_
  refine lv_l2i (v := nI (i3 + i3 / 256 + (i3 + i3 / 256) / 65536 + (i3 + i3 / 256 + (i3 + i3 / 256) / 65536) / 4294967296)) hx hb dJL_bitCount_56 (lN_i _) ?_
  refine lv_bipush (v := iI 127) hx hb dJL_bitCount_57 (by decide +kernel) ?_
  refine lv_iand hx hb dJL_bitCount_59 ?_
  refine xi_top (y := .int (iI (pop 64 n : Nat))) (by rw [bc_end e4]) ?_
  subst hQ
  exact W.iret (v := (iI (pop 64 n : Nat))) hx hb hr (fun t9 ht9 hW9 => ⟨_, rfl, rfl, ht9.trans hH⟩) (by rw [hlo]; intro q9 h9; cases h9) dJL_bitCount_60
set_option maxHeartbeats 4000000 in
set_option maxRecDepth 100000 in
/-- firstsOf -/
theorem k_firstsOf (l : Launch) (dC : Nat → ClassId) (dI : Nat → Nat → Nat) (P : Int → Bool) : Met l yC_firstsOf wC_firstsOf ({ frames := 0, cells := 0, slots := 0, locals := 0 }) (va_Pc [.long (lN (bitsF P 64))] (fun _ => True)) (vp_Sl (fun r => r = lN (bitsF (spS P) 64))) 0 0 (fun _ => False) := by
  refine Met.ofW (cc := cC_firstsOf) (maxL := 2) (ret := (some .long)) (by decide) rfl ?_
  intro p e s m args below meth c s₁ B hml hv
  obtain ⟨hargs, -⟩ := hv
  have hx := B.exec
  have hb := B.bytes
  have hr := B.returns
  have hts := atoms_spec (ws := wC_firstsOf) B.pre
  have hown : s.vm.findClass RC = some m.cls := findClass_of_methodNamed B.named
  have hlocks := B.notSynchronized
  refine x_name (fun R Q H locs hR hQ hH hlo => ?_)
  refine x_entry hargs (Nat.le_of_ble_eq_true rfl) (fun ls hl => ?_)
  have hl : lv_has ls 2 [(0, .long (lN (bitsF P 64)))] := hl
  refine lv_lload_n hx hb dC_firstsOf_0 rfl (lv_at hl 0 rfl) ?_
  refine lv_lload_n hx hb dC_firstsOf_1 rfl (lv_at hl 0 rfl) ?_
  refine xi_iconst hx hb dC_firstsOf_2 ?_
  refine lv_lshl (v := lN (bitsF P 64) <<< ((iI 1).toInt64 &&& 63)) hx hb dC_firstsOf_3 rfl ?_
  refine lv_ldc2 (v := (-1)) hx hb hown (hts _ (List.mem_cons_of_mem _ klC_169)) dC_firstsOf_4 ?_
  refine xi_top (y := .long (lI (-1))) (by decide +kernel) ?_
  refine lv_lxor hx hb dC_firstsOf_7 ?_
  refine lv_land hx hb dC_firstsOf_8 ?_
  refine xi_top (y := .long (lN (bitsF (spS P) 64))) (by rw [bF_fst]) ?_
  subst hQ
  exact W.lret (v := (lN (bitsF (spS P) 64))) hx hb hr (fun t9 ht9 hW9 => ⟨_, rfl, rfl, ht9.trans hH⟩) (by rw [hlo]; intro q9 h9; cases h9) dC_firstsOf_9
set_option maxHeartbeats 4000000 in
set_option maxRecDepth 100000 in
/-- lastsOf -/
theorem k_lastsOf (l : Launch) (dC : Nat → ClassId) (dI : Nat → Nat → Nat) (P : Int → Bool) : Met l yC_lastsOf wC_lastsOf ({ frames := 0, cells := 0, slots := 0, locals := 0 }) (va_Pc [.long (lN (bitsF P 64))] (fun _ => True)) (vp_Sl (fun r => r = lN (bitsF (spL P) 64))) 0 0 (fun _ => False) := by
  refine Met.ofW (cc := cC_lastsOf) (maxL := 2) (ret := (some .long)) (by decide) rfl ?_
  intro p e s m args below meth c s₁ B hml hv
  obtain ⟨hargs, -⟩ := hv
  have hx := B.exec
  have hb := B.bytes
  have hr := B.returns
  have hts := atoms_spec (ws := wC_lastsOf) B.pre
  have hown : s.vm.findClass RC = some m.cls := findClass_of_methodNamed B.named
  have hlocks := B.notSynchronized
  refine x_name (fun R Q H locs hR hQ hH hlo => ?_)
  refine x_entry hargs (Nat.le_of_ble_eq_true rfl) (fun ls hl => ?_)
  have hl : lv_has ls 2 [(0, .long (lN (bitsF P 64)))] := hl
  refine lv_lload_n hx hb dC_lastsOf_0 rfl (lv_at hl 0 rfl) ?_
  refine lv_lload_n hx hb dC_lastsOf_1 rfl (lv_at hl 0 rfl) ?_
  refine xi_iconst hx hb dC_lastsOf_2 ?_
  refine lv_lushr (v := ((lN (bitsF P 64)).toUInt64 >>> ((iI 1).toInt64.toUInt64 &&& Int64.toUInt64 63)).toInt64) hx hb dC_lastsOf_3 rfl ?_
  refine lv_ldc2 (v := (-1)) hx hb hown (hts _ (List.mem_cons_of_mem _ klC_169)) dC_lastsOf_4 ?_
  refine xi_top (y := .long (lI (-1))) (by decide +kernel) ?_
  refine lv_lxor hx hb dC_lastsOf_7 ?_
  refine lv_land hx hb dC_lastsOf_8 ?_
  refine xi_top (y := .long (lN (bitsF (spL P) 64))) (by rw [bF_lst]) ?_
  subst hQ
  exact W.lret (v := (lN (bitsF (spL P) 64))) hx hb hr (fun t9 ht9 hW9 => ⟨_, rfl, rfl, ht9.trans hH⟩) (by rw [hlo]; intro q9 h9; cases h9) dC_lastsOf_9
set_option maxHeartbeats 4000000 in
set_option maxRecDepth 100000 in
/-- bitNumber -/
theorem k_bitNumber (l : Launch) (dC : Nat → ClassId) (dI : Nat → Nat → Nat) (P : Int → Bool) (k : Int) (hk : -2147483648 ≤ k ∧ k ≤ 2147483647) : Met l yC_bitNumber wC_bitNumber ({ frames := 0, cells := 0, slots := 0, locals := 0 }) (va_Pc [.long (lN (bitsF P 64)), .int (iI k)] (fun _ => True)) (vp_Si (fun r => ∃ z : Int, r = iI z ∧ bnP P k z)) 0 0 (fun _ => False) := by
  refine Met.ofW (cc := cC_bitNumber) (maxL := 5) (ret := (some .int)) (by decide) rfl ?_
  intro p e s m args below meth c s₁ B hml hv
  obtain ⟨hargs, -⟩ := hv
  have hx := B.exec
  have hb := B.bytes
  have hr := B.returns
  have hts := atoms_spec (ws := wC_bitNumber) B.pre
  have hown : s.vm.findClass RC = some m.cls := findClass_of_methodNamed B.named
  have hlocks := B.notSynchronized
  refine x_name (fun R Q H locs hR hQ hH hlo => ?_)
  refine x_entry hargs (Nat.le_of_ble_eq_true rfl) (fun ls hl => ?_)
  have hl : lv_has ls 5 [(0, .long (lN (bitsF P 64))), (2, .int (iI k))] := hl
  refine xi_iconst hx hb dC_bitNumber_0 ?_
  refine lv_istore_n (lv' := [(3, .int (iI 0)), (0, .long (lN (bitsF P 64))), (2, .int (iI k))]) hx hb dC_bitNumber_1 rfl hl (by decide) rfl (fun ls hl => ?_)
  refine xi_iconst hx hb dC_bitNumber_2 ?_
  refine lv_istore (lv' := [(4, .int (iI 0)), (3, .int (iI 0)), (0, .long (lN (bitsF P 64))), (2, .int (iI k))]) hx hb dC_bitNumber_3 hl (by decide) rfl (fun ls hl => ?_)
  have cut_5_1 : ∀ (fu_5 : Nat) (x : Int) (sn : Int) (ls : Array Slot), ((64 - x).toNat) < fu_5 → (0 ≤ x ∧ x ≤ 64) → (sn = isum (fun q => bz (P q)) x.toNat) → (∀ j : Int, 0 ≤ j → j < x → P j = true → isum (fun q => bz (P q)) j.toNat ≠ k) → lv_has ls 5 [(0, .long (lN (bitsF P 64))), (2, .int (iI k)), (3, .int (iI sn)), (4, .int (iI x))] → W p l e R s m args below meth c H locs 0 0 Q (F0 m 5 ls []) := by
    intro fu_5
    induction fu_5 with
    | zero => intro _ _ _ hm; exact absurd hm (Nat.not_lt_zero _)
    | succ fu_5 ih_5 =>
      intro x sn ls hm i1 i2 i3 hl
      have b1 := isum_nn (h := fun q => bz (P q)) (fun q => bz_in _) x.toNat
      rw [← i2] at b1
      refine lv_iload hx hb dC_bitNumber_5 (lv_at hl 3 rfl) ?_
      refine lv_bipush (v := iI 64) hx hb dC_bitNumber_7 (by decide +kernel) ?_
      refine xi_icmp_ge (tgt := 40) hx hb dC_bitNumber_9 (by decide) (by omega) (by omega) (fun c_9 => ?_) (fun c_9 => ?_)
      · skip
        refine xi_iconst hx hb dC_bitNumber_40 ?_
        subst hQ
        exact W.iret (v := (iI (-1))) hx hb hr (fun t9 ht9 hW9 => ⟨_, rfl, (⟨_, rfl, Or.inr ⟨rfl, fun j h1 h2 => i3 j h1 (by omega)⟩⟩), ht9.trans hH⟩) (by rw [hlo]; intro q9 h9; cases h9) dC_bitNumber_41
      · skip
        refine lv_lload_n hx hb dC_bitNumber_12 rfl (lv_at hl 0 rfl) ?_
        refine lv_iload hx hb dC_bitNumber_13 (lv_at hl 3 rfl) ?_
        refine lv_lushr (v := ((lN (bitsF P 64)).toUInt64 >>> ((iI x).toInt64.toUInt64 &&& Int64.toUInt64 63)).toInt64) hx hb dC_bitNumber_15 rfl ?_
        refine lv_lconst (v := lI 1) hx hb dC_bitNumber_16 (by decide +kernel) ?_
        refine lv_land hx hb dC_bitNumber_17 ?_
        refine xi_top (y := .long (lI (bz (P x)))) (by rw [show iI x = nI x.toNat by (rw [iI_nI, Int.toNat_of_nonneg i1.1]), show lI 1 = (1 : Int64) by decide +kernel, wb_bit (bF_64 P) (by omega), bF_bit P (by omega)]; cases P x <;> decide +kernel) ?_
        refine lv_lconst (v := lI 0) hx hb dC_bitNumber_18 (by decide +kernel) ?_
        refine xl_eq (tgt := 34) hx hb dC_bitNumber_19 dC_bitNumber_20 (by decide) (by have := bz_in (P x); omega) (by omega) (fun c_19 => ?_) (fun c_19 => ?_)
        · have c_19 : P x = false := by (cases hp : P x; rfl; rw [hp] at c_19; cases c_19)
          refine xi_iinc (z := x + 1) (lv' := [(4, .int (iI (x + 1))), (0, .long (lN (bitsF P 64))), (2, .int (iI k)), (3, .int (iI sn))]) hx hb dC_bitNumber_34 hl (k := 3) rfl rfl (by decide) rfl (fun ls hl => ?_)
          refine lv_goto (tgt := 5) hx hb dC_bitNumber_37 (by decide) ?_
          exact ih_5 (x + 1) sn _ (by omega) (by omega) (by rw [isum_s _ i1.1, ← i2, c_19]; show sn = sn + 0; omega) (fun j h1 h2 h3 => by (by_cases h : j = x; (rw [h, ← i2]; rw [h, c_19] at h3; cases h3); (exact i3 j h1 (by omega) h3))) (lv_sub hl [1, 2, 3, 0] rfl)
        · have c_19 : P x = true := by (cases hp : P x; (rw [hp] at c_19; exact absurd rfl c_19); rfl)
          refine lv_iload_n hx hb dC_bitNumber_23 rfl (lv_at hl 2 rfl) ?_
          refine lv_iload_n hx hb dC_bitNumber_24 rfl (lv_at hl 1 rfl) ?_
          refine xi_icmp_ne (tgt := 31) hx hb dC_bitNumber_25 (by decide) (by omega) (by omega) (fun c_25 => ?_) (fun c_25 => ?_)
          · skip
            refine xi_iinc (z := sn + 1) (lv' := [(3, .int (iI (sn + 1))), (0, .long (lN (bitsF P 64))), (2, .int (iI k)), (4, .int (iI x))]) hx hb dC_bitNumber_31 hl (k := 2) rfl rfl (by decide) rfl (fun ls hl => ?_)
            refine xi_iinc (z := x + 1) (lv' := [(4, .int (iI (x + 1))), (3, .int (iI (sn + 1))), (0, .long (lN (bitsF P 64))), (2, .int (iI k))]) hx hb dC_bitNumber_34 hl (k := 3) rfl rfl (by decide) rfl (fun ls hl => ?_)
            refine lv_goto (tgt := 5) hx hb dC_bitNumber_37 (by decide) ?_
            exact ih_5 (x + 1) (sn + 1) _ (by omega) (by omega) (by rw [isum_s _ i1.1, ← i2, c_19]; rfl) (fun j h1 h2 h3 => by (by_cases h : j = x; (rw [h, ← i2]; omega); (exact i3 j h1 (by omega) h3))) (lv_sub hl [2, 3, 1, 0] rfl)
          · skip
            refine lv_iload hx hb dC_bitNumber_28 (lv_at hl 3 rfl) ?_
            subst hQ
            exact W.iret (v := (iI x)) hx hb hr (fun t9 ht9 hW9 => ⟨_, rfl, (⟨_, rfl, Or.inl ⟨i1.1, by omega, c_19, by rw [← i2]; omega⟩⟩), ht9.trans hH⟩) (by rw [hlo]; intro q9 h9; cases h9) dC_bitNumber_30
  exact cut_5_1 (((64 - (0 : Int)).toNat) + 1) 0 0 _ (Nat.lt_succ_self _) (by omega) (rfl) (fun j h1 h2 => by omega) (lv_sub hl [2, 3, 1, 0] rfl)
set_option maxHeartbeats 4000000 in
set_option maxRecDepth 100000 in
/-- rowBits -/
theorem k_rowBits (l : Launch) (dC : Nat → ClassId) (dI : Nat → Nat → Nat) (ad : Nat → Nat) (cs : Nat → ClassId) (sz : Nat) (LP : List Nat) (G : Nat → PD) (nc np op : Int) (par : Bool) (X Y : Int → Int) (O : Int → Bool) (PQ : Int → Option Nat) (Wd : Int → Int) (pw pf pu ps : Int) (q : Int) (hop : 0 ≤ op ∧ op ≤ 512) (hG : cOk LP G PQ op) (hq : 0 ≤ q ∧ q < 64) : Met l yC_rowBits wC_rowBits ({ frames := 4, cells := 0, slots := 0, locals := 104 }) (va_Pc [.ref (ad 0), .int (iI q)] (fun U => U.heap.size = sz ∧ va_P (dC, dI) vwCl ((cW ad cs nc np op par X Y O PQ Wd pw pf pu ps) ++ va_pl LP (pG G)) U.heap ∧ va_K (dC, dI) vwCl (cT cs) U ∧ va_D (fun _ => True) ((cW ad cs nc np op par X Y O PQ Wd pw pf pu ps) ++ va_pl LP (pG G)))) (va_Ql (fun (r : Int64) (u : (Int → Int) × Int × Int × Int × Int) => r = lN (bitsF (pxC PQ G op par q) 64) ∧ True) (fun (u : (Int → Int) × Int × Int × Int × Int) t9 => va_P (dC, dI) vwCl ((cW ad cs nc np op par X Y O PQ u.1 u.2.1 u.2.2.1 u.2.2.2.1 u.2.2.2.2) ++ va_pl LP (pG G)) t9.heap ∧ va_K (dC, dI) vwCl (cT cs) t9 ∧ va_D (va_A ((cW ad cs nc np op par X Y O PQ Wd pw pf pu ps) ++ va_pl LP (pG G)) sz) ((cW ad cs nc np op par X Y O PQ u.1 u.2.1 u.2.2.1 u.2.2.2.1 u.2.2.2.2) ++ va_pl LP (pG G))) (va_A ((cW ad cs nc np op par X Y O PQ Wd pw pf pu ps) ++ va_pl LP (pG G)) sz)) 0 0 (va_A ((cW ad cs nc np op par X Y O PQ Wd pw pf pu ps) ++ va_pl LP (pG G)) sz) := by
  refine Met.ofW (cc := cC_rowBits) (maxL := 5) (ret := (some .long)) (by decide) rfl ?_
  intro p e s m args below meth c s₁ B hml hv
  obtain ⟨hargs, hsz, hP, hK, hD0⟩ := hv
  have hx := B.exec
  have hb := B.bytes
  have hr := B.returns
  have hts := atoms_spec (ws := wC_rowBits) B.pre
  have hown : s.vm.findClass RC = some m.cls := findClass_of_methodNamed B.named
  have hlocks := B.notSynchronized
  subst hsz
  have hD := hD0.self (sz := s.heap.size)
  generalize hAe : va_A ((cW ad cs nc np op par X Y O PQ Wd pw pf pu ps) ++ va_pl LP (pG G)) s.heap.size = A at hD ⊢
  have hA : ∀ q : Nat, s.heap.size ≤ q → A q := fun q h => by rw [← hAe]; exact Or.inr h
  have hS0 : va_S A s.heap s.heap [] := va_S.rf
  refine x_name (fun R Q H locs hR hQ hH hlo => ?_)
  rw [← hH] at hP
  have hS : va_S A s.heap H locs := by rw [hH, hlo]; exact hS0
  refine x_entry hargs (Nat.le_of_ble_eq_true rfl) (fun ls hl => ?_)
  have hl : lv_has ls 5 [(0, .ref (ad 0)), (1, .int (iI q))] := hl
  have hP : va_P (dC, dI) vwCl ((cW ad cs nc np op par X Y O PQ Wd pw pf pu ps) ++ va_pl LP (pG G)) H := hP
  refine lv_aload_n hx hb dC_rowBits_0 rfl (lv_at hl 0 rfl) ?_
  refine lv_iload_n hx hb dC_rowBits_1 rfl (lv_at hl 1 rfl) ?_
  refine vp_callSi (W.runS (As := [.int (iI q)]) (rest := [.ref (ad 0)]) ⟨hx, hb, hml, hown, hts⟩ (k_bottomOf l dC dI q) (va_cwS 1 hts (tb_S mlC_112 smC_bottomOf iniC coC_bottomOf) rfl rfl rfl (by decide +kernel) (by subst hR; exact ⟨Nat.le_of_ble_eq_true rfl, Nat.le_of_ble_eq_true rfl⟩)) ⟨fun a9 U9 g9 mk9 q9 => q9, fun U hU hW => ⟨rfl, trivial⟩⟩ rfl rfl hl.1 rfl (lv_room (Nat.le_of_ble_eq_true rfl)) dC_rowBits_2 ⟨by subst hR; exact Nat.zero_le _, by subst hR; exact Nat.zero_le _⟩) (fun r_2 hw_2 => ?_)
  subst hw_2
  refine lv_bipush (v := iI 32) hx hb dC_rowBits_5 (by decide +kernel) ?_
  refine xi_add (z := (64 * (63 - q)) + 32) hx hb dC_rowBits_7 rfl ?_
  refine lv_bipush (v := iI 32) hx hb dC_rowBits_8 (by decide +kernel) ?_
  refine lv_bipush (v := iI 64) hx hb dC_rowBits_10 (by decide +kernel) ?_
  refine lv_bipush (v := iI 64) hx hb dC_rowBits_12 (by decide +kernel) ?_
  have hFc := xw_free hD hS hA
  refine va_callv (va_runV (As := [.int (iI ((64 * (63 - q)) + 32)), .int (iI 32), .int (iI 64), .int (iI 64)]) (rest := []) ⟨hx, hb, hml, hown, hts⟩ (k_wind l dC dI ad cs H.size LP G nc np op par X Y O PQ Wd pw pf pu ps (64 * (63 - q) + 32) 32 64 64 hop hG (by omega) (by omega) (by omega) (by omega)) (cwV 4 hts (tb_V mlC_94 imC_wind seC_wind iniC coC_wind) rfl rfl rfl (by decide +kernel) (by subst hR; exact ⟨Nat.le_of_ble_eq_true rfl, Nat.le_of_ble_eq_true rfl⟩)) ⟨fun a9 U9 g9 mk9 q9 => by obtain ⟨q0, q1, qP, qK, qD⟩ := q9; exact ⟨q0, q1, qP, va_K.moved (u := U9) (U := U9.calling g9 mk9 a9) (Vm.Alike.refl U9.vm) qK, qD⟩, va_recv hK hP (ci := 2) (q0 := 0) rfl rfl, fun U hU hW => ⟨rfl, by rw [hU], by rw [hU]; exact hP, va_K.moved hW.alike hK, hD.weaken (fun _ _ _ _ => trivial)⟩⟩ rfl rfl hl.1 rfl (lv_room (Nat.le_of_ble_eq_true rfl)) dC_rowBits_14 ⟨by subst hR; exact Nat.le_of_ble_eq_true rfl, by subst hR; exact Nat.le_of_ble_eq_true rfl⟩) hS (fun q9 _ h9 => hFc q9 h9) hFc (fun u_14 t9 H1 locs1 ht9 hvm9 hw_14 hB9 hz9 hk9 hS1 => ?_)
  obtain ⟨hP1, hK1, hD1⟩ := hB9
  rw [ht9] at hP1
  have hP : va_P (dC, dI) vwCl ((cW ad cs nc np op par X Y O PQ u_14.1 u_14.2.1 u_14.2.2.1 u_14.2.2.2.1 u_14.2.2.2.2) ++ va_pl LP (pG G)) H1 := hP1
  have hD : va_D A ((cW ad cs nc np op par X Y O PQ u_14.1 u_14.2.1 u_14.2.2.1 u_14.2.2.2.1 u_14.2.2.2.2) ++ va_pl LP (pG G)) := hD1.weaken (fun _ _ _ h9 => hFc _ h9)
  clear hP1 hD1 hK1 hFc
  have hS := hS1
  clear hS1 hz9 hk9 ht9 hvm9
  revert hP hD hS; generalize H1 = H; generalize locs1 = locs; intro hP hD hS
  refine lv_lconst (v := lI 0) hx hb dC_rowBits_17 (by decide +kernel) ?_
  refine lv_lstore_n (lv' := [(2, .long (lI 0)), (0, .ref (ad 0)), (1, .int (iI q))]) hx hb dC_rowBits_18 rfl hl (by decide) rfl (fun ls hl => ?_)
  refine xi_iconst hx hb dC_rowBits_19 ?_
  refine lv_istore (lv' := [(4, .int (iI 0)), (2, .long (lI 0)), (0, .ref (ad 0)), (1, .int (iI q))]) hx hb dC_rowBits_20 hl (by decide) rfl (fun ls hl => ?_)
  have cut_22_1 : ∀ (fu_22 : Nat) (x : Int) (ls : Array Slot), ((64 - x).toNat) < fu_22 → (0 ≤ x ∧ x ≤ 64) → lv_has ls 5 [(0, .ref (ad 0)), (1, .int (iI q)), (2, .long (lN (bitsF (pxC PQ G op par q) x.toNat))), (4, .int (iI x))] → W p l e R s m args below meth c H locs 0 0 Q (F0 m 22 ls []) := by
    intro fu_22
    induction fu_22 with
    | zero => intro _ _ hm; exact absurd hm (Nat.not_lt_zero _)
    | succ fu_22 ih_22 =>
      intro x ls hm i1 hl
      refine lv_iload hx hb dC_rowBits_22 (lv_at hl 3 rfl) ?_
      refine lv_bipush (v := iI 64) hx hb dC_rowBits_24 (by decide +kernel) ?_
      refine xi_icmp_ge (tgt := 56) hx hb dC_rowBits_26 (by decide) (by omega) (by omega) (fun c_26 => ?_) (fun c_26 => ?_)
      · skip
        refine lv_lload_n hx hb dC_rowBits_56 rfl (lv_at hl 2 rfl) ?_
        subst hQ
        exact W.lret (v := (lN (bitsF (pxC PQ G op par q) x.toNat))) hx hb hr (fun t9 ht9 hW9 => ⟨⟨_, (u_14.1, u_14.2.1, u_14.2.2.1, u_14.2.2.2.1, u_14.2.2.2.2), rfl, (⟨by rw [show x = 64 by omega]; rfl, trivial⟩), by rw [ht9]; exact hP, va_K.moved hW9.alike hK, hD⟩, hS.F ht9⟩) hS.2.2 dC_rowBits_57
      · skip
        have w9 := hw_14 x i1.1 (by omega)
        have b9 := wC_bd PQ G (32 + 64 * x) (64 * (63 - q) + 32) hop
        refine lv_aload_n hx hb dC_rowBits_29 rfl (lv_at hl 0 rfl) ?_
        refine lv_aload_n hx hb dC_rowBits_30 rfl (lv_at hl 0 rfl) ?_
        refine va_get (D := (dC, dI)) (ci := 2) (v := .ref (ad 5)) (C := RC) (T := TC) (N := 10) hx hb hts (fun w9 h9 => List.mem_cons_of_mem _ (inC w9 h9)) hown hK hP 0 rfl rfl 4 (by decide) (hts _ (List.mem_cons_of_mem _ flC_26)) (fun _ h9 => h9) rfl dC_rowBits_31 ?_
        refine lv_iload hx hb dC_rowBits_34 (lv_at hl 3 rfl) ?_
        refine xa_iald hx hb hK hP 5 4 rfl rfl (by decide) (by omega) dC_rowBits_36 ?_
        refine xi_top (y := .int (iI (wC PQ G op (32 + 64 * x) (64 * (63 - q) + 32)))) (by rw [w9]) ?_
        have hPc := hP.sub (ws' := [((ad 0), .inr (2, [.ref (ad 1), .ref (ad 2), .ref (ad 3), .ref (ad 4), .ref (ad 5), .ref (ad 6), .int (iI nc), .int (iI np), .int (iI op), .int (iI (bz par))]))]) [0] rfl
        have hKc := hK.sub (tys' := []) [] rfl
        refine vp_callSi (W.runV (As := [.int (iI (wC PQ G op (32 + 64 * x) (64 * (63 - q) + 32)))]) (rest := []) ⟨hx, hb, hml, hown, hts⟩ (k_isIn l dC dI (ad 0) (ad 1) (ad 2) (ad 3) (ad 4) (ad 5) (ad 6) nc np op par (wC PQ G op (32 + 64 * x) (64 * (63 - q) + 32)) (by omega)) (cwV 1 hts (tb_V mlC_116 imC_isIn seC_isIn iniC coC_isIn) rfl rfl rfl (by decide +kernel) (by subst hR; exact ⟨Nat.le_of_ble_eq_true rfl, Nat.le_of_ble_eq_true rfl⟩)) ⟨fun a9 U9 g9 mk9 q9 => by obtain ⟨q0, qP, qK⟩ := q9; exact ⟨q0, qP, va_K.moved (u := U9) (U := U9.calling g9 mk9 a9) (Vm.Alike.refl U9.vm) qK⟩, va_recv hKc hPc (ci := 2) (q0 := 0) rfl rfl, fun U hU hW => ⟨rfl, by rw [hU]; exact hPc, va_K.moved hW.alike hKc⟩⟩ rfl rfl hl.1 rfl (lv_room (Nat.le_of_ble_eq_true rfl)) dC_rowBits_37 ⟨by subst hR; exact Nat.zero_le _, by subst hR; exact Nat.zero_le _⟩) (fun r_37 hw_37 => ?_)
        subst hw_37
        refine xb_if_eq (tgt := 50) hx hb dC_rowBits_40 (by decide) (fun c_40 => ?_) (fun c_40 => ?_)
        · skip
          refine xi_iinc (z := x + 1) (lv' := [(4, .int (iI (x + 1))), (0, .ref (ad 0)), (1, .int (iI q)), (2, .long (lN (bitsF (pxC PQ G op par q) x.toNat)))]) hx hb dC_rowBits_50 hl (k := 3) rfl rfl (by decide) rfl (fun ls hl => ?_)
          refine lv_goto (tgt := 22) hx hb dC_rowBits_53 (by decide) ?_
          have hl : lv_has ls 5 [(4, .int (iI (x + 1))), (0, .ref (ad 0)), (1, .int (iI q)), (2, .long (lN (bitsF (pxC PQ G op par q) (x + 1).toNat)))] := (show lN (bitsF (pxC PQ G op par q) x.toNat) = lN (bitsF (pxC PQ G op par q) (x + 1).toNat) by rw [bitsF_s _ i1.1, if_neg (by rw [show pxC PQ G op par q x = false from c_40]; decide), Nat.add_zero]) ▸ hl
          exact ih_22 (x + 1) _ (by omega) (by omega) (lv_sub hl [1, 2, 3, 0] rfl)
        · skip
          refine lv_lload_n hx hb dC_rowBits_43 rfl (lv_at hl 2 rfl) ?_
          refine lv_lconst (v := lI 1) hx hb dC_rowBits_44 (by decide +kernel) ?_
          refine lv_iload hx hb dC_rowBits_45 (lv_at hl 3 rfl) ?_
          refine lv_lshl (v := lI 1 <<< ((iI x).toInt64 &&& 63)) hx hb dC_rowBits_47 rfl ?_
          refine lv_lor hx hb dC_rowBits_48 ?_
          refine xi_top (y := .long (lN (bitsF (pxC PQ G op par q) (x + 1).toNat))) (by rw [bits_or (pxC PQ G op par q) (by omega) c_40]) ?_
          refine lv_lstore_n (lv' := [(2, .long (lN (bitsF (pxC PQ G op par q) (x + 1).toNat))), (0, .ref (ad 0)), (1, .int (iI q)), (4, .int (iI x))]) hx hb dC_rowBits_49 rfl hl (by decide) rfl (fun ls hl => ?_)
          refine xi_iinc (z := x + 1) (lv' := [(4, .int (iI (x + 1))), (2, .long (lN (bitsF (pxC PQ G op par q) (x + 1).toNat))), (0, .ref (ad 0)), (1, .int (iI q))]) hx hb dC_rowBits_50 hl (k := 3) rfl rfl (by decide) rfl (fun ls hl => ?_)
          refine lv_goto (tgt := 22) hx hb dC_rowBits_53 (by decide) ?_
          exact ih_22 (x + 1) _ (by omega) (by omega) (lv_sub hl [2, 3, 1, 0] rfl)
  have hl : lv_has ls 5 [(4, .int (iI 0)), (2, .long (lN (bitsF (pxC PQ G op par q) ((0 : Int)).toNat))), (0, .ref (ad 0)), (1, .int (iI q))] := (show (lI 0) = lN (bitsF (pxC PQ G op par q) ((0 : Int)).toNat) from (by decide +kernel : lI 0 = lN 0)) ▸ hl
  exact cut_22_1 (((64 - (0 : Int)).toNat) + 1) 0 _ (Nat.lt_succ_self _) (by omega) (lv_sub hl [2, 3, 1, 0] rfl)
set_option maxHeartbeats 4000000 in
set_option maxRecDepth 100000 in
/-- countSet -/
theorem k_countSet (l : Launch) (dC : Nat → ClassId) (dI : Nat → Nat → Nat) (ad : Nat → Nat) (cs : Nat → ClassId) (sz : Nat) (LP : List Nat) (G : Nat → PD) (nc np op : Int) (par : Bool) (X Y : Int → Int) (O : Int → Bool) (PQ : Int → Option Nat) (Wd : Int → Int) (pw pf pu ps : Int) (hop : 0 ≤ op ∧ op ≤ 512) (hG : cOk LP G PQ op) : Met l yC_countSet wC_countSet ({ frames := 5, cells := 0, slots := 0, locals := 128 }) (va_Pc [.ref (ad 0)] (fun U => U.heap.size = sz ∧ va_P (dC, dI) vwCl ((cW ad cs nc np op par X Y O PQ Wd pw pf pu ps) ++ va_pl LP (pG G)) U.heap ∧ va_K (dC, dI) vwCl (cT cs) U ∧ va_D (fun _ => True) ((cW ad cs nc np op par X Y O PQ Wd pw pf pu ps) ++ va_pl LP (pG G)))) (va_Qi (fun (r : Int32) (u : (Int → Int) × Int × Int × Int × Int) => r = iI (isum (fun q => isum (fun x => bz (pxC PQ G op par q x)) 64) 64) ∧ True) (fun (u : (Int → Int) × Int × Int × Int × Int) t9 => va_P (dC, dI) vwCl ((cW ad cs nc np op par X Y O PQ u.1 u.2.1 u.2.2.1 u.2.2.2.1 u.2.2.2.2) ++ va_pl LP (pG G)) t9.heap ∧ va_K (dC, dI) vwCl (cT cs) t9 ∧ va_D (va_A ((cW ad cs nc np op par X Y O PQ Wd pw pf pu ps) ++ va_pl LP (pG G)) sz) ((cW ad cs nc np op par X Y O PQ u.1 u.2.1 u.2.2.1 u.2.2.2.1 u.2.2.2.2) ++ va_pl LP (pG G))) (va_A ((cW ad cs nc np op par X Y O PQ Wd pw pf pu ps) ++ va_pl LP (pG G)) sz)) 0 0 (va_A ((cW ad cs nc np op par X Y O PQ Wd pw pf pu ps) ++ va_pl LP (pG G)) sz) := by
  refine Met.ofW (cc := cC_countSet) (maxL := 3) (ret := (some .int)) (by decide) rfl ?_
  intro p e s m args below meth c s₁ B hml hv
  obtain ⟨hargs, hsz, hP, hK, hD0⟩ := hv
  have hx := B.exec
  have hb := B.bytes
  have hr := B.returns
  have hts := atoms_spec (ws := wC_countSet) B.pre
  have hown : s.vm.findClass RC = some m.cls := findClass_of_methodNamed B.named
  have hlocks := B.notSynchronized
  subst hsz
  have hD := hD0.self (sz := s.heap.size)
  generalize hAe : va_A ((cW ad cs nc np op par X Y O PQ Wd pw pf pu ps) ++ va_pl LP (pG G)) s.heap.size = A at hD ⊢
  have hA : ∀ q : Nat, s.heap.size ≤ q → A q := fun q h => by rw [← hAe]; exact Or.inr h
  have hS0 : va_S A s.heap s.heap [] := va_S.rf
  refine x_name (fun R Q H locs hR hQ hH hlo => ?_)
  rw [← hH] at hP
  have hS : va_S A s.heap H locs := by rw [hH, hlo]; exact hS0
  refine x_entry hargs (Nat.le_of_ble_eq_true rfl) (fun ls hl => ?_)
  have hl : lv_has ls 3 [(0, .ref (ad 0))] := hl
  have hP : va_P (dC, dI) vwCl ((cW ad cs nc np op par X Y O PQ Wd pw pf pu ps) ++ va_pl LP (pG G)) H := hP
  refine xi_iconst hx hb dC_countSet_0 ?_
  refine lv_istore_n (lv' := [(1, .int (iI 0)), (0, .ref (ad 0))]) hx hb dC_countSet_1 rfl hl (by decide) rfl (fun ls hl => ?_)
  refine xi_iconst hx hb dC_countSet_2 ?_
  refine lv_istore_n (lv' := [(2, .int (iI 0)), (1, .int (iI 0)), (0, .ref (ad 0))]) hx hb dC_countSet_3 rfl hl (by decide) rfl (fun ls hl => ?_)
  have cut_4_1 : ∀ (fu_4 : Nat) (q : Int) (n : Int) (R1 : Int → Int) (w1 : Int) (f1 : Int) (u1 : Int) (s1 : Int) (H : Heap) (locs : List Loc) (ls : Array Slot), ((64 - q).toNat) < fu_4 → (0 ≤ q ∧ q ≤ 64) → (n = isum (fun q => isum (fun x => bz (pxC PQ G op par q x)) 64) q.toNat) → va_P (dC, dI) vwCl ((cW ad cs nc np op par X Y O PQ R1 w1 f1 u1 s1) ++ va_pl LP (pG G)) H → va_D A ((cW ad cs nc np op par X Y O PQ R1 w1 f1 u1 s1) ++ va_pl LP (pG G)) → va_S A s.heap H locs → lv_has ls 3 [(0, .ref (ad 0)), (1, .int (iI n)), (2, .int (iI q))] → W p l e R s m args below meth c H locs 0 0 Q (F0 m 4 ls []) := by
    intro fu_4
    induction fu_4 with
    | zero => intro _ _ _ _ _ _ _ _ _ _ hm; exact absurd hm (Nat.not_lt_zero _)
    | succ fu_4 ih_4 =>
      intro q n R1 w1 f1 u1 s1 H locs ls hm i1 i2 hP hD hS hl
      refine lv_iload_n hx hb dC_countSet_4 rfl (lv_at hl 2 rfl) ?_
      refine lv_bipush (v := iI 64) hx hb dC_countSet_5 (by decide +kernel) ?_
      refine xi_icmp_ge (tgt := 27) hx hb dC_countSet_7 (by decide) (by omega) (by omega) (fun c_7 => ?_) (fun c_7 => ?_)
      · skip
        refine lv_iload_n hx hb dC_countSet_27 rfl (lv_at hl 1 rfl) ?_
        subst hQ
        exact W.iret (v := (iI n)) hx hb hr (fun t9 ht9 hW9 => ⟨⟨_, (R1, w1, f1, u1, s1), rfl, (⟨by rw [i2, show q = 64 by omega]; rfl, trivial⟩), by rw [ht9]; exact hP, va_K.moved hW9.alike hK, hD⟩, hS.F ht9⟩) hS.2.2 dC_countSet_28
      · skip
        refine lv_iload_n hx hb dC_countSet_10 rfl (lv_at hl 1 rfl) ?_
        refine lv_aload_n hx hb dC_countSet_11 rfl (lv_at hl 0 rfl) ?_
        refine lv_iload_n hx hb dC_countSet_12 rfl (lv_at hl 2 rfl) ?_
        have hFc := xw_free hD hS hA
        refine va_calll (va_runV (As := [.int (iI q)]) (rest := [.int (iI n)]) ⟨hx, hb, hml, hown, hts⟩ (k_rowBits l dC dI ad cs H.size LP G nc np op par X Y O PQ R1 w1 f1 u1 s1 q hop hG (by omega)) (cwV 1 hts (tb_V mlC_106 imC_rowBits seC_rowBits iniC coC_rowBits) rfl rfl rfl (by decide +kernel) (by subst hR; exact ⟨Nat.le_of_ble_eq_true rfl, Nat.le_of_ble_eq_true rfl⟩)) ⟨fun a9 U9 g9 mk9 q9 => by obtain ⟨q0, q1, qP, qK, qD⟩ := q9; exact ⟨q0, q1, qP, va_K.moved (u := U9) (U := U9.calling g9 mk9 a9) (Vm.Alike.refl U9.vm) qK, qD⟩, va_recv hK hP (ci := 2) (q0 := 0) rfl rfl, fun U hU hW => ⟨rfl, by rw [hU], by rw [hU]; exact hP, va_K.moved hW.alike hK, hD.weaken (fun _ _ _ _ => trivial)⟩⟩ rfl rfl hl.1 rfl (lv_room (Nat.le_of_ble_eq_true rfl)) dC_countSet_13 ⟨by subst hR; exact Nat.le_of_ble_eq_true rfl, by subst hR; exact Nat.le_of_ble_eq_true rfl⟩) hS (fun q9 _ h9 => hFc q9 h9) hFc (fun r_13 u_13 t9 H1 locs1 ht9 hvm9 hw_13 hB9 hz9 hk9 hS1 => ?_)
        obtain ⟨hP1, hK1, hD1⟩ := hB9
        rw [ht9] at hP1
        have hP : va_P (dC, dI) vwCl ((cW ad cs nc np op par X Y O PQ u_13.1 u_13.2.1 u_13.2.2.1 u_13.2.2.2.1 u_13.2.2.2.2) ++ va_pl LP (pG G)) H1 := hP1
        have hD : va_D A ((cW ad cs nc np op par X Y O PQ u_13.1 u_13.2.1 u_13.2.2.1 u_13.2.2.2.1 u_13.2.2.2.2) ++ va_pl LP (pG G)) := hD1.weaken (fun _ _ _ h9 => hFc _ h9)
        clear hP1 hD1 hK1 hFc
        have hS := hS1
        clear hS1 hz9 hk9 ht9 hvm9
        revert hP hD hS; generalize H1 = H; generalize locs1 = locs; intro hP hD hS
        obtain ⟨hr_13, hw_13⟩ := hw_13; subst hr_13
        refine vp_callSi (W.runS (As := [.long (lN (bitsF (pxC PQ G op par q) 64))]) (rest := [.int (iI n)]) ⟨hx, hb, hml, hown, hts⟩ (j_bitCount l dC dI (bitsF (pxC PQ G op par q) 64) (bF_64 _)) (va_cwS 1 hts (tb_S mlC_123 smJL_bitCount iniJL coJL_bitCount) rfl rfl rfl (by decide +kernel) (by subst hR; exact ⟨Nat.le_of_ble_eq_true rfl, Nat.le_of_ble_eq_true rfl⟩)) ⟨fun a9 U9 g9 mk9 q9 => q9, fun U hU hW => ⟨rfl, trivial⟩⟩ rfl rfl hl.1 rfl (lv_room (Nat.le_of_ble_eq_true rfl)) dC_countSet_16 ⟨by subst hR; exact Nat.zero_le _, by subst hR; exact Nat.zero_le _⟩) (fun r_16 hw_16 => ?_)
        subst hw_16
        refine xi_add (z := n + (pop 64 (bitsF (pxC PQ G op par q) 64) : Nat)) hx hb dC_countSet_19 rfl ?_
        refine lv_istore_n (lv' := [(1, .int (iI (n + (pop 64 (bitsF (pxC PQ G op par q) 64) : Nat)))), (0, .ref (ad 0)), (2, .int (iI q))]) hx hb dC_countSet_20 rfl hl (by decide) rfl (fun ls hl => ?_)
        refine xi_iinc (z := q + 1) (lv' := [(2, .int (iI (q + 1))), (1, .int (iI (n + (pop 64 (bitsF (pxC PQ G op par q) 64) : Nat)))), (0, .ref (ad 0))]) hx hb dC_countSet_21 hl (k := 2) rfl rfl (by decide) rfl (fun ls hl => ?_)
        refine lv_goto (tgt := 4) hx hb dC_countSet_24 (by decide) ?_
        exact ih_4 (q + 1) (n + (pop 64 (bitsF (pxC PQ G op par q) 64) : Nat)) u_13.1 u_13.2.1 u_13.2.2.1 u_13.2.2.2.1 u_13.2.2.2.2 _ _ _ (by omega) (by omega) (by rw [isum_s _ i1.1, ← i2, pop_bF]) hP hD hS (lv_sub hl [2, 1, 0] rfl)
  exact cut_4_1 (((64 - (0 : Int)).toNat) + 1) 0 0 Wd pw pf pu ps _ _ _ (Nat.lt_succ_self _) (by omega) (rfl) hP hD hS (lv_sub hl [2, 1, 0] rfl)
set_option maxHeartbeats 4000000 in
set_option maxRecDepth 100000 in
/-- countPieces -/
theorem k_countPieces (l : Launch) (dC : Nat → ClassId) (dI : Nat → Nat → Nat) (ad : Nat → Nat) (cs : Nat → ClassId) (LP : List Nat) (G : Nat → PD) (nc np op : Int) (par : Bool) (X Y : Int → Int) (O : Int → Bool) (PQ : Int → Option Nat) (Wd : Int → Int) (pw pf pu ps : Int) (b : Bool) (hop : 0 ≤ op ∧ op ≤ 512) (hG : cOk LP G PQ op) : Met l yC_countPieces wC_countPieces ({ frames := 0, cells := 0, slots := 0, locals := 0 }) (va_Pc [.ref (ad 0), .int (iI (bz b))] (fun U => va_P (dC, dI) vwCl ((cW ad cs nc np op par X Y O PQ Wd pw pf pu ps) ++ va_pl LP (pG G)) U.heap ∧ va_K (dC, dI) vwCl (cT cs) U)) (vp_Si (fun r => r = iI (isum (lnP PQ G b) op.toNat))) 0 0 (fun _ => False) := by
  refine Met.ofW (cc := cC_countPieces) (maxL := 5) (ret := (some .int)) (by decide) rfl ?_
  intro p e s m args below meth c s₁ B hml hv
  obtain ⟨hargs, hP, hK⟩ := hv
  have hx := B.exec
  have hb := B.bytes
  have hr := B.returns
  have hts := atoms_spec (ws := wC_countPieces) B.pre
  have hown : s.vm.findClass RC = some m.cls := findClass_of_methodNamed B.named
  have hlocks := B.notSynchronized
  refine x_name (fun R Q H locs hR hQ hH hlo => ?_)
  rw [← hH] at hP
  refine x_entry hargs (Nat.le_of_ble_eq_true rfl) (fun ls hl => ?_)
  have hl : lv_has ls 5 [(0, .ref (ad 0)), (1, .int (iI (bz b)))] := hl
  have hP : va_P (dC, dI) vwCl ((cW ad cs nc np op par X Y O PQ Wd pw pf pu ps) ++ va_pl LP (pG G)) H := hP
  refine xi_iconst hx hb dC_countPieces_0 ?_
  refine lv_istore_n (lv' := [(2, .int (iI 0)), (0, .ref (ad 0)), (1, .int (iI (bz b)))]) hx hb dC_countPieces_1 rfl hl (by decide) rfl (fun ls hl => ?_)
  refine xi_iconst hx hb dC_countPieces_2 ?_
  refine lv_istore_n (lv' := [(3, .int (iI 0)), (2, .int (iI 0)), (0, .ref (ad 0)), (1, .int (iI (bz b)))]) hx hb dC_countPieces_3 rfl hl (by decide) rfl (fun ls hl => ?_)
  have cut_4_1 : ∀ (fu_4 : Nat) (z : Int) (n : Int) (ls : Array Slot), ((op - z).toNat) < fu_4 → (0 ≤ z ∧ z ≤ op) → (n = isum (lnP PQ G b) z.toNat) → lv_has ls 5 [(0, .ref (ad 0)), (1, .int (iI (bz b))), (2, .int (iI n)), (3, .int (iI z))] → W p l e R s m args below meth c H locs 0 0 Q (F0 m 4 ls []) := by
    intro fu_4
    induction fu_4 with
    | zero => intro _ _ _ hm; exact absurd hm (Nat.not_lt_zero _)
    | succ fu_4 ih_4 =>
      intro z n ls hm i1 i2 hl
      refine lv_iload_n hx hb dC_countPieces_4 rfl (lv_at hl 3 rfl) ?_
      refine lv_aload_n hx hb dC_countPieces_5 rfl (lv_at hl 0 rfl) ?_
      refine va_get (D := (dC, dI)) (ci := 2) (v := .int (iI op)) (C := RC) (T := TC) (N := 10) hx hb hts (fun w9 h9 => List.mem_cons_of_mem _ (inC w9 h9)) hown hK hP 0 rfl rfl 8 (by decide) (hts _ (List.mem_cons_of_mem _ flC_43)) (fun _ h9 => h9) rfl dC_countPieces_6 ?_
      refine xi_icmp_ge (tgt := 43) hx hb dC_countPieces_9 (by decide) (by omega) (by omega) (fun c_9 => ?_) (fun c_9 => ?_)
      · skip
        refine lv_iload_n hx hb dC_countPieces_43 rfl (lv_at hl 2 rfl) ?_
        subst hQ
        exact W.iret (v := (iI n)) hx hb hr (fun t9 ht9 hW9 => ⟨_, rfl, (by rw [i2, show z = op by omega]), ht9.trans hH⟩) (by rw [hlo]; intro q9 h9; cases h9) dC_countPieces_44
      · skip
        refine lv_aload_n hx hb dC_countPieces_12 rfl (lv_at hl 0 rfl) ?_
        refine va_get (D := (dC, dI)) (ci := 2) (v := .ref (ad 4)) (C := RC) (T := TC) (N := 10) hx hb hts (fun w9 h9 => List.mem_cons_of_mem _ (inC w9 h9)) hown hK hP 0 rfl rfl 3 (by decide) (hts _ (List.mem_cons_of_mem _ flC_22)) (fun _ h9 => h9) rfl dC_countPieces_13 ?_
        refine lv_iload_n hx hb dC_countPieces_16 rfl (lv_at hl 3 rfl) ?_
        refine xa_aldq hx hb hK hP 4 3 rfl rfl (by decide) (by omega) dC_countPieces_17 ?_
        rcases ha : PQ z with _ | a
        · rw [show va_rf none = Value.null from rfl]
          refine lv_astoreN (lv' := [(4, .null), (0, .ref (ad 0)), (1, .int (iI (bz b))), (2, .int (iI n)), (3, .int (iI z))]) hx hb dC_countPieces_18 hl (by decide) rfl (fun ls hl => ?_)
          refine lv_aloadN hx hb dC_countPieces_20 (lv_at hl 0 rfl) ?_
          refine lv_ifnullN (tgt := 37) hx hb dC_countPieces_22 (by decide) ?_
          refine xi_iinc (z := z + 1) (lv' := [(3, .int (iI (z + 1))), (4, .null), (0, .ref (ad 0)), (1, .int (iI (bz b))), (2, .int (iI n))]) hx hb dC_countPieces_37 hl (k := 4) rfl rfl (by decide) rfl (fun ls hl => ?_)
          refine lv_goto (tgt := 4) hx hb dC_countPieces_40 (by decide) ?_
          exact ih_4 (z + 1) n _ (by omega) (by omega) (by rw [isum_s _ i1.1, ← i2, lnP_n ha]; omega) (lv_sub hl [2, 3, 4, 0] rfl)
        · rw [show va_rf (some a) = Value.ref a from rfl]
          obtain ⟨haL, hGa⟩ := hG z i1.1 (by omega) a ha
          refine lv_astore (lv' := [(4, .ref a), (0, .ref (ad 0)), (1, .int (iI (bz b))), (2, .int (iI n)), (3, .int (iI z))]) hx hb dC_countPieces_18 hl (by decide) rfl (fun ls hl => ?_)
          refine lv_aload hx hb dC_countPieces_20 (lv_at hl 0 rfl) ?_
          refine lv_ifnull hx hb dC_countPieces_22 ?_
          refine lv_aload hx hb dC_countPieces_25 (lv_at hl 0 rfl) ?_
          obtain ⟨kq, hkq⟩ := va_pl_get (X := (cW ad cs nc np op par X Y O PQ Wd pw pf pu ps)) (f := pG G) haL
          refine va_get (D := (dC, dI)) (ci := 0) (v := .int (iI (bz (G a).ln))) (C := RP) (T := TP) (N := 11) hx hb hts (fun w9 h9 => List.mem_cons_of_mem _ (inP w9 h9)) hown hK hP kq hkq rfl 0 (by decide) (hts _ (List.mem_cons_of_mem _ flC_166)) (fun _ h9 => h9) rfl dC_countPieces_27 ?_
          refine lv_iload_n hx hb dC_countPieces_30 rfl (lv_at hl 2 rfl) ?_
          refine xb_icmp_ne (tgt := 37) hx hb dC_countPieces_31 (by decide) (fun c_31 => ?_) (fun c_31 => ?_)
          · skip
            refine xi_iinc (z := z + 1) (lv' := [(3, .int (iI (z + 1))), (4, .ref a), (0, .ref (ad 0)), (1, .int (iI (bz b))), (2, .int (iI n))]) hx hb dC_countPieces_37 hl (k := 4) rfl rfl (by decide) rfl (fun ls hl => ?_)
            refine lv_goto (tgt := 4) hx hb dC_countPieces_40 (by decide) ?_
            exact ih_4 (z + 1) n _ (by omega) (by omega) (by rw [isum_s _ i1.1, ← i2, lnP_s ha, show ((G a).ln == b) = false by simpa using c_31]; show n = n + 0; omega) (lv_sub hl [2, 3, 4, 0] rfl)
          · skip
            refine xi_iinc (z := n + 1) (lv' := [(2, .int (iI (n + 1))), (4, .ref a), (0, .ref (ad 0)), (1, .int (iI (bz b))), (3, .int (iI z))]) hx hb dC_countPieces_34 hl (k := 3) rfl rfl (by decide) rfl (fun ls hl => ?_)
            refine xi_iinc (z := z + 1) (lv' := [(3, .int (iI (z + 1))), (2, .int (iI (n + 1))), (4, .ref a), (0, .ref (ad 0)), (1, .int (iI (bz b)))]) hx hb dC_countPieces_37 hl (k := 4) rfl rfl (by decide) rfl (fun ls hl => ?_)
            refine lv_goto (tgt := 4) hx hb dC_countPieces_40 (by decide) ?_
            exact ih_4 (z + 1) (n + 1) _ (by omega) (by omega) (by rw [isum_s _ i1.1, ← i2, lnP_s ha, show ((G a).ln == b) = true by rw [c_31]; exact beq_self_eq_true b]; rfl) (lv_sub hl [3, 4, 1, 0] rfl)
  exact cut_4_1 (((op - (0 : Int)).toNat) + 1) 0 0 _ (Nat.lt_succ_self _) (by omega) (rfl) (lv_sub hl [2, 3, 1, 0] rfl)
set_option maxHeartbeats 4000000 in
set_option maxRecDepth 100000 in
/-- drop -/
theorem k_drop (l : Launch) (dC : Nat → ClassId) (dI : Nat → Nat → Nat) (ad : Nat → Nat) (cs : Nat → ClassId) (sz : Nat) (LP : List Nat) (G : Nat → PD) (nc np op : Int) (par : Bool) (X Y : Int → Int) (O : Int → Bool) (PQ : Int → Option Nat) (Wd : Int → Int) (pw pf pu ps : Int) : Met l yC_drop wC_drop ({ frames := 0, cells := 0, slots := 0, locals := 0 }) (va_Pc [.ref (ad 0)] (fun U => U.heap.size = sz ∧ va_P (dC, dI) vwCl ((cW ad cs nc np op par X Y O PQ Wd pw pf pu ps) ++ va_pl LP (pG G)) U.heap ∧ va_K (dC, dI) vwCl (cT cs) U ∧ va_D (fun _ => True) ((cW ad cs nc np op par X Y O PQ Wd pw pf pu ps) ++ va_pl LP (pG G)))) (va_Qi (fun (r : Int32) (u : Unit) => r = iI (np - op) ∧ True) (fun (u : Unit) t9 => va_P (dC, dI) vwCl ((cW ad cs nc op op par X Y O PQ Wd pw pf pu ps) ++ va_pl LP (pG G)) t9.heap ∧ va_K (dC, dI) vwCl (cT cs) t9 ∧ va_D (va_A ((cW ad cs nc np op par X Y O PQ Wd pw pf pu ps) ++ va_pl LP (pG G)) sz) ((cW ad cs nc op op par X Y O PQ Wd pw pf pu ps) ++ va_pl LP (pG G))) (va_A ((cW ad cs nc np op par X Y O PQ Wd pw pf pu ps) ++ va_pl LP (pG G)) sz)) 0 0 (va_A ((cW ad cs nc np op par X Y O PQ Wd pw pf pu ps) ++ va_pl LP (pG G)) sz) := by
  refine Met.ofW (cc := cC_drop) (maxL := 2) (ret := (some .int)) (by decide) rfl ?_
  intro p e s m args below meth c s₁ B hml hv
  obtain ⟨hargs, hsz, hP, hK, hD0⟩ := hv
  have hx := B.exec
  have hb := B.bytes
  have hr := B.returns
  have hts := atoms_spec (ws := wC_drop) B.pre
  have hown : s.vm.findClass RC = some m.cls := findClass_of_methodNamed B.named
  have hlocks := B.notSynchronized
  subst hsz
  have hD := hD0.self (sz := s.heap.size)
  generalize hAe : va_A ((cW ad cs nc np op par X Y O PQ Wd pw pf pu ps) ++ va_pl LP (pG G)) s.heap.size = A at hD ⊢
  have hA : ∀ q : Nat, s.heap.size ≤ q → A q := fun q h => by rw [← hAe]; exact Or.inr h
  have hS0 : va_S A s.heap s.heap [] := va_S.rf
  refine x_name (fun R Q H locs hR hQ hH hlo => ?_)
  rw [← hH] at hP
  have hS : va_S A s.heap H locs := by rw [hH, hlo]; exact hS0
  refine x_entry hargs (Nat.le_of_ble_eq_true rfl) (fun ls hl => ?_)
  have hl : lv_has ls 2 [(0, .ref (ad 0))] := hl
  have hP : va_P (dC, dI) vwCl ((cW ad cs nc np op par X Y O PQ Wd pw pf pu ps) ++ va_pl LP (pG G)) H := hP
  refine lv_aload_n hx hb dC_drop_0 rfl (lv_at hl 0 rfl) ?_
  refine va_get (D := (dC, dI)) (ci := 2) (v := .int (iI np)) (C := RC) (T := TC) (N := 10) hx hb hts (fun w9 h9 => List.mem_cons_of_mem _ (inC w9 h9)) hown hK hP 0 rfl rfl 7 (by decide) (hts _ (List.mem_cons_of_mem _ flC_40)) (fun _ h9 => h9) rfl dC_drop_1 ?_
  refine lv_aload_n hx hb dC_drop_4 rfl (lv_at hl 0 rfl) ?_
  refine va_get (D := (dC, dI)) (ci := 2) (v := .int (iI op)) (C := RC) (T := TC) (N := 10) hx hb hts (fun w9 h9 => List.mem_cons_of_mem _ (inC w9 h9)) hown hK hP 0 rfl rfl 8 (by decide) (hts _ (List.mem_cons_of_mem _ flC_43)) (fun _ h9 => h9) rfl dC_drop_5 ?_
  refine xi_sub (z := np - op) hx hb dC_drop_8 rfl ?_
  refine lv_istore_n (lv' := [(1, .int (iI (np - op))), (0, .ref (ad 0))]) hx hb dC_drop_9 rfl hl (by decide) rfl (fun ls hl => ?_)
  refine lv_aload_n hx hb dC_drop_10 rfl (lv_at hl 1 rfl) ?_
  refine lv_aload_n hx hb dC_drop_11 rfl (lv_at hl 1 rfl) ?_
  refine va_get (D := (dC, dI)) (ci := 2) (v := .int (iI op)) (C := RC) (T := TC) (N := 10) hx hb hts (fun w9 h9 => List.mem_cons_of_mem _ (inC w9 h9)) hown hK hP 0 rfl rfl 8 (by decide) (hts _ (List.mem_cons_of_mem _ flC_43)) (fun _ h9 => h9) rfl dC_drop_12 ?_
  refine va_put (D := (dC, dI)) (ci := 2) (v := .int (iI op)) (ty := .int) (C := RC) (T := TC) (N := 10) hx hb hts (fun w9 h9 => List.mem_cons_of_mem _ (inC w9 h9)) tyC tyC_ok nmC hown hK hP hD hS 0 rfl rfl 7 (by decide) (hts _ (List.mem_cons_of_mem _ flC_40)) (fun _ h9 => h9) rfl (by decide +kernel) rfl rfl (Nat.le_of_ble_eq_true rfl) dC_drop_15 (fun H locs hP hD hS => ?_)
  have hP : va_P (dC, dI) vwCl ((cW ad cs nc op op par X Y O PQ Wd pw pf pu ps) ++ va_pl LP (pG G)) H := hP
  have hD : va_D A ((cW ad cs nc op op par X Y O PQ Wd pw pf pu ps) ++ va_pl LP (pG G)) := hD
  refine lv_iload_n hx hb dC_drop_18 rfl (lv_at hl 0 rfl) ?_
  subst hQ
  exact W.iret (v := (iI (np - op))) hx hb hr (fun t9 ht9 hW9 => ⟨⟨_, (), rfl, (⟨rfl, trivial⟩), by rw [ht9]; exact hP, va_K.moved hW9.alike hK, hD⟩, hS.F ht9⟩) hS.2.2 dC_drop_19
set_option maxHeartbeats 4000000 in
set_option maxRecDepth 100000 in
/-- clear -/
theorem k_clear (l : Launch) (dC : Nat → ClassId) (dI : Nat → Nat → Nat) (ad : Nat → Nat) (cs : Nat → ClassId) (sz : Nat) (LP : List Nat) (G : Nat → PD) (nc np op : Int) (par : Bool) (X Y : Int → Int) (O : Int → Bool) (PQ : Int → Option Nat) (Wd : Int → Int) (pw pf pu ps : Int) : Met l yC_clear wC_clear ({ frames := 0, cells := 0, slots := 0, locals := 0 }) (va_Pc [.ref (ad 0)] (fun U => U.heap.size = sz ∧ va_P (dC, dI) vwCl ((cW ad cs nc np op par X Y O PQ Wd pw pf pu ps) ++ va_pl LP (pG G)) U.heap ∧ va_K (dC, dI) vwCl (cT cs) U ∧ va_D (fun _ => True) ((cW ad cs nc np op par X Y O PQ Wd pw pf pu ps) ++ va_pl LP (pG G)))) (va_Qi (fun (r : Int32) (u : Unit) => r = iI nc ∧ True) (fun (u : Unit) t9 => va_P (dC, dI) vwCl ((cW ad cs 0 0 0 par X Y O PQ Wd pw pf pu ps) ++ va_pl LP (pG G)) t9.heap ∧ va_K (dC, dI) vwCl (cT cs) t9 ∧ va_D (va_A ((cW ad cs nc np op par X Y O PQ Wd pw pf pu ps) ++ va_pl LP (pG G)) sz) ((cW ad cs 0 0 0 par X Y O PQ Wd pw pf pu ps) ++ va_pl LP (pG G))) (va_A ((cW ad cs nc np op par X Y O PQ Wd pw pf pu ps) ++ va_pl LP (pG G)) sz)) 0 0 (va_A ((cW ad cs nc np op par X Y O PQ Wd pw pf pu ps) ++ va_pl LP (pG G)) sz) := by
  refine Met.ofW (cc := cC_clear) (maxL := 2) (ret := (some .int)) (by decide) rfl ?_
  intro p e s m args below meth c s₁ B hml hv
  obtain ⟨hargs, hsz, hP, hK, hD0⟩ := hv
  have hx := B.exec
  have hb := B.bytes
  have hr := B.returns
  have hts := atoms_spec (ws := wC_clear) B.pre
  have hown : s.vm.findClass RC = some m.cls := findClass_of_methodNamed B.named
  have hlocks := B.notSynchronized
  subst hsz
  have hD := hD0.self (sz := s.heap.size)
  generalize hAe : va_A ((cW ad cs nc np op par X Y O PQ Wd pw pf pu ps) ++ va_pl LP (pG G)) s.heap.size = A at hD ⊢
  have hA : ∀ q : Nat, s.heap.size ≤ q → A q := fun q h => by rw [← hAe]; exact Or.inr h
  have hS0 : va_S A s.heap s.heap [] := va_S.rf
  refine x_name (fun R Q H locs hR hQ hH hlo => ?_)
  rw [← hH] at hP
  have hS : va_S A s.heap H locs := by rw [hH, hlo]; exact hS0
  refine x_entry hargs (Nat.le_of_ble_eq_true rfl) (fun ls hl => ?_)
  have hl : lv_has ls 2 [(0, .ref (ad 0))] := hl
  have hP : va_P (dC, dI) vwCl ((cW ad cs nc np op par X Y O PQ Wd pw pf pu ps) ++ va_pl LP (pG G)) H := hP
  refine lv_aload_n hx hb dC_clear_0 rfl (lv_at hl 0 rfl) ?_
  refine va_get (D := (dC, dI)) (ci := 2) (v := .int (iI nc)) (C := RC) (T := TC) (N := 10) hx hb hts (fun w9 h9 => List.mem_cons_of_mem _ (inC w9 h9)) hown hK hP 0 rfl rfl 6 (by decide) (hts _ (List.mem_cons_of_mem _ flC_36)) (fun _ h9 => h9) rfl dC_clear_1 ?_
  refine lv_istore_n (lv' := [(1, .int (iI nc)), (0, .ref (ad 0))]) hx hb dC_clear_4 rfl hl (by decide) rfl (fun ls hl => ?_)
  refine lv_aload_n hx hb dC_clear_5 rfl (lv_at hl 1 rfl) ?_
  refine xi_iconst hx hb dC_clear_6 ?_
  refine va_put (D := (dC, dI)) (ci := 2) (v := .int (iI 0)) (ty := .int) (C := RC) (T := TC) (N := 10) hx hb hts (fun w9 h9 => List.mem_cons_of_mem _ (inC w9 h9)) tyC tyC_ok nmC hown hK hP hD hS 0 rfl rfl 6 (by decide) (hts _ (List.mem_cons_of_mem _ flC_36)) (fun _ h9 => h9) rfl (by decide +kernel) rfl rfl (Nat.le_of_ble_eq_true rfl) dC_clear_7 (fun H locs hP hD hS => ?_)
  have hP : va_P (dC, dI) vwCl ((cW ad cs 0 np op par X Y O PQ Wd pw pf pu ps) ++ va_pl LP (pG G)) H := hP
  have hD : va_D A ((cW ad cs 0 np op par X Y O PQ Wd pw pf pu ps) ++ va_pl LP (pG G)) := hD
  refine lv_aload_n hx hb dC_clear_10 rfl (lv_at hl 1 rfl) ?_
  refine xi_iconst hx hb dC_clear_11 ?_
  refine va_put (D := (dC, dI)) (ci := 2) (v := .int (iI 0)) (ty := .int) (C := RC) (T := TC) (N := 10) hx hb hts (fun w9 h9 => List.mem_cons_of_mem _ (inC w9 h9)) tyC tyC_ok nmC hown hK hP hD hS 0 rfl rfl 7 (by decide) (hts _ (List.mem_cons_of_mem _ flC_40)) (fun _ h9 => h9) rfl (by decide +kernel) rfl rfl (Nat.le_of_ble_eq_true rfl) dC_clear_12 (fun H locs hP hD hS => ?_)
  have hP : va_P (dC, dI) vwCl ((cW ad cs 0 0 op par X Y O PQ Wd pw pf pu ps) ++ va_pl LP (pG G)) H := hP
  have hD : va_D A ((cW ad cs 0 0 op par X Y O PQ Wd pw pf pu ps) ++ va_pl LP (pG G)) := hD
  refine lv_aload_n hx hb dC_clear_15 rfl (lv_at hl 1 rfl) ?_
  refine xi_iconst hx hb dC_clear_16 ?_
  refine va_put (D := (dC, dI)) (ci := 2) (v := .int (iI 0)) (ty := .int) (C := RC) (T := TC) (N := 10) hx hb hts (fun w9 h9 => List.mem_cons_of_mem _ (inC w9 h9)) tyC tyC_ok nmC hown hK hP hD hS 0 rfl rfl 8 (by decide) (hts _ (List.mem_cons_of_mem _ flC_43)) (fun _ h9 => h9) rfl (by decide +kernel) rfl rfl (Nat.le_of_ble_eq_true rfl) dC_clear_17 (fun H locs hP hD hS => ?_)
  have hP : va_P (dC, dI) vwCl ((cW ad cs 0 0 0 par X Y O PQ Wd pw pf pu ps) ++ va_pl LP (pG G)) H := hP
  have hD : va_D A ((cW ad cs 0 0 0 par X Y O PQ Wd pw pf pu ps) ++ va_pl LP (pG G)) := hD
  refine lv_iload_n hx hb dC_clear_20 rfl (lv_at hl 0 rfl) ?_
  subst hQ
  exact W.iret (v := (iI nc)) hx hb hr (fun t9 ht9 hW9 => ⟨⟨_, (), rfl, (⟨rfl, trivial⟩), by rw [ht9]; exact hP, va_K.moved hW9.alike hK, hD⟩, hS.F ht9⟩) hS.2.2 dC_clear_21
set_option maxHeartbeats 4000000 in
set_option maxRecDepth 100000 in
/-- parity -/
theorem k_parity (l : Launch) (dC : Nat → ClassId) (dI : Nat → Nat → Nat) (ad : Nat → Nat) (cs : Nat → ClassId) (sz : Nat) (LP : List Nat) (G : Nat → PD) (nc np op : Int) (par : Bool) (X Y : Int → Int) (O : Int → Bool) (PQ : Int → Option Nat) (Wd : Int → Int) (pw pf pu ps : Int) (is : Bool) : Met l yC_parity wC_parity ({ frames := 0, cells := 0, slots := 0, locals := 0 }) (va_Pc [.ref (ad 0), .int (iI (bz is))] (fun U => U.heap.size = sz ∧ va_P (dC, dI) vwCl ((cW ad cs nc np op par X Y O PQ Wd pw pf pu ps) ++ va_pl LP (pG G)) U.heap ∧ va_K (dC, dI) vwCl (cT cs) U ∧ va_D (fun _ => True) ((cW ad cs nc np op par X Y O PQ Wd pw pf pu ps) ++ va_pl LP (pG G)))) (va_Qi (fun (r : Int32) (u : Unit) => r = iI (bz par) ∧ True) (fun (u : Unit) t9 => va_P (dC, dI) vwCl ((cW ad cs nc np op is X Y O PQ Wd pw pf pu ps) ++ va_pl LP (pG G)) t9.heap ∧ va_K (dC, dI) vwCl (cT cs) t9 ∧ va_D (va_A ((cW ad cs nc np op par X Y O PQ Wd pw pf pu ps) ++ va_pl LP (pG G)) sz) ((cW ad cs nc np op is X Y O PQ Wd pw pf pu ps) ++ va_pl LP (pG G))) (va_A ((cW ad cs nc np op par X Y O PQ Wd pw pf pu ps) ++ va_pl LP (pG G)) sz)) 0 0 (va_A ((cW ad cs nc np op par X Y O PQ Wd pw pf pu ps) ++ va_pl LP (pG G)) sz) := by
  refine Met.ofW (cc := cC_parity) (maxL := 3) (ret := (some .boolean)) (by decide) rfl ?_
  intro p e s m args below meth c s₁ B hml hv
  obtain ⟨hargs, hsz, hP, hK, hD0⟩ := hv
  have hx := B.exec
  have hb := B.bytes
  have hr := B.returns
  have hts := atoms_spec (ws := wC_parity) B.pre
  have hown : s.vm.findClass RC = some m.cls := findClass_of_methodNamed B.named
  have hlocks := B.notSynchronized
  subst hsz
  have hD := hD0.self (sz := s.heap.size)
  generalize hAe : va_A ((cW ad cs nc np op par X Y O PQ Wd pw pf pu ps) ++ va_pl LP (pG G)) s.heap.size = A at hD ⊢
  have hA : ∀ q : Nat, s.heap.size ≤ q → A q := fun q h => by rw [← hAe]; exact Or.inr h
  have hS0 : va_S A s.heap s.heap [] := va_S.rf
  refine x_name (fun R Q H locs hR hQ hH hlo => ?_)
  rw [← hH] at hP
  have hS : va_S A s.heap H locs := by rw [hH, hlo]; exact hS0
  refine x_entry hargs (Nat.le_of_ble_eq_true rfl) (fun ls hl => ?_)
  have hl : lv_has ls 3 [(0, .ref (ad 0)), (1, .int (iI (bz is)))] := hl
  have hP : va_P (dC, dI) vwCl ((cW ad cs nc np op par X Y O PQ Wd pw pf pu ps) ++ va_pl LP (pG G)) H := hP
  refine lv_aload_n hx hb dC_parity_0 rfl (lv_at hl 0 rfl) ?_
  refine va_get (D := (dC, dI)) (ci := 2) (v := .int (iI (bz par))) (C := RC) (T := TC) (N := 10) hx hb hts (fun w9 h9 => List.mem_cons_of_mem _ (inC w9 h9)) hown hK hP 0 rfl rfl 9 (by decide) (hts _ (List.mem_cons_of_mem _ flC_46)) (fun _ h9 => h9) rfl dC_parity_1 ?_
  refine lv_istore_n (lv' := [(2, .int (iI (bz par))), (0, .ref (ad 0)), (1, .int (iI (bz is)))]) hx hb dC_parity_4 rfl hl (by decide) rfl (fun ls hl => ?_)
  refine lv_aload_n hx hb dC_parity_5 rfl (lv_at hl 1 rfl) ?_
  refine lv_iload_n hx hb dC_parity_6 rfl (lv_at hl 2 rfl) ?_
  refine va_put (D := (dC, dI)) (ci := 2) (v := .int (iI (bz is))) (ty := .boolean) (C := RC) (T := TC) (N := 10) hx hb hts (fun w9 h9 => List.mem_cons_of_mem _ (inC w9 h9)) tyC tyC_ok nmC hown hK hP hD hS 0 rfl rfl 9 (by decide) (hts _ (List.mem_cons_of_mem _ flC_46)) (fun _ h9 => h9) rfl (by decide +kernel) (xi_narZ2 _) (xi_fitZ _) (Nat.le_of_ble_eq_true rfl) dC_parity_7 (fun H locs hP hD hS => ?_)
  have hP : va_P (dC, dI) vwCl ((cW ad cs nc np op is X Y O PQ Wd pw pf pu ps) ++ va_pl LP (pG G)) H := hP
  have hD : va_D A ((cW ad cs nc np op is X Y O PQ Wd pw pf pu ps) ++ va_pl LP (pG G)) := hD
  refine lv_iload_n hx hb dC_parity_10 rfl (lv_at hl 0 rfl) ?_
  subst hQ
  exact W.zret (v := (iI (bz par))) hx hb hr (xi_narZ2 _) (fun t9 ht9 hW9 => ⟨⟨_, (), rfl, (⟨rfl, trivial⟩), by rw [ht9]; exact hP, va_K.moved hW9.alike hK, hD⟩, hS.F ht9⟩) hS.2.2 dC_parity_11
