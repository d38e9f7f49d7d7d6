/-! the reference: its world -/
abbrev mW (ad : Nat → Nat) (cs : Nat → ClassId) (ft : Int) (par : Bool) (np : Int) (nc : Int) (rs : Int) (npc : Int) (hi : Int) (lo : Int) (X : Int → Int) (Y : Int → Int) (O : Int → Bool) (E : Int → Int) (RX : Int → Int) (RY : Int → Int) (RO : Int → Bool) (PC : Int → Int) (CV : Int → Bool) : va_W := [((ad 0), .inr (3, [.int (iI ft), .int (iI (bz par)), .int (iI np), .ref (ad 1), .ref (ad 2), .ref (ad 3), .int (iI nc), .ref (ad 4), .int (iI rs), .ref (ad 5), .ref (ad 6), .ref (ad 7), .int (iI npc), .ref (ad 8), .ref (ad 9), .long (lI hi), .long (lI lo)])), ((ad 1), .inl (cs 0, 512, .inl (aI X))), ((ad 2), .inl (cs 1, 512, .inl (aI Y))), ((ad 3), .inl (cs 2, 512, .inl (aB O))), ((ad 4), .inl (cs 3, 64, .inl (aI E))), ((ad 5), .inl (cs 4, 1024, .inl (aI RX))), ((ad 6), .inl (cs 5, 1024, .inl (aI RY))), ((ad 7), .inl (cs 6, 1024, .inl (aB RO))), ((ad 8), .inl (cs 7, 3072, .inl (aI PC))), ((ad 9), .inl (cs 8, 512, .inl (aB CV)))]
abbrev mT (cs : Nat → ClassId) : List (ClassId × FieldType) := [(cs 0, .int), (cs 1, .int), (cs 2, .boolean), (cs 3, .int), (cs 4, .int), (cs 5, .int), (cs 6, .boolean), (cs 7, .int), (cs 8, .boolean)]
theorem lI_shr {a : Int} (ha : -9223372036854775808 ≤ a ∧ a ≤ 9223372036854775807) : lI a >>> ((iI 24).toInt64 &&& 63) = lI (a / 16777216) := by
  apply Int64.toInt_inj.mp
  have h1 : (lI a >>> ((iI 24).toInt64 &&& 63)).toInt = (lI a).toInt >>> (24 : Nat) := by
    show ((lI a).toBitVec.sshiftRight ((((iI 24).toInt64 &&& 63).toBitVec).smod 64).toNat).toInt = _
    rw [show ((((iI 24).toInt64 &&& 63).toBitVec).smod 64).toNat = 24 by decide +kernel, BitVec.toInt_sshiftRight]
    rfl
  rw [h1, lI_toInt ha, Int.shiftRight_eq_div_pow, lI_toInt (by omega)]
  rfl
theorem lI_and (a : Int) : lI a &&& lI 16777215 = lI (a % 16777216) := by
  apply Int64.toBitVec_inj.mp
  have h1 : (lI a).toBitVec = BitVec.ofInt 64 a := by unfold lI; rw [Int64.toBitVec_ofInt]
  have h2 : (lI (a % 16777216)).toBitVec = BitVec.ofInt 64 (a % 16777216) := by unfold lI; rw [Int64.toBitVec_ofInt]
  have h3 : (lI 16777215).toBitVec = BitVec.ofNat 64 16777215 := by decide +kernel
  rw [Int64.toBitVec_and, h1, h2, h3]
  apply BitVec.eq_of_toNat_eq
  rw [BitVec.toNat_and, BitVec.toNat_ofInt, BitVec.toNat_ofInt, BitVec.toNat_ofNat]
  rw [show 16777215 % 2 ^ 64 = 2 ^ 24 - 1 from rfl, Nat.and_two_pow_sub_one_eq_mod]
  have h4 : 0 ≤ a % ((2 ^ 64 : Nat) : Int) := Int.emod_nonneg _ (by decide)
  have h5 : ((2 ^ 64 : Nat) : Int) = 18446744073709551616 := rfl
  rw [h5] at h4 ⊢
  omega
theorem ap_eq {hi lo u v hi2 lo2 : Int} (h1 : hi2 = hi + u / 16777216 * v + (lo + u % 16777216 * v) / 16777216) (h2 : lo2 = (lo + u % 16777216 * v) % 16777216) : hi2 * 16777216 + lo2 = hi * 16777216 + lo + u * v ∧ 0 ≤ lo2 ∧ lo2 < 16777216 := by
  have e1 : u * v = u / 16777216 * v * 16777216 + u % 16777216 * v := by
    have e2 : u = u / 16777216 * 16777216 + u % 16777216 := by omega
    generalize u / 16777216 = t at *
    generalize u % 16777216 = r at *
    subst e2
    grind
  generalize u / 16777216 * v = tv at *
  generalize u % 16777216 * v = rv at *
  omega
theorem sgn_hl {hi lo t : Int} (h : hi * 16777216 + lo = t) (h0 : 0 ≤ lo) (h1 : lo < 16777216) : (hi ≠ 0 → sgn t = sgn hi) ∧ (hi = 0 → sgn t = sgn lo) := by
  refine ⟨fun h2 => ?_, fun h2 => ?_⟩
  · rcases Int.lt_or_gt_of_ne h2 with h3 | h3
    · rw [sgn_n (by omega), sgn_n h3]
    · rw [sgn_p (by omega), sgn_p (by omega)]
  · rw [show t = lo by omega]
theorem sgn_bd (z : Int) : -1 ≤ sgn z ∧ sgn z ≤ 1 := by rcases sgn_in z with h | h | h <;> omega
theorem sgn_mul_bd (y z : Int) : -1 ≤ sgn y * sgn z ∧ sgn y * sgn z ≤ 1 := by
  rcases sgn_in y with ⟨-, h⟩ | ⟨-, h⟩ | ⟨-, h⟩ <;> rcases sgn_in z with ⟨-, h2⟩ | ⟨-, h2⟩ | ⟨-, h2⟩ <;> rw [h, h2] <;> decide
def cmr2 (side mid : Int) (g : Bool) : Int := if side < 0 then (if g = true then 1 else -1) else if 0 < side then (if mid < 0 then 1 else -1) else if g = true then (if mid < 0 then 1 else 0) else (if 0 < mid then -1 else 0)
def cmr (a b c : Int) (g : Bool) (n d : Int) : Int := cmr2 (sgn a * sgn ((a * n + b * d) * n + c * d * d)) (sgn a * sgn (2 * a * n + b * d)) g
theorem cmr_bd (a b c : Int) (g : Bool) (n d : Int) : -1 ≤ cmr a b c g n d ∧ cmr a b c g n d ≤ 1 := by
  unfold cmr cmr2
  repeat' split
  all_goals omega
def isg (a b c : Int) (g : Bool) (e f x : Int) : Int := if a * f - e * b = 0 then sgn (a * x - e * c) else sgn (a * f - e * b) * cmr a b c g (if 0 < a * f - e * b then -(a * x - e * c) else a * x - e * c) (if 0 < a * f - e * b then a * f - e * b else -(a * f - e * b))
def ilf (a b c : Int) (g : Bool) (e f x : Int) : Bool := if a = 0 then decide (sgn (e * c * c - f * c * b + x * b * b) ≤ 0) else decide (sgn a * isg a b c g e f x ≤ 0)
def lnc (px py rx ry x y : Int) : Int := if decide (y < py) = decide (y < ry) then 0 else if 0 < sgn ((rx - px) * (y - py) - (x - px) * (ry - py)) * sgn (ry - py) then 0 else if y < ry then 1 else -1

set_option maxHeartbeats 4000000 in
set_option maxRecDepth 100000 in
/-- addProduct -/
theorem m_addProduct (l : Launch) (dC : Nat → ClassId) (dI : Nat → Nat → Nat) (ad : Nat → Nat) (cs : Nat → ClassId) (sz : Nat) (ft : Int) (par : Bool) (np nc rs npc hi lo : Int) (X Y : Int → Int) (O : Int → Bool) (E RX RY : Int → Int) (RO : Int → Bool) (PC : Int → Int) (CV : Int → Bool) (a b : Int) (h1 : -1125899906842624 ≤ a ∧ a ≤ 1125899906842624) (h2 : -4294967296 ≤ b ∧ b ≤ 4294967296) (h3 : -33554432 ≤ lo ∧ lo ≤ 33554432) : Met l yM_addProduct wM_addProduct ({ frames := 0, cells := 0, slots := 0, locals := 0 }) (va_Pc [.ref (ad 0), .long (lI a), .long (lI b)] (fun U => U.heap.size = sz ∧ va_P (dC, dI) vwCl (mW ad cs ft par np nc rs npc hi lo X Y O E RX RY RO PC CV) U.heap ∧ va_K (dC, dI) vwCl (mT cs) U ∧ va_D (fun _ => True) (mW ad cs ft par np nc rs npc hi lo X Y O E RX RY RO PC CV))) (va_Qv (fun (u : Int × Int) => u.1 * 16777216 + u.2 = hi * 16777216 + lo + a * b ∧ 0 ≤ u.2 ∧ u.2 < 16777216) (fun (u : Int × Int) t9 => va_P (dC, dI) vwCl (mW ad cs ft par np nc rs npc u.1 u.2 X Y O E RX RY RO PC CV) t9.heap ∧ va_K (dC, dI) vwCl (mT cs) t9 ∧ va_D (va_A (mW ad cs ft par np nc rs npc hi lo X Y O E RX RY RO PC CV) sz) (mW ad cs ft par np nc rs npc u.1 u.2 X Y O E RX RY RO PC CV)) (va_A (mW ad cs ft par np nc rs npc hi lo X Y O E RX RY RO PC CV) sz)) 0 0 (va_A (mW ad cs ft par np nc rs npc hi lo X Y O E RX RY RO PC CV) sz) := by
  refine Met.ofW (cc := cM_addProduct) (maxL := 9) (ret := none) (by decide) rfl ?_
  intro p e s m args below meth c s₁ B hml hv
  obtain ⟨hargs, hsz, hP, hK, hD0⟩ := hv
  have hx := B.exec
  have hb := B.bytes
  have hr := B.returns
  have hts := atoms_spec (ws := wM_addProduct) B.pre
  have hown : s.vm.findClass RM = some m.cls := findClass_of_methodNamed B.named
  have hlocks := B.notSynchronized
  subst hsz
  have hD := hD0.self (sz := s.heap.size)
  generalize hAe : va_A (mW ad cs ft par np nc rs npc hi lo X Y O E RX RY RO PC CV) s.heap.size = A at hD ⊢
  have hA : ∀ q : Nat, s.heap.size ≤ q → A q := fun q h => by rw [← hAe]; exact Or.inr h
  have hS0 : va_S A s.heap s.heap [] := va_S.rf
  refine x_name (fun R Q H locs hR hQ hH hlo => ?_)
  rw [← hH] at hP
  have hS : va_S A s.heap H locs := by rw [hH, hlo]; exact hS0
  refine x_entry hargs (Nat.le_of_ble_eq_true rfl) (fun ls hl => ?_)
  have hl : lv_has ls 9 [(0, .ref (ad 0)), (1, .long (lI a)), (3, .long (lI b))] := hl
  have hP : va_P (dC, dI) vwCl (mW ad cs ft par np nc rs npc hi lo X Y O E RX RY RO PC CV) H := hP
  have b1 := mul_bd 16777216 4294967296 (a := a % 16777216) (b := b) (by omega) (by omega)
  refine lv_lload_n hx hb dM_addProduct_0 rfl (lv_at hl 1 rfl) ?_
  refine lv_bipush (v := iI 24) hx hb dM_addProduct_1 (by decide +kernel) ?_
  refine lv_lshr (v := lI (a / 16777216)) hx hb dM_addProduct_3 (lI_shr (by omega)) ?_
  refine lv_lstore (lv' := [(5, .long (lI (a / 16777216))), (0, .ref (ad 0)), (1, .long (lI a)), (3, .long (lI b))]) hx hb dM_addProduct_4 hl (by decide) rfl (fun ls hl => ?_)
  refine lv_lload_n hx hb dM_addProduct_6 rfl (lv_at hl 2 rfl) ?_
  refine lv_ldc2 (v := 16777215) hx hb hown (hts _ (List.mem_cons_of_mem _ klM_89)) dM_addProduct_7 ?_
  refine xi_top (y := .long (lI 16777215)) (by decide +kernel) ?_
  refine lv_land hx hb dM_addProduct_10 ?_
  refine xi_top (y := .long (lI (a % 16777216))) (by rw [lI_and]) ?_
  refine lv_lstore (lv' := [(7, .long (lI (a % 16777216))), (5, .long (lI (a / 16777216))), (0, .ref (ad 0)), (1, .long (lI a)), (3, .long (lI b))]) hx hb dM_addProduct_11 hl (by decide) rfl (fun ls hl => ?_)
  refine lv_aload_n hx hb dM_addProduct_13 rfl (lv_at hl 2 rfl) ?_
  refine lv_aload_n hx hb dM_addProduct_14 rfl (lv_at hl 2 rfl) ?_
  refine va_get (D := (dC, dI)) (ci := 3) (v := .long (lI hi)) (C := RM) (T := TM) (N := 17) hx hb hts (fun w9 h9 => List.mem_cons_of_mem _ (inM w9 h9)) hown hK hP 0 rfl rfl 15 (by decide) (hts _ (List.mem_cons_of_mem _ flM_91)) (fun _ h9 => h9) rfl dM_addProduct_15 ?_
  refine lv_lload hx hb dM_addProduct_18 (lv_at hl 1 rfl) ?_
  refine lv_lload_n hx hb dM_addProduct_20 rfl (lv_at hl 4 rfl) ?_
  refine xl_mul (z := (a / 16777216) * b) hx hb dM_addProduct_21 rfl ?_
  refine xl_add (z := hi + ((a / 16777216) * b)) hx hb dM_addProduct_22 rfl ?_
  refine va_put (D := (dC, dI)) (ci := 3) (v := .long (lI (hi + ((a / 16777216) * b)))) (ty := .long) (C := RM) (T := TM) (N := 17) hx hb hts (fun w9 h9 => List.mem_cons_of_mem _ (inM w9 h9)) tyM tyM_ok nmM hown hK hP hD hS 0 rfl rfl 15 (by decide) (hts _ (List.mem_cons_of_mem _ flM_91)) (fun _ h9 => h9) rfl (by decide +kernel) rfl rfl (Nat.le_of_ble_eq_true rfl) dM_addProduct_23 (fun H locs hP hD hS => ?_)
  have hP : va_P (dC, dI) vwCl (mW ad cs ft par np nc rs npc (hi + ((a / 16777216) * b)) lo X Y O E RX RY RO PC CV) H := hP
  have hD : va_D A (mW ad cs ft par np nc rs npc (hi + ((a / 16777216) * b)) lo X Y O E RX RY RO PC CV) := hD
  refine lv_aload_n hx hb dM_addProduct_26 rfl (lv_at hl 2 rfl) ?_
  refine lv_aload_n hx hb dM_addProduct_27 rfl (lv_at hl 2 rfl) ?_
  refine va_get (D := (dC, dI)) (ci := 3) (v := .long (lI lo)) (C := RM) (T := TM) (N := 17) hx hb hts (fun w9 h9 => List.mem_cons_of_mem _ (inM w9 h9)) hown hK hP 0 rfl rfl 16 (by decide) (hts _ (List.mem_cons_of_mem _ flM_95)) (fun _ h9 => h9) rfl dM_addProduct_28 ?_
  refine lv_lload hx hb dM_addProduct_31 (lv_at hl 0 rfl) ?_
  refine lv_lload_n hx hb dM_addProduct_33 rfl (lv_at hl 4 rfl) ?_
  refine xl_mul (z := (a % 16777216) * b) hx hb dM_addProduct_34 rfl ?_
  refine xl_add (z := lo + ((a % 16777216) * b)) hx hb dM_addProduct_35 rfl ?_
  refine va_put (D := (dC, dI)) (ci := 3) (v := .long (lI (lo + ((a % 16777216) * b)))) (ty := .long) (C := RM) (T := TM) (N := 17) hx hb hts (fun w9 h9 => List.mem_cons_of_mem _ (inM w9 h9)) tyM tyM_ok nmM hown hK hP hD hS 0 rfl rfl 16 (by decide) (hts _ (List.mem_cons_of_mem _ flM_95)) (fun _ h9 => h9) rfl (by decide +kernel) rfl rfl (Nat.le_of_ble_eq_true rfl) dM_addProduct_36 (fun H locs hP hD hS => ?_)
  have hP : va_P (dC, dI) vwCl (mW ad cs ft par np nc rs npc (hi + ((a / 16777216) * b)) (lo + ((a % 16777216) * b)) X Y O E RX RY RO PC CV) H := hP
  have hD : va_D A (mW ad cs ft par np nc rs npc (hi + ((a / 16777216) * b)) (lo + ((a % 16777216) * b)) X Y O E RX RY RO PC CV) := hD
  refine lv_aload_n hx hb dM_addProduct_39 rfl (lv_at hl 2 rfl) ?_
  refine lv_aload_n hx hb dM_addProduct_40 rfl (lv_at hl 2 rfl) ?_
  refine va_get (D := (dC, dI)) (ci := 3) (v := .long (lI (hi + ((a / 16777216) * b)))) (C := RM) (T := TM) (N := 17) hx hb hts (fun w9 h9 => List.mem_cons_of_mem _ (inM w9 h9)) hown hK hP 0 rfl rfl 15 (by decide) (hts _ (List.mem_cons_of_mem _ flM_91)) (fun _ h9 => h9) rfl dM_addProduct_41 ?_
  refine lv_aload_n hx hb dM_addProduct_44 rfl (lv_at hl 2 rfl) ?_
  refine va_get (D := (dC, dI)) (ci := 3) (v := .long (lI (lo + ((a % 16777216) * b)))) (C := RM) (T := TM) (N := 17) hx hb hts (fun w9 h9 => List.mem_cons_of_mem _ (inM w9 h9)) hown hK hP 0 rfl rfl 16 (by decide) (hts _ (List.mem_cons_of_mem _ flM_95)) (fun _ h9 => h9) rfl dM_addProduct_45 ?_
  refine lv_bipush (v := iI 24) hx hb dM_addProduct_48 (by decide +kernel) ?_
  refine lv_lshr (v := lI ((lo + ((a % 16777216) * b)) / 16777216)) hx hb dM_addProduct_50 (lI_shr (by omega)) ?_
  refine xl_add (z := (hi + ((a / 16777216) * b)) + ((lo + ((a % 16777216) * b)) / 16777216)) hx hb dM_addProduct_51 rfl ?_
  refine va_put (D := (dC, dI)) (ci := 3) (v := .long (lI ((hi + ((a / 16777216) * b)) + ((lo + ((a % 16777216) * b)) / 16777216)))) (ty := .long) (C := RM) (T := TM) (N := 17) hx hb hts (fun w9 h9 => List.mem_cons_of_mem _ (inM w9 h9)) tyM tyM_ok nmM hown hK hP hD hS 0 rfl rfl 15 (by decide) (hts _ (List.mem_cons_of_mem _ flM_91)) (fun _ h9 => h9) rfl (by decide +kernel) rfl rfl (Nat.le_of_ble_eq_true rfl) dM_addProduct_52 (fun H locs hP hD hS => ?_)
  have hP : va_P (dC, dI) vwCl (mW ad cs ft par np nc rs npc ((hi + ((a / 16777216) * b)) + ((lo + ((a % 16777216) * b)) / 16777216)) (lo + ((a % 16777216) * b)) X Y O E RX RY RO PC CV) H := hP
  have hD : va_D A (mW ad cs ft par np nc rs npc ((hi + ((a / 16777216) * b)) + ((lo + ((a % 16777216) * b)) / 16777216)) (lo + ((a % 16777216) * b)) X Y O E RX RY RO PC CV) := hD
  refine lv_aload_n hx hb dM_addProduct_55 rfl (lv_at hl 2 rfl) ?_
  refine lv_aload_n hx hb dM_addProduct_56 rfl (lv_at hl 2 rfl) ?_
  refine va_get (D := (dC, dI)) (ci := 3) (v := .long (lI (lo + ((a % 16777216) * b)))) (C := RM) (T := TM) (N := 17) hx hb hts (fun w9 h9 => List.mem_cons_of_mem _ (inM w9 h9)) hown hK hP 0 rfl rfl 16 (by decide) (hts _ (List.mem_cons_of_mem _ flM_95)) (fun _ h9 => h9) rfl dM_addProduct_57 ?_
  refine lv_ldc2 (v := 16777215) hx hb hown (hts _ (List.mem_cons_of_mem _ klM_89)) dM_addProduct_60 ?_
  refine xi_top (y := .long (lI 16777215)) (by decide +kernel) ?_
  refine lv_land hx hb dM_addProduct_63 ?_
  refine xi_top (y := .long (lI ((lo + ((a % 16777216) * b)) % 16777216))) (by rw [lI_and]) ?_
  refine va_put (D := (dC, dI)) (ci := 3) (v := .long (lI ((lo + ((a % 16777216) * b)) % 16777216))) (ty := .long) (C := RM) (T := TM) (N := 17) hx hb hts (fun w9 h9 => List.mem_cons_of_mem _ (inM w9 h9)) tyM tyM_ok nmM hown hK hP hD hS 0 rfl rfl 16 (by decide) (hts _ (List.mem_cons_of_mem _ flM_95)) (fun _ h9 => h9) rfl (by decide +kernel) rfl rfl (Nat.le_of_ble_eq_true rfl) dM_addProduct_64 (fun H locs hP hD hS => ?_)
  have hP : va_P (dC, dI) vwCl (mW ad cs ft par np nc rs npc ((hi + ((a / 16777216) * b)) + ((lo + ((a % 16777216) * b)) / 16777216)) ((lo + ((a % 16777216) * b)) % 16777216) X Y O E RX RY RO PC CV) H := hP
  have hD : va_D A (mW ad cs ft par np nc rs npc ((hi + ((a / 16777216) * b)) + ((lo + ((a % 16777216) * b)) / 16777216)) ((lo + ((a % 16777216) * b)) % 16777216) X Y O E RX RY RO PC CV) := hD
  subst hQ
  exact W.vret hx hb hr (fun t9 ht9 hW9 => ⟨⟨((hi + ((a / 16777216) * b)) + ((lo + ((a % 16777216) * b)) / 16777216), (lo + ((a % 16777216) * b)) % 16777216), rfl, (ap_eq rfl rfl), by rw [ht9]; exact hP, va_K.moved hW9.alike hK, hD⟩, hS.F ht9⟩) hS.2.2 dM_addProduct_67
set_option maxHeartbeats 4000000 in
set_option maxRecDepth 100000 in
/-- signAt -/
theorem m_signAt (l : Launch) (dC : Nat → ClassId) (dI : Nat → Nat → Nat) (ad : Nat → Nat) (cs : Nat → ClassId) (sz : Nat) (ft : Int) (par : Bool) (np nc rs npc hi lo : Int) (X Y : Int → Int) (O : Int → Bool) (E RX RY : Int → Int) (RO : Int → Bool) (PC : Int → Int) (CV : Int → Bool) (a b k0 n d : Int) (h1 : -32768 ≤ a ∧ a ≤ 32768) (h2 : -32768 ≤ b ∧ b ≤ 32768) (h3 : -32768 ≤ k0 ∧ k0 ≤ 32768) (h4 : -4294967296 ≤ n ∧ n ≤ 4294967296) (h5 : 0 < d ∧ d ≤ 4294967296) : Met l yM_signAt wM_signAt ({ frames := 1, cells := 0, slots := 0, locals := 28 }) (va_Pc [.ref (ad 0), .long (lI a), .long (lI b), .long (lI k0), .long (lI n), .long (lI d)] (fun U => U.heap.size = sz ∧ va_P (dC, dI) vwCl (mW ad cs ft par np nc rs npc hi lo X Y O E RX RY RO PC CV) U.heap ∧ va_K (dC, dI) vwCl (mT cs) U ∧ va_D (fun _ => True) (mW ad cs ft par np nc rs npc hi lo X Y O E RX RY RO PC CV))) (va_Qi (fun (r : Int32) (u : Int × Int) => r = iI (sgn ((a * n + b * d) * n + k0 * d * d)) ∧ True) (fun (u : Int × Int) t9 => va_P (dC, dI) vwCl (mW ad cs ft par np nc rs npc u.1 u.2 X Y O E RX RY RO PC CV) t9.heap ∧ va_K (dC, dI) vwCl (mT cs) t9 ∧ va_D (va_A (mW ad cs ft par np nc rs npc hi lo X Y O E RX RY RO PC CV) sz) (mW ad cs ft par np nc rs npc u.1 u.2 X Y O E RX RY RO PC CV)) (va_A (mW ad cs ft par np nc rs npc hi lo X Y O E RX RY RO PC CV) sz)) 0 0 (va_A (mW ad cs ft par np nc rs npc hi lo X Y O E RX RY RO PC CV) sz) := by
  refine Met.ofW (cc := cM_signAt) (maxL := 11) (ret := (some .int)) (by decide) rfl ?_
  intro p e s m args below meth c s₁ B hml hv
  obtain ⟨hargs, hsz, hP, hK, hD0⟩ := hv
  have hx := B.exec
  have hb := B.bytes
  have hr := B.returns
  have hts := atoms_spec (ws := wM_signAt) B.pre
  have hown : s.vm.findClass RM = some m.cls := findClass_of_methodNamed B.named
  have hlocks := B.notSynchronized
  subst hsz
  have hD := hD0.self (sz := s.heap.size)
  generalize hAe : va_A (mW ad cs ft par np nc rs npc hi lo X Y O E RX RY RO PC CV) s.heap.size = A at hD ⊢
  have hA : ∀ q : Nat, s.heap.size ≤ q → A q := fun q h => by rw [← hAe]; exact Or.inr h
  have hS0 : va_S A s.heap s.heap [] := va_S.rf
  refine x_name (fun R Q H locs hR hQ hH hlo => ?_)
  rw [← hH] at hP
  have hS : va_S A s.heap H locs := by rw [hH, hlo]; exact hS0
  refine x_entry hargs (Nat.le_of_ble_eq_true rfl) (fun ls hl => ?_)
  have hl : lv_has ls 11 [(0, .ref (ad 0)), (1, .long (lI a)), (3, .long (lI b)), (5, .long (lI k0)), (7, .long (lI n)), (9, .long (lI d))] := hl
  have hP : va_P (dC, dI) vwCl (mW ad cs ft par np nc rs npc hi lo X Y O E RX RY RO PC CV) H := hP
  have b1 := mul_bd 32768 4294967296 (a := a) (b := n) (by omega) (by omega)
  have b2 := mul_bd 32768 4294967296 (a := b) (b := d) (by omega) (by omega)
  have b3 := mul_bd 32768 4294967296 (a := k0) (b := d) (by omega) (by omega)
  have b4 := mul_bd 1125899906842624 4294967296 (a := a * n + b * d) (b := n) (by omega) (by omega)
  have b5 := mul_bd 1125899906842624 4294967296 (a := k0 * d) (b := d) (by omega) (by omega)
  refine lv_aload_n hx hb dM_signAt_0 rfl (lv_at hl 0 rfl) ?_
  refine lv_lconst (v := lI 0) hx hb dM_signAt_1 (by decide +kernel) ?_
  refine va_put (D := (dC, dI)) (ci := 3) (v := .long (lI 0)) (ty := .long) (C := RM) (T := TM) (N := 17) hx hb hts (fun w9 h9 => List.mem_cons_of_mem _ (inM w9 h9)) tyM tyM_ok nmM hown hK hP hD hS 0 rfl rfl 15 (by decide) (hts _ (List.mem_cons_of_mem _ flM_91)) (fun _ h9 => h9) rfl (by decide +kernel) rfl rfl (Nat.le_of_ble_eq_true rfl) dM_signAt_2 (fun H locs hP hD hS => ?_)
  have hP : va_P (dC, dI) vwCl (mW ad cs ft par np nc rs npc 0 lo X Y O E RX RY RO PC CV) H := hP
  have hD : va_D A (mW ad cs ft par np nc rs npc 0 lo X Y O E RX RY RO PC CV) := hD
  refine lv_aload_n hx hb dM_signAt_5 rfl (lv_at hl 0 rfl) ?_
  refine lv_lconst (v := lI 0) hx hb dM_signAt_6 (by decide +kernel) ?_
  refine va_put (D := (dC, dI)) (ci := 3) (v := .long (lI 0)) (ty := .long) (C := RM) (T := TM) (N := 17) hx hb hts (fun w9 h9 => List.mem_cons_of_mem _ (inM w9 h9)) tyM tyM_ok nmM hown hK hP hD hS 0 rfl rfl 16 (by decide) (hts _ (List.mem_cons_of_mem _ flM_95)) (fun _ h9 => h9) rfl (by decide +kernel) rfl rfl (Nat.le_of_ble_eq_true rfl) dM_signAt_7 (fun H locs hP hD hS => ?_)
  have hP : va_P (dC, dI) vwCl (mW ad cs ft par np nc rs npc 0 0 X Y O E RX RY RO PC CV) H := hP
  have hD : va_D A (mW ad cs ft par np nc rs npc 0 0 X Y O E RX RY RO PC CV) := hD
  refine lv_aload_n hx hb dM_signAt_10 rfl (lv_at hl 0 rfl) ?_
  refine lv_lload_n hx hb dM_signAt_11 rfl (lv_at hl 1 rfl) ?_
  refine lv_lload hx hb dM_signAt_12 (lv_at hl 4 rfl) ?_
  refine xl_mul (z := a * n) hx hb dM_signAt_14 rfl ?_
  refine lv_lload_n hx hb dM_signAt_15 rfl (lv_at hl 2 rfl) ?_
  refine lv_lload hx hb dM_signAt_16 (lv_at hl 5 rfl) ?_
  refine xl_mul (z := b * d) hx hb dM_signAt_18 rfl ?_
  refine xl_add (z := (a * n) + (b * d)) hx hb dM_signAt_19 rfl ?_
  refine lv_lload hx hb dM_signAt_20 (lv_at hl 4 rfl) ?_
  have hFc := xw_free hD hS hA
  refine va_callv (va_runV (As := [.long (lI ((a * n) + (b * d))), .long (lI n)]) (rest := []) ⟨hx, hb, hml, hown, hts⟩ (m_addProduct l dC dI ad cs H.size ft par np nc rs npc 0 0 X Y O E RX RY RO PC CV (a * n + b * d) n (by omega) (by omega) (by omega)) (cwV 2 hts (tb_V mlM_98 imM_addProduct seM_addProduct iniM coM_addProduct) rfl rfl rfl (by decide +kernel) (by subst hR; exact ⟨Nat.le_of_ble_eq_true rfl, Nat.le_of_ble_eq_true rfl⟩)) ⟨fun a9 U9 g9 mk9 q9 => by obtain ⟨q0, q1, qP, qK, qD⟩ := q9; exact ⟨q0, q1, qP, va_K.moved (u := U9) (U := U9.calling g9 mk9 a9) (Vm.Alike.refl U9.vm) qK, qD⟩, va_recv hK hP (ci := 3) (q0 := 0) rfl rfl, fun U hU hW => ⟨rfl, by rw [hU], by rw [hU]; exact hP, va_K.moved hW.alike hK, hD.weaken (fun _ _ _ _ => trivial)⟩⟩ rfl rfl hl.1 rfl (lv_room (Nat.le_of_ble_eq_true rfl)) dM_signAt_22 ⟨by subst hR; exact Nat.le_of_ble_eq_true rfl, by subst hR; exact Nat.le_of_ble_eq_true rfl⟩) hS (fun q9 _ h9 => hFc q9 h9) hFc (fun u_22 t9 H1 locs1 ht9 hvm9 hw_22 hB9 hz9 hk9 hS1 => ?_)
  obtain ⟨hP1, hK1, hD1⟩ := hB9
  rw [ht9] at hP1
  have hP : va_P (dC, dI) vwCl (mW ad cs ft par np nc rs npc u_22.1 u_22.2 X Y O E RX RY RO PC CV) H1 := hP1
  have hD : va_D A (mW ad cs ft par np nc rs npc u_22.1 u_22.2 X Y O E RX RY RO PC CV) := hD1.weaken (fun _ _ _ h9 => hFc _ h9)
  clear hP1 hD1 hK1 hFc
  have hS := hS1
  clear hS1 hz9 hk9 ht9 hvm9
  revert hP hD hS; generalize H1 = H; generalize locs1 = locs; intro hP hD hS
  refine lv_aload_n hx hb dM_signAt_25 rfl (lv_at hl 0 rfl) ?_
  refine lv_lload hx hb dM_signAt_26 (lv_at hl 3 rfl) ?_
  refine lv_lload hx hb dM_signAt_28 (lv_at hl 5 rfl) ?_
  refine xl_mul (z := k0 * d) hx hb dM_signAt_30 rfl ?_
  refine lv_lload hx hb dM_signAt_31 (lv_at hl 5 rfl) ?_
  have hFc := xw_free hD hS hA
  refine va_callv (va_runV (As := [.long (lI (k0 * d)), .long (lI d)]) (rest := []) ⟨hx, hb, hml, hown, hts⟩ (m_addProduct l dC dI ad cs H.size ft par np nc rs npc u_22.1 u_22.2 X Y O E RX RY RO PC CV (k0 * d) d (by omega) (by omega) (by omega)) (cwV 2 hts (tb_V mlM_98 imM_addProduct seM_addProduct iniM coM_addProduct) rfl rfl rfl (by decide +kernel) (by subst hR; exact ⟨Nat.le_of_ble_eq_true rfl, Nat.le_of_ble_eq_true rfl⟩)) ⟨fun a9 U9 g9 mk9 q9 => by obtain ⟨q0, q1, qP, qK, qD⟩ := q9; exact ⟨q0, q1, qP, va_K.moved (u := U9) (U := U9.calling g9 mk9 a9) (Vm.Alike.refl U9.vm) qK, qD⟩, va_recv hK hP (ci := 3) (q0 := 0) rfl rfl, fun U hU hW => ⟨rfl, by rw [hU], by rw [hU]; exact hP, va_K.moved hW.alike hK, hD.weaken (fun _ _ _ _ => trivial)⟩⟩ rfl rfl hl.1 rfl (lv_room (Nat.le_of_ble_eq_true rfl)) dM_signAt_33 ⟨by subst hR; exact Nat.le_of_ble_eq_true rfl, by subst hR; exact Nat.le_of_ble_eq_true rfl⟩) hS (fun q9 _ h9 => hFc q9 h9) hFc (fun u_33 t9 H1 locs1 ht9 hvm9 hw_33 hB9 hz9 hk9 hS1 => ?_)
  obtain ⟨hP1, hK1, hD1⟩ := hB9
  rw [ht9] at hP1
  have hP : va_P (dC, dI) vwCl (mW ad cs ft par np nc rs npc u_33.1 u_33.2 X Y O E RX RY RO PC CV) H1 := hP1
  have hD : va_D A (mW ad cs ft par np nc rs npc u_33.1 u_33.2 X Y O E RX RY RO PC CV) := hD1.weaken (fun _ _ _ h9 => hFc _ h9)
  clear hP1 hD1 hK1 hFc
  have hS := hS1
  clear hS1 hz9 hk9 ht9 hvm9
  revert hP hD hS; generalize H1 = H; generalize locs1 = locs; intro hP hD hS
  have b6 := sgn_hl (hi := u_33.1) (lo := u_33.2) (t := (a * n + b * d) * n + k0 * d * d) (by omega) hw_33.2.1 hw_33.2.2
  have cut_62_1 : ∀ (v : Int) (ls : Array Slot), (v = sgn ((a * n + b * d) * n + k0 * d * d)) → lv_has ls 11 [(0, .ref (ad 0)), (1, .long (lI a)), (3, .long (lI b)), (5, .long (lI k0)), (7, .long (lI n)), (9, .long (lI d))] → W p l e R s m args below meth c H locs 0 0 Q (F0 m 62 ls [.int (iI v)]) := by
    intro v ls hv hl
    subst hQ
    exact W.iret (v := (iI v)) hx hb hr (fun t9 ht9 hW9 => ⟨⟨_, u_33, rfl, (⟨by rw [hv], trivial⟩), by rw [ht9]; exact hP, va_K.moved hW9.alike hK, hD⟩, hS.F ht9⟩) hS.2.2 dM_signAt_62
  refine lv_aload_n hx hb dM_signAt_36 rfl (lv_at hl 0 rfl) ?_
  refine va_get (D := (dC, dI)) (ci := 3) (v := .long (lI u_33.1)) (C := RM) (T := TM) (N := 17) hx hb hts (fun w9 h9 => List.mem_cons_of_mem _ (inM w9 h9)) hown hK hP 0 rfl rfl 15 (by decide) (hts _ (List.mem_cons_of_mem _ flM_91)) (fun _ h9 => h9) rfl dM_signAt_37 ?_
  refine lv_lconst (v := lI 0) hx hb dM_signAt_40 (by decide +kernel) ?_
  refine xl_eq (tgt := 55) hx hb dM_signAt_41 dM_signAt_42 (by decide) (by omega) (by omega) (fun c_41 => ?_) (fun c_41 => ?_)
  · skip
    refine lv_aload_n hx hb dM_signAt_55 rfl (lv_at hl 0 rfl) ?_
    refine va_get (D := (dC, dI)) (ci := 3) (v := .long (lI u_33.2)) (C := RM) (T := TM) (N := 17) hx hb hts (fun w9 h9 => List.mem_cons_of_mem _ (inM w9 h9)) hown hK hP 0 rfl rfl 16 (by decide) (hts _ (List.mem_cons_of_mem _ flM_95)) (fun _ h9 => h9) rfl dM_signAt_56 ?_
    refine vp_callSi (W.runS (As := [.long (lI u_33.2)]) (rest := []) ⟨hx, hb, hml, hown, hts⟩ (m_signOf l dC dI u_33.2 (by omega)) (va_cwS 1 hts (tb_S mlM_102 smM_signOf iniM coM_signOf) rfl rfl rfl (by decide +kernel) (by subst hR; exact ⟨Nat.le_of_ble_eq_true rfl, Nat.le_of_ble_eq_true rfl⟩)) ⟨fun a9 U9 g9 mk9 q9 => q9, fun U hU hW => ⟨rfl, trivial⟩⟩ rfl rfl hl.1 rfl (lv_room (Nat.le_of_ble_eq_true rfl)) dM_signAt_59 ⟨by subst hR; exact Nat.zero_le _, by subst hR; exact Nat.zero_le _⟩) (fun r_59 hw_59 => ?_)
    subst hw_59
    exact cut_62_1 (sgn u_33.2) _ (by rw [b6.2 c_41]) (lv_sub hl [0, 1, 2, 3, 4, 5] rfl)
  · skip
    refine lv_aload_n hx hb dM_signAt_45 rfl (lv_at hl 0 rfl) ?_
    refine va_get (D := (dC, dI)) (ci := 3) (v := .long (lI u_33.1)) (C := RM) (T := TM) (N := 17) hx hb hts (fun w9 h9 => List.mem_cons_of_mem _ (inM w9 h9)) hown hK hP 0 rfl rfl 15 (by decide) (hts _ (List.mem_cons_of_mem _ flM_91)) (fun _ h9 => h9) rfl dM_signAt_46 ?_
    refine vp_callSi (W.runS (As := [.long (lI u_33.1)]) (rest := []) ⟨hx, hb, hml, hown, hts⟩ (m_signOf l dC dI u_33.1 (by omega)) (va_cwS 1 hts (tb_S mlM_102 smM_signOf iniM coM_signOf) rfl rfl rfl (by decide +kernel) (by subst hR; exact ⟨Nat.le_of_ble_eq_true rfl, Nat.le_of_ble_eq_true rfl⟩)) ⟨fun a9 U9 g9 mk9 q9 => q9, fun U hU hW => ⟨rfl, trivial⟩⟩ rfl rfl hl.1 rfl (lv_room (Nat.le_of_ble_eq_true rfl)) dM_signAt_49 ⟨by subst hR; exact Nat.zero_le _, by subst hR; exact Nat.zero_le _⟩) (fun r_49 hw_49 => ?_)
    subst hw_49
    refine lv_goto (tgt := 62) hx hb dM_signAt_52 (by decide) ?_
    exact cut_62_1 (sgn u_33.1) _ (by rw [b6.1 c_41]) (lv_sub hl [0, 1, 2, 3, 4, 5] rfl)
set_option maxHeartbeats 4000000 in
set_option maxRecDepth 100000 in
/-- compareRoot -/
theorem m_compareRoot (l : Launch) (dC : Nat → ClassId) (dI : Nat → Nat → Nat) (ad : Nat → Nat) (cs : Nat → ClassId) (sz : Nat) (ft : Int) (par : Bool) (np nc rs npc hi lo : Int) (X Y : Int → Int) (O : Int → Bool) (E RX RY : Int → Int) (RO : Int → Bool) (PC : Int → Int) (CV : Int → Bool) (a b k0 : Int) (gr : Bool) (n d : Int) (h1 : -32768 ≤ a ∧ a ≤ 32768) (h2 : -32768 ≤ b ∧ b ≤ 32768) (h3 : -32768 ≤ k0 ∧ k0 ≤ 32768) (h4 : -4294967296 ≤ n ∧ n ≤ 4294967296) (h5 : 0 < d ∧ d ≤ 4294967296) : Met l yM_compareRoot wM_compareRoot ({ frames := 2, cells := 0, slots := 0, locals := 58 }) (va_Pc [.ref (ad 0), .long (lI a), .long (lI b), .long (lI k0), .int (iI (bz gr)), .long (lI n), .long (lI d)] (fun U => U.heap.size = sz ∧ va_P (dC, dI) vwCl (mW ad cs ft par np nc rs npc hi lo X Y O E RX RY RO PC CV) U.heap ∧ va_K (dC, dI) vwCl (mT cs) U ∧ va_D (fun _ => True) (mW ad cs ft par np nc rs npc hi lo X Y O E RX RY RO PC CV))) (va_Qi (fun (r : Int32) (u : Int × Int) => r = iI (cmr a b k0 gr n d) ∧ True) (fun (u : Int × Int) t9 => va_P (dC, dI) vwCl (mW ad cs ft par np nc rs npc u.1 u.2 X Y O E RX RY RO PC CV) t9.heap ∧ va_K (dC, dI) vwCl (mT cs) t9 ∧ va_D (va_A (mW ad cs ft par np nc rs npc hi lo X Y O E RX RY RO PC CV) sz) (mW ad cs ft par np nc rs npc u.1 u.2 X Y O E RX RY RO PC CV)) (va_A (mW ad cs ft par np nc rs npc hi lo X Y O E RX RY RO PC CV) sz)) 0 0 (va_A (mW ad cs ft par np nc rs npc hi lo X Y O E RX RY RO PC CV) sz) := by
  refine Met.ofW (cc := cM_compareRoot) (maxL := 14) (ret := (some .int)) (by decide) rfl ?_
  intro p e s m args below meth c s₁ B hml hv
  obtain ⟨hargs, hsz, hP, hK, hD0⟩ := hv
  have hx := B.exec
  have hb := B.bytes
  have hr := B.returns
  have hts := atoms_spec (ws := wM_compareRoot) B.pre
  have hown : s.vm.findClass RM = some m.cls := findClass_of_methodNamed B.named
  have hlocks := B.notSynchronized
  subst hsz
  have hD := hD0.self (sz := s.heap.size)
  generalize hAe : va_A (mW ad cs ft par np nc rs npc hi lo X Y O E RX RY RO PC CV) s.heap.size = A at hD ⊢
  have hA : ∀ q : Nat, s.heap.size ≤ q → A q := fun q h => by rw [← hAe]; exact Or.inr h
  have hS0 : va_S A s.heap s.heap [] := va_S.rf
  refine x_name (fun R Q H locs hR hQ hH hlo => ?_)
  rw [← hH] at hP
  have hS : va_S A s.heap H locs := by rw [hH, hlo]; exact hS0
  refine x_entry hargs (Nat.le_of_ble_eq_true rfl) (fun ls hl => ?_)
  have hl : lv_has ls 14 [(0, .ref (ad 0)), (1, .long (lI a)), (3, .long (lI b)), (5, .long (lI k0)), (7, .int (iI (bz gr))), (8, .long (lI n)), (10, .long (lI d))] := hl
  have hP : va_P (dC, dI) vwCl (mW ad cs ft par np nc rs npc hi lo X Y O E RX RY RO PC CV) H := hP
  have b1 := mul_bd 65536 4294967296 (a := 2 * a) (b := n) (by omega) (by omega)
  have b2 := mul_bd 32768 4294967296 (a := b) (b := d) (by omega) (by omega)
  obtain ⟨sd, hsd⟩ : ∃ z, z = sgn a * sgn ((a * n + b * d) * n + k0 * d * d) := ⟨_, rfl⟩
  obtain ⟨md, hmd⟩ : ∃ z, z = sgn a * sgn (2 * a * n + b * d) := ⟨_, rfl⟩
  have b3 := sgn_mul_bd a ((a * n + b * d) * n + k0 * d * d)
  have b4 := sgn_mul_bd a (2 * a * n + b * d)
  rw [← hsd] at b3
  rw [← hmd] at b4
  have e9 : cmr a b k0 gr n d = cmr2 sd md gr := by unfold cmr; rw [hsd, hmd]
  refine lv_lload_n hx hb dM_compareRoot_0 rfl (lv_at hl 1 rfl) ?_
  refine vp_callSi (W.runS (As := [.long (lI a)]) (rest := []) ⟨hx, hb, hml, hown, hts⟩ (m_signOf l dC dI (a) (by omega)) (va_cwS 1 hts (tb_S mlM_102 smM_signOf iniM coM_signOf) rfl rfl rfl (by decide +kernel) (by subst hR; exact ⟨Nat.le_of_ble_eq_true rfl, Nat.le_of_ble_eq_true rfl⟩)) ⟨fun a9 U9 g9 mk9 q9 => q9, fun U hU hW => ⟨rfl, trivial⟩⟩ rfl rfl hl.1 rfl (lv_room (Nat.le_of_ble_eq_true rfl)) dM_compareRoot_1 ⟨by subst hR; exact Nat.zero_le _, by subst hR; exact Nat.zero_le _⟩) (fun r_1 hw_1 => ?_)
  subst hw_1
  refine lv_aload_n hx hb dM_compareRoot_4 rfl (lv_at hl 0 rfl) ?_
  refine lv_lload_n hx hb dM_compareRoot_5 rfl (lv_at hl 1 rfl) ?_
  refine lv_lload_n hx hb dM_compareRoot_6 rfl (lv_at hl 2 rfl) ?_
  refine lv_lload hx hb dM_compareRoot_7 (lv_at hl 3 rfl) ?_
  refine lv_lload hx hb dM_compareRoot_9 (lv_at hl 5 rfl) ?_
  refine lv_lload hx hb dM_compareRoot_11 (lv_at hl 6 rfl) ?_
  have hFc := xw_free hD hS hA
  refine va_calli (va_runV (As := [.long (lI a), .long (lI b), .long (lI k0), .long (lI n), .long (lI d)]) (rest := [.int (iI (sgn a))]) ⟨hx, hb, hml, hown, hts⟩ (m_signAt l dC dI ad cs H.size ft par np nc rs npc hi lo X Y O E RX RY RO PC CV a b k0 n d h1 h2 h3 h4 h5) (cwV 5 hts (tb_V mlM_106 imM_signAt seM_signAt iniM coM_signAt) rfl rfl rfl (by decide +kernel) (by subst hR; exact ⟨Nat.le_of_ble_eq_true rfl, Nat.le_of_ble_eq_true rfl⟩)) ⟨fun a9 U9 g9 mk9 q9 => by obtain ⟨q0, q1, qP, qK, qD⟩ := q9; exact ⟨q0, q1, qP, va_K.moved (u := U9) (U := U9.calling g9 mk9 a9) (Vm.Alike.refl U9.vm) qK, qD⟩, va_recv hK hP (ci := 3) (q0 := 0) rfl rfl, fun U hU hW => ⟨rfl, by rw [hU], by rw [hU]; exact hP, va_K.moved hW.alike hK, hD.weaken (fun _ _ _ _ => trivial)⟩⟩ rfl rfl hl.1 rfl (lv_room (Nat.le_of_ble_eq_true rfl)) dM_compareRoot_13 ⟨by subst hR; exact Nat.le_of_ble_eq_true rfl, by subst hR; exact Nat.le_of_ble_eq_true rfl⟩) hS (fun q9 _ h9 => hFc q9 h9) hFc (fun r_13 u_13 t9 H1 locs1 ht9 hvm9 hw_13 hB9 hz9 hk9 hS1 => ?_)
  obtain ⟨hP1, hK1, hD1⟩ := hB9
  rw [ht9] at hP1
  have hP : va_P (dC, dI) vwCl (mW ad cs ft par np nc rs npc u_13.1 u_13.2 X Y O E RX RY RO PC CV) H1 := hP1
  have hD : va_D A (mW ad cs ft par np nc rs npc u_13.1 u_13.2 X Y O E RX RY RO PC CV) := hD1.weaken (fun _ _ _ h9 => hFc _ h9)
  clear hP1 hD1 hK1 hFc
  have hS := hS1
  clear hS1 hz9 hk9 ht9 hvm9
  revert hP hD hS; generalize H1 = H; generalize locs1 = locs; intro hP hD hS
  obtain ⟨hr_13, hw_13⟩ := hw_13; subst hr_13
  refine xi_mul (z := sd) hx hb dM_compareRoot_16 (hsd.symm) ?_
  refine lv_istore (lv' := [(12, .int (iI sd)), (0, .ref (ad 0)), (1, .long (lI a)), (3, .long (lI b)), (5, .long (lI k0)), (7, .int (iI (bz gr))), (8, .long (lI n)), (10, .long (lI d))]) hx hb dM_compareRoot_17 hl (by decide) rfl (fun ls hl => ?_)
  refine lv_lload_n hx hb dM_compareRoot_19 rfl (lv_at hl 2 rfl) ?_
  refine vp_callSi (W.runS (As := [.long (lI a)]) (rest := []) ⟨hx, hb, hml, hown, hts⟩ (m_signOf l dC dI (a) (by omega)) (va_cwS 1 hts (tb_S mlM_102 smM_signOf iniM coM_signOf) rfl rfl rfl (by decide +kernel) (by subst hR; exact ⟨Nat.le_of_ble_eq_true rfl, Nat.le_of_ble_eq_true rfl⟩)) ⟨fun a9 U9 g9 mk9 q9 => q9, fun U hU hW => ⟨rfl, trivial⟩⟩ rfl rfl hl.1 rfl (lv_room (Nat.le_of_ble_eq_true rfl)) dM_compareRoot_20 ⟨by subst hR; exact Nat.zero_le _, by subst hR; exact Nat.zero_le _⟩) (fun r_20 hw_20 => ?_)
  subst hw_20
  refine lv_ldc2 (v := 2) hx hb hown (hts _ (List.mem_cons_of_mem _ klM_110)) dM_compareRoot_23 ?_
  refine xi_top (y := .long (lI 2)) (by decide +kernel) ?_
  refine lv_lload_n hx hb dM_compareRoot_26 rfl (lv_at hl 2 rfl) ?_
  refine xl_mul (z := 2 * a) hx hb dM_compareRoot_27 rfl ?_
  refine lv_lload hx hb dM_compareRoot_28 (lv_at hl 6 rfl) ?_
  refine xl_mul (z := (2 * a) * n) hx hb dM_compareRoot_30 rfl ?_
  refine lv_lload_n hx hb dM_compareRoot_31 rfl (lv_at hl 3 rfl) ?_
  refine lv_lload hx hb dM_compareRoot_32 (lv_at hl 7 rfl) ?_
  refine xl_mul (z := b * d) hx hb dM_compareRoot_34 rfl ?_
  refine xl_add (z := ((2 * a) * n) + (b * d)) hx hb dM_compareRoot_35 rfl ?_
  refine vp_callSi (W.runS (As := [.long (lI (((2 * a) * n) + (b * d)))]) (rest := [.int (iI (sgn a))]) ⟨hx, hb, hml, hown, hts⟩ (m_signOf l dC dI (2 * a * n + b * d) (by omega)) (va_cwS 1 hts (tb_S mlM_102 smM_signOf iniM coM_signOf) rfl rfl rfl (by decide +kernel) (by subst hR; exact ⟨Nat.le_of_ble_eq_true rfl, Nat.le_of_ble_eq_true rfl⟩)) ⟨fun a9 U9 g9 mk9 q9 => q9, fun U hU hW => ⟨rfl, trivial⟩⟩ rfl rfl hl.1 rfl (lv_room (Nat.le_of_ble_eq_true rfl)) dM_compareRoot_36 ⟨by subst hR; exact Nat.zero_le _, by subst hR; exact Nat.zero_le _⟩) (fun r_36 hw_36 => ?_)
  subst hw_36
  refine xi_mul (z := md) hx hb dM_compareRoot_39 (hmd.symm) ?_
  refine lv_istore (lv' := [(13, .int (iI md)), (12, .int (iI sd)), (0, .ref (ad 0)), (1, .long (lI a)), (3, .long (lI b)), (5, .long (lI k0)), (7, .int (iI (bz gr))), (8, .long (lI n)), (10, .long (lI d))]) hx hb dM_compareRoot_40 hl (by decide) rfl (fun ls hl => ?_)
  refine lv_iload hx hb dM_compareRoot_42 (lv_at hl 1 rfl) ?_
  refine xi_if_ge (tgt := 58) hx hb dM_compareRoot_44 (by decide) (by omega) (fun c_44 => ?_) (fun c_44 => ?_)
  · skip
    refine lv_iload hx hb dM_compareRoot_58 (lv_at hl 1 rfl) ?_
    refine xi_if_le (tgt := 74) hx hb dM_compareRoot_60 (by decide) (by omega) (fun c_60 => ?_) (fun c_60 => ?_)
    · skip
      have cut_102_1 : ∀ (v : Int) (ls : Array Slot), (v = cmr2 sd md gr) → lv_has ls 14 [(13, .int (iI md)), (12, .int (iI sd)), (0, .ref (ad 0)), (1, .long (lI a)), (3, .long (lI b)), (5, .long (lI k0)), (7, .int (iI (bz gr))), (8, .long (lI n)), (10, .long (lI d))] → W p l e R s m args below meth c H locs 0 0 Q (F0 m 102 ls [.int (iI v)]) := by
        intro v ls hv hl
        subst hQ
        exact W.iret (v := (iI v)) hx hb hr (fun t9 ht9 hW9 => ⟨⟨_, u_13, rfl, (⟨by rw [hv, e9], trivial⟩), by rw [ht9]; exact hP, va_K.moved hW9.alike hK, hD⟩, hS.F ht9⟩) hS.2.2 dM_compareRoot_102
      refine lv_iload hx hb dM_compareRoot_74 (lv_at hl 6 rfl) ?_
      refine xb_if_eq (tgt := 92) hx hb dM_compareRoot_76 (by decide) (fun c_76 => ?_) (fun c_76 => ?_)
      · skip
        refine lv_iload hx hb dM_compareRoot_92 (lv_at hl 0 rfl) ?_
        refine xi_if_le (tgt := 101) hx hb dM_compareRoot_94 (by decide) (by omega) (fun c_94 => ?_) (fun c_94 => ?_)
        · skip
          refine xi_iconst hx hb dM_compareRoot_101 ?_
          exact cut_102_1 0 _ (by unfold cmr2; rw [if_neg (by omega), if_neg (by omega), if_neg (by rw [c_76]; decide), if_neg (by omega)]) (lv_sub hl [0, 1, 2, 3, 4, 5, 6, 7, 8] rfl)
        · skip
          refine xi_iconst hx hb dM_compareRoot_97 ?_
          refine lv_goto (tgt := 102) hx hb dM_compareRoot_98 (by decide) ?_
          exact cut_102_1 (-1) _ (by unfold cmr2; rw [if_neg (by omega), if_neg (by omega), if_neg (by rw [c_76]; decide), if_pos c_94]) (lv_sub hl [0, 1, 2, 3, 4, 5, 6, 7, 8] rfl)
      · skip
        refine lv_iload hx hb dM_compareRoot_79 (lv_at hl 0 rfl) ?_
        refine xi_if_ge (tgt := 88) hx hb dM_compareRoot_81 (by decide) (by omega) (fun c_81 => ?_) (fun c_81 => ?_)
        · skip
          refine xi_iconst hx hb dM_compareRoot_88 ?_
          refine lv_goto (tgt := 102) hx hb dM_compareRoot_89 (by decide) ?_
          exact cut_102_1 0 _ (by unfold cmr2; rw [if_neg (by omega), if_neg (by omega), if_pos c_76, if_neg (by omega)]) (lv_sub hl [0, 1, 2, 3, 4, 5, 6, 7, 8] rfl)
        · skip
          refine xi_iconst hx hb dM_compareRoot_84 ?_
          refine lv_goto (tgt := 102) hx hb dM_compareRoot_85 (by decide) ?_
          exact cut_102_1 1 _ (by unfold cmr2; rw [if_neg (by omega), if_neg (by omega), if_pos c_76, if_pos c_81]) (lv_sub hl [0, 1, 2, 3, 4, 5, 6, 7, 8] rfl)
    · skip
      have cut_73_2 : ∀ (v : Int) (ls : Array Slot), (v = cmr2 sd md gr) → lv_has ls 14 [(13, .int (iI md)), (12, .int (iI sd)), (0, .ref (ad 0)), (1, .long (lI a)), (3, .long (lI b)), (5, .long (lI k0)), (7, .int (iI (bz gr))), (8, .long (lI n)), (10, .long (lI d))] → W p l e R s m args below meth c H locs 0 0 Q (F0 m 73 ls [.int (iI v)]) := by
        intro v ls hv hl
        subst hQ
        exact W.iret (v := (iI v)) hx hb hr (fun t9 ht9 hW9 => ⟨⟨_, u_13, rfl, (⟨by rw [hv, e9], trivial⟩), by rw [ht9]; exact hP, va_K.moved hW9.alike hK, hD⟩, hS.F ht9⟩) hS.2.2 dM_compareRoot_73
      refine lv_iload hx hb dM_compareRoot_63 (lv_at hl 0 rfl) ?_
      refine xi_if_ge (tgt := 72) hx hb dM_compareRoot_65 (by decide) (by omega) (fun c_65 => ?_) (fun c_65 => ?_)
      · skip
        refine xi_iconst hx hb dM_compareRoot_72 ?_
        exact cut_73_2 (-1) _ (by unfold cmr2; rw [if_neg (by omega), if_pos c_60, if_neg (by omega)]) (lv_sub hl [0, 1, 2, 3, 4, 5, 6, 7, 8] rfl)
      · skip
        refine xi_iconst hx hb dM_compareRoot_68 ?_
        refine lv_goto (tgt := 73) hx hb dM_compareRoot_69 (by decide) ?_
        exact cut_73_2 1 _ (by unfold cmr2; rw [if_neg (by omega), if_pos c_60, if_pos c_65]) (lv_sub hl [0, 1, 2, 3, 4, 5, 6, 7, 8] rfl)
  · skip
    have cut_57_3 : ∀ (v : Int) (ls : Array Slot), (v = cmr2 sd md gr) → lv_has ls 14 [(13, .int (iI md)), (12, .int (iI sd)), (0, .ref (ad 0)), (1, .long (lI a)), (3, .long (lI b)), (5, .long (lI k0)), (7, .int (iI (bz gr))), (8, .long (lI n)), (10, .long (lI d))] → W p l e R s m args below meth c H locs 0 0 Q (F0 m 57 ls [.int (iI v)]) := by
      intro v ls hv hl
      subst hQ
      exact W.iret (v := (iI v)) hx hb hr (fun t9 ht9 hW9 => ⟨⟨_, u_13, rfl, (⟨by rw [hv, e9], trivial⟩), by rw [ht9]; exact hP, va_K.moved hW9.alike hK, hD⟩, hS.F ht9⟩) hS.2.2 dM_compareRoot_57
    refine lv_iload hx hb dM_compareRoot_47 (lv_at hl 6 rfl) ?_
    refine xb_if_eq (tgt := 56) hx hb dM_compareRoot_49 (by decide) (fun c_49 => ?_) (fun c_49 => ?_)
    · skip
      refine xi_iconst hx hb dM_compareRoot_56 ?_
      exact cut_57_3 (-1) _ (by unfold cmr2; rw [if_pos c_44, if_neg (by rw [c_49]; decide)]) (lv_sub hl [0, 1, 2, 3, 4, 5, 6, 7, 8] rfl)
    · skip
      refine xi_iconst hx hb dM_compareRoot_52 ?_
      refine lv_goto (tgt := 57) hx hb dM_compareRoot_53 (by decide) ?_
      exact cut_57_3 1 _ (by unfold cmr2; rw [if_pos c_44, if_pos c_49]) (lv_sub hl [0, 1, 2, 3, 4, 5, 6, 7, 8] rfl)
set_option maxHeartbeats 4000000 in
set_option maxRecDepth 100000 in
/-- isLeft -/
theorem m_isLeft (l : Launch) (dC : Nat → ClassId) (dI : Nat → Nat → Nat) (ad : Nat → Nat) (cs : Nat → ClassId) (sz : Nat) (ft : Int) (par : Bool) (np nc rs npc hi lo : Int) (X Y : Int → Int) (O : Int → Bool) (E RX RY : Int → Int) (RO : Int → Bool) (PC : Int → Int) (CV : Int → Bool) (a b k0 : Int) (gr : Bool) (e0 f0 x0 : Int) (h1 : -32768 ≤ a ∧ a ≤ 32768) (h2 : -32768 ≤ b ∧ b ≤ 32768) (h3 : -32768 ≤ k0 ∧ k0 ≤ 32768) (h4 : -32768 ≤ e0 ∧ e0 ≤ 32768) (h5 : -32768 ≤ f0 ∧ f0 ≤ 32768) (h6 : -32768 ≤ x0 ∧ x0 ≤ 32768) : Met l yM_isLeft wM_isLeft ({ frames := 3, cells := 0, slots := 0, locals := 91 }) (va_Pc [.ref (ad 0), .long (lI a), .long (lI b), .long (lI k0), .int (iI (bz gr)), .long (lI e0), .long (lI f0), .long (lI x0)] (fun U => U.heap.size = sz ∧ va_P (dC, dI) vwCl (mW ad cs ft par np nc rs npc hi lo X Y O E RX RY RO PC CV) U.heap ∧ va_K (dC, dI) vwCl (mT cs) U ∧ va_D (fun _ => True) (mW ad cs ft par np nc rs npc hi lo X Y O E RX RY RO PC CV))) (va_Qi (fun (r : Int32) (u : Int × Int) => r = iI (bz (ilf a b k0 gr e0 f0 x0)) ∧ True) (fun (u : Int × Int) t9 => va_P (dC, dI) vwCl (mW ad cs ft par np nc rs npc u.1 u.2 X Y O E RX RY RO PC CV) t9.heap ∧ va_K (dC, dI) vwCl (mT cs) t9 ∧ va_D (va_A (mW ad cs ft par np nc rs npc hi lo X Y O E RX RY RO PC CV) sz) (mW ad cs ft par np nc rs npc u.1 u.2 X Y O E RX RY RO PC CV)) (va_A (mW ad cs ft par np nc rs npc hi lo X Y O E RX RY RO PC CV) sz)) 0 0 (va_A (mW ad cs ft par np nc rs npc hi lo X Y O E RX RY RO PC CV) sz) := by
  refine Met.ofW (cc := cM_isLeft) (maxL := 23) (ret := (some .boolean)) (by decide) rfl ?_
  intro p e s m args below meth c s₁ B hml hv
  obtain ⟨hargs, hsz, hP, hK, hD0⟩ := hv
  have hx := B.exec
  have hb := B.bytes
  have hr := B.returns
  have hts := atoms_spec (ws := wM_isLeft) B.pre
  have hown : s.vm.findClass RM = some m.cls := findClass_of_methodNamed B.named
  have hlocks := B.notSynchronized
  subst hsz
  have hD := hD0.self (sz := s.heap.size)
  generalize hAe : va_A (mW ad cs ft par np nc rs npc hi lo X Y O E RX RY RO PC CV) s.heap.size = A at hD ⊢
  have hA : ∀ q : Nat, s.heap.size ≤ q → A q := fun q h => by rw [← hAe]; exact Or.inr h
  have hS0 : va_S A s.heap s.heap [] := va_S.rf
  refine x_name (fun R Q H locs hR hQ hH hlo => ?_)
  rw [← hH] at hP
  have hS : va_S A s.heap H locs := by rw [hH, hlo]; exact hS0
  refine x_entry hargs (Nat.le_of_ble_eq_true rfl) (fun ls hl => ?_)
  have hl : lv_has ls 23 [(0, .ref (ad 0)), (1, .long (lI a)), (3, .long (lI b)), (5, .long (lI k0)), (7, .int (iI (bz gr))), (8, .long (lI e0)), (10, .long (lI f0)), (12, .long (lI x0))] := hl
  have hP : va_P (dC, dI) vwCl (mW ad cs ft par np nc rs npc hi lo X Y O E RX RY RO PC CV) H := hP
  obtain ⟨sl, hsl⟩ : ∃ z, z = a * f0 - e0 * b := ⟨_, rfl⟩
  obtain ⟨re, hre⟩ : ∃ z, z = a * x0 - e0 * k0 := ⟨_, rfl⟩
  have b1 := mul_bd 32768 32768 (a := a) (b := f0) (by omega) (by omega)
  have b2 := mul_bd 32768 32768 (a := e0) (b := b) (by omega) (by omega)
  have b3 := mul_bd 32768 32768 (a := a) (b := x0) (by omega) (by omega)
  have b4 := mul_bd 32768 32768 (a := e0) (b := k0) (by omega) (by omega)
  have b5 := mul_bd 32768 32768 (a := f0) (b := k0) (by omega) (by omega)
  have b6 := mul_bd 32768 32768 (a := x0) (b := b) (by omega) (by omega)
  have b7 := mul_bd 1073741824 32768 (a := e0 * k0) (b := k0) (by omega) (by omega)
  have b8 := mul_bd 1073741824 32768 (a := f0 * k0) (b := b) (by omega) (by omega)
  have b9 := mul_bd 1073741824 32768 (a := x0 * b) (b := b) (by omega) (by omega)
  refine lv_lload_n hx hb dM_isLeft_0 rfl (lv_at hl 1 rfl) ?_
  refine lv_lconst (v := lI 0) hx hb dM_isLeft_1 (by decide +kernel) ?_
  refine xl_ne (tgt := 41) hx hb dM_isLeft_2 dM_isLeft_3 (by decide) (by omega) (by omega) (fun c_2 => ?_) (fun c_2 => ?_)
  · skip
    refine lv_lload_n hx hb dM_isLeft_41 rfl (lv_at hl 1 rfl) ?_
    refine lv_lload hx hb dM_isLeft_42 (lv_at hl 6 rfl) ?_
    refine xl_mul (z := a * f0) hx hb dM_isLeft_44 rfl ?_
    refine lv_lload hx hb dM_isLeft_45 (lv_at hl 5 rfl) ?_
    refine lv_lload_n hx hb dM_isLeft_47 rfl (lv_at hl 2 rfl) ?_
    refine xl_mul (z := e0 * b) hx hb dM_isLeft_48 rfl ?_
    refine xl_sub (z := sl) hx hb dM_isLeft_49 (hsl.symm) ?_
    refine lv_lstore (lv' := [(14, .long (lI sl)), (0, .ref (ad 0)), (1, .long (lI a)), (3, .long (lI b)), (5, .long (lI k0)), (7, .int (iI (bz gr))), (8, .long (lI e0)), (10, .long (lI f0)), (12, .long (lI x0))]) hx hb dM_isLeft_50 hl (by decide) rfl (fun ls hl => ?_)
    refine lv_lload_n hx hb dM_isLeft_52 rfl (lv_at hl 2 rfl) ?_
    refine lv_lload hx hb dM_isLeft_53 (lv_at hl 8 rfl) ?_
    refine xl_mul (z := a * x0) hx hb dM_isLeft_55 rfl ?_
    refine lv_lload hx hb dM_isLeft_56 (lv_at hl 6 rfl) ?_
    refine lv_lload hx hb dM_isLeft_58 (lv_at hl 4 rfl) ?_
    refine xl_mul (z := e0 * k0) hx hb dM_isLeft_60 rfl ?_
    refine xl_sub (z := re) hx hb dM_isLeft_61 (hre.symm) ?_
    refine lv_lstore (lv' := [(16, .long (lI re)), (14, .long (lI sl)), (0, .ref (ad 0)), (1, .long (lI a)), (3, .long (lI b)), (5, .long (lI k0)), (7, .int (iI (bz gr))), (8, .long (lI e0)), (10, .long (lI f0)), (12, .long (lI x0))]) hx hb dM_isLeft_62 hl (by decide) rfl (fun ls hl => ?_)
    refine lv_lload hx hb dM_isLeft_64 (lv_at hl 0 rfl) ?_
    refine vp_callSi (W.runS (As := [.long (lI re)]) (rest := []) ⟨hx, hb, hml, hown, hts⟩ (m_signOf l dC dI re (by omega)) (va_cwS 1 hts (tb_S mlM_102 smM_signOf iniM coM_signOf) rfl rfl rfl (by decide +kernel) (by subst hR; exact ⟨Nat.le_of_ble_eq_true rfl, Nat.le_of_ble_eq_true rfl⟩)) ⟨fun a9 U9 g9 mk9 q9 => q9, fun U hU hW => ⟨rfl, trivial⟩⟩ rfl rfl hl.1 rfl (lv_room (Nat.le_of_ble_eq_true rfl)) dM_isLeft_66 ⟨by subst hR; exact Nat.zero_le _, by subst hR; exact Nat.zero_le _⟩) (fun r_66 hw_66 => ?_)
    subst hw_66
    refine lv_istore (lv' := [(18, .int (iI (sgn re))), (16, .long (lI re)), (14, .long (lI sl)), (0, .ref (ad 0)), (1, .long (lI a)), (3, .long (lI b)), (5, .long (lI k0)), (7, .int (iI (bz gr))), (8, .long (lI e0)), (10, .long (lI f0)), (12, .long (lI x0))]) hx hb dM_isLeft_69 hl (by decide) rfl (fun ls hl => ?_)
    have cut_134_1 : ∀ (sg : Int) (hi2 : Int) (lo2 : Int) (H : Heap) (locs : List Loc) (ls : Array Slot), (sg = isg a b k0 gr e0 f0 x0) → (-1 ≤ sg ∧ sg ≤ 1) → va_P (dC, dI) vwCl (mW ad cs ft par np nc rs npc hi2 lo2 X Y O E RX RY RO PC CV) H → va_D A (mW ad cs ft par np nc rs npc hi2 lo2 X Y O E RX RY RO PC CV) → va_S A s.heap H locs → lv_has ls 23 [(0, .ref (ad 0)), (1, .long (lI a)), (3, .long (lI b)), (5, .long (lI k0)), (7, .int (iI (bz gr))), (8, .long (lI e0)), (10, .long (lI f0)), (12, .long (lI x0)), (14, .long (lI sl)), (16, .long (lI re)), (18, .int (iI sg))] → W p l e R s m args below meth c H locs 0 0 Q (F0 m 134 ls []) := by
      intro sg hi2 lo2 H locs ls hsg bsg hP hD hS hl
      have cut_149_2 : ∀ (v : Bool) (ls : Array Slot), (v = ilf a b k0 gr e0 f0 x0) → lv_has ls 23 [(0, .ref (ad 0)), (1, .long (lI a)), (3, .long (lI b)), (5, .long (lI k0)), (7, .int (iI (bz gr))), (8, .long (lI e0)), (10, .long (lI f0)), (12, .long (lI x0)), (14, .long (lI sl)), (16, .long (lI re)), (18, .int (iI sg))] → W p l e R s m args below meth c H locs 0 0 Q (F0 m 149 ls [.int (iI (bz v))]) := by
        intro v ls hv hl
        subst hQ
        exact W.zret (v := (iI (bz v))) hx hb hr (xi_narZ2 _) (fun t9 ht9 hW9 => ⟨⟨_, (hi2, lo2), rfl, (⟨by rw [hv], trivial⟩), by rw [ht9]; exact hP, va_K.moved hW9.alike hK, hD⟩, hS.F ht9⟩) hS.2.2 dM_isLeft_149
      refine lv_lload_n hx hb dM_isLeft_134 rfl (lv_at hl 1 rfl) ?_
      refine vp_callSi (W.runS (As := [.long (lI a)]) (rest := []) ⟨hx, hb, hml, hown, hts⟩ (m_signOf l dC dI a (by omega)) (va_cwS 1 hts (tb_S mlM_102 smM_signOf iniM coM_signOf) rfl rfl rfl (by decide +kernel) (by subst hR; exact ⟨Nat.le_of_ble_eq_true rfl, Nat.le_of_ble_eq_true rfl⟩)) ⟨fun a9 U9 g9 mk9 q9 => q9, fun U hU hW => ⟨rfl, trivial⟩⟩ rfl rfl hl.1 rfl (lv_room (Nat.le_of_ble_eq_true rfl)) dM_isLeft_135 ⟨by subst hR; exact Nat.zero_le _, by subst hR; exact Nat.zero_le _⟩) (fun r_135 hw_135 => ?_)
      subst hw_135
      refine lv_iload hx hb dM_isLeft_138 (lv_at hl 10 rfl) ?_
      refine xi_mul (z := (sgn a) * sg) hx hb dM_isLeft_140 rfl ?_
      have b14 := mul_bd 1 1 (a := sgn a) (b := sg) (sgn_bd a) bsg
      refine xi_if_gt (tgt := 148) hx hb dM_isLeft_141 (by decide) (by omega) (fun c_141 => ?_) (fun c_141 => ?_)
      · skip
        refine xi_iconst hx hb dM_isLeft_148 ?_
        exact cut_149_2 false _ (by unfold ilf; rw [if_neg c_2, ← hsg, decide_eq_false (by omega)]) (lv_sub hl [0, 1, 2, 3, 4, 5, 6, 7, 8, 9, 10] rfl)
      · skip
        refine xi_iconst hx hb dM_isLeft_144 ?_
        refine lv_goto (tgt := 149) hx hb dM_isLeft_145 (by decide) ?_
        exact cut_149_2 true _ (by unfold ilf; rw [if_neg c_2, ← hsg, decide_eq_true (by omega)]) (lv_sub hl [0, 1, 2, 3, 4, 5, 6, 7, 8, 9, 10] rfl)
    refine lv_lload hx hb dM_isLeft_71 (lv_at hl 2 rfl) ?_
    refine lv_lconst (v := lI 0) hx hb dM_isLeft_73 (by decide +kernel) ?_
    refine xl_eq (tgt := 134) hx hb dM_isLeft_74 dM_isLeft_75 (by decide) (by omega) (by omega) (fun c_74 => ?_) (fun c_74 => ?_)
    · skip
      exact cut_134_1 (sgn re) hi lo _ _ _ (by unfold isg; rw [← hsl, ← hre, if_pos c_74]) (sgn_bd re) hP hD hS (lv_sub hl [3, 4, 5, 6, 7, 8, 9, 10, 2, 1, 0] rfl)
    · skip
      have cut_93_3 : ∀ (nn : Int) (ls : Array Slot), (nn = if 0 < sl then -re else re) → lv_has ls 23 [(18, .int (iI (sgn re))), (16, .long (lI re)), (14, .long (lI sl)), (0, .ref (ad 0)), (1, .long (lI a)), (3, .long (lI b)), (5, .long (lI k0)), (7, .int (iI (bz gr))), (8, .long (lI e0)), (10, .long (lI f0)), (12, .long (lI x0))] → W p l e R s m args below meth c H locs 0 0 Q (F0 m 93 ls [.long (lI nn)]) := by
        intro nn ls hnn hl
        have b10 : nn = -re ∨ nn = re := by (rcases Int.lt_or_le 0 sl with h | h; (left; rw [hnn, if_pos h]); (right; rw [hnn, if_neg (by omega)]))
        refine lv_lstore (lv' := [(19, .long (lI nn)), (18, .int (iI (sgn re))), (16, .long (lI re)), (14, .long (lI sl)), (0, .ref (ad 0)), (1, .long (lI a)), (3, .long (lI b)), (5, .long (lI k0)), (7, .int (iI (bz gr))), (8, .long (lI e0)), (10, .long (lI f0)), (12, .long (lI x0))]) hx hb dM_isLeft_93 hl (by decide) rfl (fun ls hl => ?_)
        have cut_110_4 : ∀ (dd : Int) (ls : Array Slot), (dd = if 0 < sl then sl else -sl) → lv_has ls 23 [(19, .long (lI nn)), (18, .int (iI (sgn re))), (16, .long (lI re)), (14, .long (lI sl)), (0, .ref (ad 0)), (1, .long (lI a)), (3, .long (lI b)), (5, .long (lI k0)), (7, .int (iI (bz gr))), (8, .long (lI e0)), (10, .long (lI f0)), (12, .long (lI x0))] → W p l e R s m args below meth c H locs 0 0 Q (F0 m 110 ls [.long (lI dd)]) := by
          intro dd ls hdd hl
          have b11 : 0 < dd ∧ dd ≤ 2147483648 := by (rw [hdd]; split <;> omega)
          refine lv_lstore (lv' := [(21, .long (lI dd)), (19, .long (lI nn)), (18, .int (iI (sgn re))), (16, .long (lI re)), (14, .long (lI sl)), (0, .ref (ad 0)), (1, .long (lI a)), (3, .long (lI b)), (5, .long (lI k0)), (7, .int (iI (bz gr))), (8, .long (lI e0)), (10, .long (lI f0)), (12, .long (lI x0))]) hx hb dM_isLeft_110 hl (by decide) rfl (fun ls hl => ?_)
          refine lv_lload hx hb dM_isLeft_112 (lv_at hl 4 rfl) ?_
          refine vp_callSi (W.runS (As := [.long (lI sl)]) (rest := []) ⟨hx, hb, hml, hown, hts⟩ (m_signOf l dC dI sl (by omega)) (va_cwS 1 hts (tb_S mlM_102 smM_signOf iniM coM_signOf) rfl rfl rfl (by decide +kernel) (by subst hR; exact ⟨Nat.le_of_ble_eq_true rfl, Nat.le_of_ble_eq_true rfl⟩)) ⟨fun a9 U9 g9 mk9 q9 => q9, fun U hU hW => ⟨rfl, trivial⟩⟩ rfl rfl hl.1 rfl (lv_room (Nat.le_of_ble_eq_true rfl)) dM_isLeft_114 ⟨by subst hR; exact Nat.zero_le _, by subst hR; exact Nat.zero_le _⟩) (fun r_114 hw_114 => ?_)
          subst hw_114
          refine lv_aload_n hx hb dM_isLeft_117 rfl (lv_at hl 5 rfl) ?_
          refine lv_lload_n hx hb dM_isLeft_118 rfl (lv_at hl 6 rfl) ?_
          refine lv_lload_n hx hb dM_isLeft_119 rfl (lv_at hl 7 rfl) ?_
          refine lv_lload hx hb dM_isLeft_120 (lv_at hl 8 rfl) ?_
          refine lv_iload hx hb dM_isLeft_122 (lv_at hl 9 rfl) ?_
          refine lv_lload hx hb dM_isLeft_124 (lv_at hl 1 rfl) ?_
          refine lv_lload hx hb dM_isLeft_126 (lv_at hl 0 rfl) ?_
          have hFc := xw_free hD hS hA
          refine va_calli (va_runV (As := [.long (lI a), .long (lI b), .long (lI k0), .int (iI (bz gr)), .long (lI nn), .long (lI dd)]) (rest := [.int (iI (sgn sl))]) ⟨hx, hb, hml, hown, hts⟩ (m_compareRoot l dC dI ad cs H.size ft par np nc rs npc hi lo X Y O E RX RY RO PC CV a b k0 gr nn dd h1 h2 h3 (by omega) (by omega)) (cwV 6 hts (tb_V mlM_112 imM_compareRoot seM_compareRoot iniM coM_compareRoot) rfl rfl rfl (by decide +kernel) (by subst hR; exact ⟨Nat.le_of_ble_eq_true rfl, Nat.le_of_ble_eq_true rfl⟩)) ⟨fun a9 U9 g9 mk9 q9 => by obtain ⟨q0, q1, qP, qK, qD⟩ := q9; exact ⟨q0, q1, qP, va_K.moved (u := U9) (U := U9.calling g9 mk9 a9) (Vm.Alike.refl U9.vm) qK, qD⟩, va_recv hK hP (ci := 3) (q0 := 0) rfl rfl, fun U hU hW => ⟨rfl, by rw [hU], by rw [hU]; exact hP, va_K.moved hW.alike hK, hD.weaken (fun _ _ _ _ => trivial)⟩⟩ rfl rfl hl.1 rfl (lv_room (Nat.le_of_ble_eq_true rfl)) dM_isLeft_128 ⟨by subst hR; exact Nat.le_of_ble_eq_true rfl, by subst hR; exact Nat.le_of_ble_eq_true rfl⟩) hS (fun q9 _ h9 => hFc q9 h9) hFc (fun r_128 u_128 t9 H1 locs1 ht9 hvm9 hw_128 hB9 hz9 hk9 hS1 => ?_)
          obtain ⟨hP1, hK1, hD1⟩ := hB9
          rw [ht9] at hP1
          have hP : va_P (dC, dI) vwCl (mW ad cs ft par np nc rs npc u_128.1 u_128.2 X Y O E RX RY RO PC CV) H1 := hP1
          have hD : va_D A (mW ad cs ft par np nc rs npc u_128.1 u_128.2 X Y O E RX RY RO PC CV) := hD1.weaken (fun _ _ _ h9 => hFc _ h9)
          clear hP1 hD1 hK1 hFc
          have hS := hS1
          clear hS1 hz9 hk9 ht9 hvm9
          revert hP hD hS; generalize H1 = H; generalize locs1 = locs; intro hP hD hS
          obtain ⟨hr_128, hw_128⟩ := hw_128; subst hr_128
          have b12 := cmr_bd a b k0 gr nn dd
          have b13 := mul_bd 1 1 (a := sgn sl) (b := cmr a b k0 gr nn dd) (sgn_bd sl) b12
          refine xi_mul (z := (sgn sl) * (cmr a b k0 gr nn dd)) hx hb dM_isLeft_131 rfl ?_
          refine lv_istore (lv' := [(18, .int (iI ((sgn sl) * (cmr a b k0 gr nn dd)))), (21, .long (lI dd)), (19, .long (lI nn)), (16, .long (lI re)), (14, .long (lI sl)), (0, .ref (ad 0)), (1, .long (lI a)), (3, .long (lI b)), (5, .long (lI k0)), (7, .int (iI (bz gr))), (8, .long (lI e0)), (10, .long (lI f0)), (12, .long (lI x0))]) hx hb dM_isLeft_132 hl (by decide) rfl (fun ls hl => ?_)
          exact cut_134_1 ((sgn sl) * (cmr a b k0 gr nn dd)) u_128.1 u_128.2 _ _ _ (by unfold isg; rw [← hsl, ← hre, if_neg c_74, ← hnn, ← hdd]) (by omega) hP hD hS (lv_sub hl [5, 6, 7, 8, 9, 10, 11, 12, 4, 3, 0] rfl)
        refine lv_lload hx hb dM_isLeft_95 (lv_at hl 3 rfl) ?_
        refine lv_lconst (v := lI 0) hx hb dM_isLeft_97 (by decide +kernel) ?_
        refine xl_le (tgt := 107) hx hb dM_isLeft_98 dM_isLeft_99 (by decide) (by omega) (by omega) (fun c_98 => ?_) (fun c_98 => ?_)
        · skip
          refine lv_lload hx hb dM_isLeft_107 (lv_at hl 3 rfl) ?_
          refine xl_neg (z := -sl) hx hb dM_isLeft_109 rfl ?_
          exact cut_110_4 (-sl) _ (by rw [if_neg (by omega)]) (lv_sub hl [0, 1, 2, 3, 4, 5, 6, 7, 8, 9, 10, 11] rfl)
        · skip
          refine lv_lload hx hb dM_isLeft_102 (lv_at hl 3 rfl) ?_
          refine lv_goto (tgt := 110) hx hb dM_isLeft_104 (by decide) ?_
          exact cut_110_4 sl _ (by rw [if_pos (by omega)]) (lv_sub hl [0, 1, 2, 3, 4, 5, 6, 7, 8, 9, 10, 11] rfl)
      refine lv_lload hx hb dM_isLeft_78 (lv_at hl 2 rfl) ?_
      refine lv_lconst (v := lI 0) hx hb dM_isLeft_80 (by decide +kernel) ?_
      refine xl_le (tgt := 91) hx hb dM_isLeft_81 dM_isLeft_82 (by decide) (by omega) (by omega) (fun c_81 => ?_) (fun c_81 => ?_)
      · skip
        refine lv_lload hx hb dM_isLeft_91 (lv_at hl 1 rfl) ?_
        exact cut_93_3 re _ (by rw [if_neg (by omega)]) (lv_sub hl [0, 1, 2, 3, 4, 5, 6, 7, 8, 9, 10] rfl)
      · skip
        refine lv_lload hx hb dM_isLeft_85 (lv_at hl 1 rfl) ?_
        refine xl_neg (z := -re) hx hb dM_isLeft_87 rfl ?_
        refine lv_goto (tgt := 93) hx hb dM_isLeft_88 (by decide) ?_
        exact cut_93_3 (-re) _ (by rw [if_pos (by omega)]) (lv_sub hl [0, 1, 2, 3, 4, 5, 6, 7, 8, 9, 10] rfl)
  · skip
    refine lv_lload hx hb dM_isLeft_6 (lv_at hl 5 rfl) ?_
    refine lv_lload hx hb dM_isLeft_8 (lv_at hl 3 rfl) ?_
    refine xl_mul (z := e0 * k0) hx hb dM_isLeft_10 rfl ?_
    refine lv_lload hx hb dM_isLeft_11 (lv_at hl 3 rfl) ?_
    refine xl_mul (z := (e0 * k0) * k0) hx hb dM_isLeft_13 rfl ?_
    refine lv_lload hx hb dM_isLeft_14 (lv_at hl 6 rfl) ?_
    refine lv_lload hx hb dM_isLeft_16 (lv_at hl 3 rfl) ?_
    refine xl_mul (z := f0 * k0) hx hb dM_isLeft_18 rfl ?_
    refine lv_lload_n hx hb dM_isLeft_19 rfl (lv_at hl 2 rfl) ?_
    refine xl_mul (z := (f0 * k0) * b) hx hb dM_isLeft_20 rfl ?_
    refine xl_sub (z := ((e0 * k0) * k0) - ((f0 * k0) * b)) hx hb dM_isLeft_21 rfl ?_
    refine lv_lload hx hb dM_isLeft_22 (lv_at hl 7 rfl) ?_
    refine lv_lload_n hx hb dM_isLeft_24 rfl (lv_at hl 2 rfl) ?_
    refine xl_mul (z := x0 * b) hx hb dM_isLeft_25 rfl ?_
    refine lv_lload_n hx hb dM_isLeft_26 rfl (lv_at hl 2 rfl) ?_
    refine xl_mul (z := (x0 * b) * b) hx hb dM_isLeft_27 rfl ?_
    refine xl_add (z := (((e0 * k0) * k0) - ((f0 * k0) * b)) + ((x0 * b) * b)) hx hb dM_isLeft_28 rfl ?_
    refine vp_callSi (W.runS (As := [.long (lI ((((e0 * k0) * k0) - ((f0 * k0) * b)) + ((x0 * b) * b)))]) (rest := []) ⟨hx, hb, hml, hown, hts⟩ (m_signOf l dC dI (e0 * k0 * k0 - f0 * k0 * b + x0 * b * b) (by omega)) (va_cwS 1 hts (tb_S mlM_102 smM_signOf iniM coM_signOf) rfl rfl rfl (by decide +kernel) (by subst hR; exact ⟨Nat.le_of_ble_eq_true rfl, Nat.le_of_ble_eq_true rfl⟩)) ⟨fun a9 U9 g9 mk9 q9 => q9, fun U hU hW => ⟨rfl, trivial⟩⟩ rfl rfl hl.1 rfl (lv_room (Nat.le_of_ble_eq_true rfl)) dM_isLeft_29 ⟨by subst hR; exact Nat.zero_le _, by subst hR; exact Nat.zero_le _⟩) (fun r_29 hw_29 => ?_)
    subst hw_29
    have b0 := sgn_bd (e0 * k0 * k0 - f0 * k0 * b + x0 * b * b)
    have cut_40_5 : ∀ (v : Bool) (ls : Array Slot), (v = ilf a b k0 gr e0 f0 x0) → lv_has ls 23 [(0, .ref (ad 0)), (1, .long (lI a)), (3, .long (lI b)), (5, .long (lI k0)), (7, .int (iI (bz gr))), (8, .long (lI e0)), (10, .long (lI f0)), (12, .long (lI x0))] → W p l e R s m args below meth c H locs 0 0 Q (F0 m 40 ls [.int (iI (bz v))]) := by
      intro v ls hv hl
      subst hQ
      exact W.zret (v := (iI (bz v))) hx hb hr (xi_narZ2 _) (fun t9 ht9 hW9 => ⟨⟨_, (hi, lo), rfl, (⟨by rw [hv], trivial⟩), by rw [ht9]; exact hP, va_K.moved hW9.alike hK, hD⟩, hS.F ht9⟩) hS.2.2 dM_isLeft_40
    refine xi_if_gt (tgt := 39) hx hb dM_isLeft_32 (by decide) (by omega) (fun c_32 => ?_) (fun c_32 => ?_)
    · skip
      refine xi_iconst hx hb dM_isLeft_39 ?_
      exact cut_40_5 false _ (by unfold ilf; rw [if_pos c_2, decide_eq_false (by omega)]) (lv_sub hl [0, 1, 2, 3, 4, 5, 6, 7] rfl)
    · skip
      refine xi_iconst hx hb dM_isLeft_35 ?_
      refine lv_goto (tgt := 40) hx hb dM_isLeft_36 (by decide) ?_
      exact cut_40_5 true _ (by unfold ilf; rw [if_pos c_2, decide_eq_true (by omega)]) (lv_sub hl [0, 1, 2, 3, 4, 5, 6, 7] rfl)
