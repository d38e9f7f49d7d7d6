/-! bits of a long (given rows) -/
theorem wb_tb (n : Nat) : (lN n).toBitVec = BitVec.ofNat 64 n := rfl
theorem wb_inj {a b : Int64} (h : a.toBitVec = b.toBitVec) : a = b := Int64.toBitVec_inj.mp h
theorem wb_tn {n : Nat} (h : n < 2 ^ 64) : (lN n).toBitVec.toNat = n := by rw [wb_tb, BitVec.toNat_ofNat, Nat.mod_eq_of_lt h]
theorem wb_of (x : Int64) : ∃ n, n < 2 ^ 64 ∧ x = lN n := ⟨x.toBitVec.toNat, x.toBitVec.isLt, wb_inj (by rw [wb_tb]; simp)⟩
theorem wb_of32 (x : Int32) : ∃ n, n < 2 ^ 32 ∧ x = nI n := ⟨x.toBitVec.toNat, x.toBitVec.isLt, Int32.toBitVec_inj.mp (by show _ = BitVec.ofNat 32 _; simp)⟩
theorem wb_c : ∀ k, k < 64 → ((nI k).toInt64 &&& 63) = lN k := by decide +kernel
theorem wb_cu : ∀ k, k < 64 → ((nI k).toInt64.toUInt64 &&& Int64.toUInt64 63) = UInt64.ofNat k := by decide +kernel
theorem wb_sm : ∀ k, k < 64 → (BitVec.ofNat 64 k).smod 64 = BitVec.ofNat 64 k := by decide +kernel
theorem wb_pw {a b : Nat} (h : a ≤ b) : 2 ^ b = 2 ^ a * 2 ^ (b - a) := by rw [← Nat.pow_add]; congr 1; omega
theorem wb_lt2 {a b : Nat} (h : a < b) : 2 ^ a < 2 ^ b := Nat.pow_lt_pow_right (by decide) h
theorem wb_mod (n : Nat) : lN n = lN (n % 2 ^ 64) := wb_inj (by rw [wb_tb, wb_tb]; apply BitVec.eq_of_toNat_eq; rw [BitVec.toNat_ofNat, BitVec.toNat_ofNat, Nat.mod_mod])
theorem wb_shr {n k : Nat} (hn : n < 2 ^ 64) (hk : k < 64) : ((lN n).toUInt64 >>> ((nI k).toInt64.toUInt64 &&& Int64.toUInt64 63)).toInt64 = lN (n / 2 ^ k) := by
  rw [wb_cu k hk]
  apply wb_inj
  apply BitVec.eq_of_toNat_eq
  show ((lN n).toUInt64 >>> UInt64.ofNat k).toNat = (BitVec.ofNat 64 _).toNat
  have h1 : (UInt64.ofNat k).toNat = k := by
    show (BitVec.ofNat 64 k).toNat = k
    rw [BitVec.toNat_ofNat, Nat.mod_eq_of_lt (by omega)]
  have h2 : (lN n).toUInt64.toNat = n := wb_tn hn
  rw [UInt64.toNat_shiftRight, h1, h2, Nat.mod_eq_of_lt hk, Nat.shiftRight_eq_div_pow, BitVec.toNat_ofNat, Nat.mod_eq_of_lt (Nat.lt_of_le_of_lt (Nat.div_le_self _ _) hn)]
theorem wb_shl (n : Nat) {k : Nat} (hk : k < 64) : lN n <<< ((nI k).toInt64 &&& 63) = lN (n * 2 ^ k) := by
  rw [wb_c k hk]
  apply wb_inj
  rw [Int64.toBitVec_shiftLeft, wb_tb, wb_tb, wb_tb, wb_sm k hk]
  apply BitVec.eq_of_toNat_eq
  rw [BitVec.shiftLeft_eq', BitVec.toNat_shiftLeft, BitVec.toNat_ofNat, BitVec.toNat_ofNat, BitVec.toNat_ofNat, Nat.mod_eq_of_lt (show k < 2 ^ 64 by omega), Nat.shiftLeft_eq, Nat.mul_mod, Nat.mod_mod, ← Nat.mul_mod]
theorem wb_and {a b : Nat} (ha : a < 2 ^ 64) (hb : b < 2 ^ 64) : lN a &&& lN b = lN (a &&& b) := by
  apply wb_inj
  rw [Int64.toBitVec_and, wb_tb, wb_tb, wb_tb]
  apply BitVec.eq_of_toNat_eq
  rw [BitVec.toNat_and, BitVec.toNat_ofNat, BitVec.toNat_ofNat, BitVec.toNat_ofNat, Nat.mod_eq_of_lt ha, Nat.mod_eq_of_lt hb, Nat.mod_eq_of_lt (Nat.and_lt_two_pow _ hb)]
theorem wb_or {a b : Nat} (ha : a < 2 ^ 64) (hb : b < 2 ^ 64) : lN a ||| lN b = lN (a ||| b) := by
  apply wb_inj
  rw [Int64.toBitVec_or, wb_tb, wb_tb, wb_tb]
  apply BitVec.eq_of_toNat_eq
  rw [BitVec.toNat_or, BitVec.toNat_ofNat, BitVec.toNat_ofNat, BitVec.toNat_ofNat, Nat.mod_eq_of_lt ha, Nat.mod_eq_of_lt hb, Nat.mod_eq_of_lt (Nat.or_lt_two_pow ha hb)]
theorem wb_mask {n k : Nat} (hn : n < 2 ^ 64) (hk : k < 64) : lN n &&& lN (2 ^ k - 1) = lN (n % 2 ^ k) := by
  rw [wb_and hn (by have := wb_lt2 hk; omega), Nat.and_two_pow_sub_one_eq_mod]
theorem wb_a1 {n : Nat} (hn : n < 2 ^ 64) : lN n &&& 1 = lN (n % 2) := wb_mask (k := 1) hn (by decide)
theorem wb_bit {n k : Nat} (hn : n < 2 ^ 64) (hk : k < 64) : ((lN n).toUInt64 >>> ((nI k).toInt64.toUInt64 &&& Int64.toUInt64 63)).toInt64 &&& 1 = lN (n / 2 ^ k % 2) := by
  rw [wb_shr hn hk, wb_a1 (Nat.lt_of_le_of_lt (Nat.div_le_self _ _) hn)]
/-! the reference: what it answers -/
def hw (x y : Int) : hT := fun px py qx qy rx ry cv => if cv = true then cvc px py qx qy rx ry x y else lnc px py rx ry x y
def hc (b : Bool) : hT := fun _ _ _ _ _ _ cv => bz (cv == b)
theorem pcc_hw (PC : Int → Int) (CV : Int → Bool) (x y : Int) : pcc PC CV x y = pcs (hw x y) PC CV := rfl
/-- the winding that the reference finds -/
def wR (X Y : Int → Int) (O : Int → Bool) (E : Int → Int) (nc x y : Int) : Int := tot X Y O E (hw x y) nc
theorem wnd_wR {PC : Int → Int} {CV : Int → Bool} {n : Int} {X Y : Int → Int} {O : Int → Bool} {E : Int → Int} {nc : Int} (h : ∀ g : hT, isum (pcs g PC CV) n.toNat = tot X Y O E g nc) (x y : Int) : wnd PC CV n x y = wR X Y O E nc x y := by
  unfold wnd wR
  rw [pcc_hw]
  exact h (hw x y)
def fW (x y : Int) : Int := if (x < -16384 ∨ 16383 < x) ∨ (y < -16384 ∨ 16383 < y) then 1 else 0
def fR (q : Int) : Int := if 0 ≤ q ∧ q < 64 then 0 else 1
def fS (x q : Int) : Int := if (0 ≤ x ∧ x < 64) ∧ (0 ≤ q ∧ q < 64) then 0 else 1
def fE (w nc : Int) : Int := if w < 0 ∨ 3 < w then 1 else if nc = 0 then 2 else 0
/-- is pixel x of row q set -/
def pxR (X Y : Int → Int) (O : Int → Bool) (E : Int → Int) (nc : Int) (par : Bool) (q x : Int) : Bool := isin par (wR X Y O E nc (64 * x + 32) (64 * (63 - q) + 32))
/-- a row's bits -/
def bitsF (P : Int → Bool) : Nat → Nat | 0 => 0 | n + 1 => bitsF P n + (if P (n : Int) = true then 2 ^ n else 0)
theorem bitsF_lt (P : Int → Bool) (n : Nat) : bitsF P n < 2 ^ n := by
  induction n with
  | zero => show 0 < 1; decide
  | succ n ih =>
    show bitsF P n + _ < 2 ^ (n + 1)
    rw [Nat.pow_succ]
    split <;> omega
theorem bitsF_s (P : Int → Bool) {z : Int} (hz : 0 ≤ z) : bitsF P (z + 1).toNat = bitsF P z.toNat + (if P z = true then 2 ^ z.toNat else 0) := by
  have h1 : (z + 1).toNat = z.toNat + 1 := by omega
  rw [h1]
  show bitsF P z.toNat + (if P ((z.toNat : Nat) : Int) = true then 2 ^ z.toNat else 0) = _
  rw [Int.toNat_of_nonneg hz]
theorem bits_or (P : Int → Bool) {z : Int} (hz : 0 ≤ z ∧ z < 64) (hp : P z = true) : lN (bitsF P z.toNat) ||| (lI 1 <<< ((iI z).toInt64 &&& 63)) = lN (bitsF P (z + 1).toNat) := by
  have h1 : lI 1 = lN 1 := by decide +kernel
  have h2 : iI z = nI z.toNat := by rw [iI_nI, Int.toNat_of_nonneg hz.1]
  have b1 := bitsF_lt P z.toNat
  have b2 : 2 ^ z.toNat < 2 ^ 64 := wb_lt2 (by omega)
  rw [h1, h2, wb_shl 1 (by omega), Nat.one_mul, wb_or (by omega) b2, bitsF_s P hz.1, if_pos hp]
  congr 1
  rw [Nat.or_comm, Nat.add_comm]
  exact (Nat.two_pow_add_eq_or_of_lt b1 1 ▸ (by simp : 2 ^ z.toNat * 1 + bitsF P z.toNat = 2 ^ z.toNat + bitsF P z.toNat)).symm ▸ (by
    have := Nat.two_pow_add_eq_or_of_lt b1 1
    simpa using this.symm)
/-- the pixel ahead of x -/
def pv (P : Int → Bool) (x : Int) : Bool := if x = 0 then false else P (x - 1)
def spS (P : Int → Bool) (x : Int) : Bool := P x && !pv P x
def spE (P : Int → Bool) (x : Int) : Bool := pv P x && !P x
theorem pv_s (P : Int → Bool) {x : Int} (h : 0 ≤ x) : pv P (x + 1) = P x := by unfold pv; rw [if_neg (by omega), show x + 1 - 1 = x by omega]
/-- how many spans have begun at x or ahead of it, less one -/
def spN (P : Int → Bool) (x : Int) : Int := isum (fun q => bz (spS P q)) (x + 1).toNat - 1
def fnd (P : Int → Bool) (k : Int) (en : Bool) : Nat → Int | 0 => -1 | n + 1 => if (if en = true then spE P (n : Int) else spS P (n : Int)) = true ∧ spN P (n : Int) = k then (n : Int) else fnd P k en n
theorem fnd_s (P : Int → Bool) (k : Int) (en : Bool) {x : Int} (hx : 0 ≤ x) : fnd P k en (x + 1).toNat = if (if en = true then spE P x else spS P x) = true ∧ spN P x = k then x else fnd P k en x.toNat := by
  have h1 : (x + 1).toNat = x.toNat + 1 := by omega
  rw [h1]
  show (if (if en = true then spE P ((x.toNat : Nat) : Int) else spS P ((x.toNat : Nat) : Int)) = true ∧ spN P ((x.toNat : Nat) : Int) = k then ((x.toNat : Nat) : Int) else fnd P k en x.toNat) = _
  rw [Int.toNat_of_nonneg hx]
theorem isum_nn {h : Int → Int} (hh : ∀ k, 0 ≤ h k ∧ h k ≤ 1) (n : Nat) : 0 ≤ isum h n ∧ isum h n ≤ (n : Int) := by
  induction n with
  | zero => show (0 : Int) ≤ 0 ∧ (0 : Int) ≤ ((0 : Nat) : Int); omega
  | succ n ih =>
    have h1 := hh (n : Int)
    show 0 ≤ isum h n + h (n : Int) ∧ isum h n + h (n : Int) ≤ ((n + 1 : Nat) : Int)
    omega

set_option maxHeartbeats 4000000 in
set_option maxRecDepth 100000 in
/-- countOf -/
theorem m_countOf (l : Launch) (dC : Nat → ClassId) (dI : Nat → Nat → Nat) (ad : Nat → Nat) (cs : Nat → ClassId) (sz : Nat) (ft : Int) (par : Bool) (np nc rs npc hi lo : Int) (X Y : Int → Int) (O : Int → Bool) (E RX RY : Int → Int) (RO : Int → Bool) (PC : Int → Int) (CV : Int → Bool) (b : Bool) (h1 : 0 ≤ nc ∧ nc ≤ 64) (h2 : ctOk nc E) (h3 : 0 ≤ clo nc E ∧ clo nc E ≤ 512) (h4 : ∀ k : Int, 0 ≤ k → k < clo nc E → (-8192 ≤ X k ∧ X k ≤ 8191) ∧ (-8192 ≤ Y k ∧ Y k ≤ 8191)) : Met l yM_countOf wM_countOf ({ frames := 3, cells := 0, slots := 0, locals := 70 }) (va_Pc [.ref (ad 0), .int (iI (bz b))] (fun U => U.heap.size = sz ∧ va_P (dC, dI) vwCl (mW ad cs ft par np nc rs npc hi lo X Y O E RX RY RO PC CV) U.heap ∧ va_K (dC, dI) vwCl (mT cs) U ∧ va_D (fun _ => True) (mW ad cs ft par np nc rs npc hi lo X Y O E RX RY RO PC CV))) (va_Qi (fun (r : Int32) (u : Int × Int × Int × Int × Int × (Int → Int) × (Int → Int) × (Int → Bool) × (Int → Int) × (Int → Bool)) => r = iI (tot X Y O E (hc b) nc) ∧ u.1 = ft) (fun (u : Int × Int × Int × Int × Int × (Int → Int) × (Int → Int) × (Int → Bool) × (Int → Int) × (Int → Bool)) t9 => va_P (dC, dI) vwCl (mW ad cs u.1 par np nc u.2.1 u.2.2.1 u.2.2.2.1 u.2.2.2.2.1 X Y O E u.2.2.2.2.2.1 u.2.2.2.2.2.2.1 u.2.2.2.2.2.2.2.1 u.2.2.2.2.2.2.2.2.1 u.2.2.2.2.2.2.2.2.2) t9.heap ∧ va_K (dC, dI) vwCl (mT cs) t9 ∧ va_D (va_A (mW ad cs ft par np nc rs npc hi lo X Y O E RX RY RO PC CV) sz) (mW ad cs u.1 par np nc u.2.1 u.2.2.1 u.2.2.2.1 u.2.2.2.2.1 X Y O E u.2.2.2.2.2.1 u.2.2.2.2.2.2.1 u.2.2.2.2.2.2.2.1 u.2.2.2.2.2.2.2.2.1 u.2.2.2.2.2.2.2.2.2)) (va_A (mW ad cs ft par np nc rs npc hi lo X Y O E RX RY RO PC CV) sz)) 0 0 (va_A (mW ad cs ft par np nc rs npc hi lo X Y O E RX RY RO PC CV) sz) := by
  refine Met.ofW (cc := cM_countOf) (maxL := 4) (ret := (some .int)) (by decide) rfl ?_
  intro p e s m args below meth c s₁ B hml hv
  obtain ⟨hargs, hsz, hP, hK, hD0⟩ := hv
  have hx := B.exec
  have hb := B.bytes
  have hr := B.returns
  have hts := atoms_spec (ws := wM_countOf) B.pre
  have hown : s.vm.findClass RM = some m.cls := findClass_of_methodNamed B.named
  have hlocks := B.notSynchronized
  subst hsz
  have hD := hD0.self (sz := s.heap.size)
  generalize hAe : va_A (mW ad cs ft par np nc rs npc hi lo X Y O E RX RY RO PC CV) s.heap.size = A at hD ⊢
  have hA : ∀ q : Nat, s.heap.size ≤ q → A q := fun q h => by rw [← hAe]; exact Or.inr h
  have hS0 : va_S A s.heap s.heap [] := va_S.rf
  refine x_name (fun R Q H locs hR hQ hH hlo => ?_)
  rw [← hH] at hP
  have hS : va_S A s.heap H locs := by rw [hH, hlo]; exact hS0
  refine x_entry hargs (Nat.le_of_ble_eq_true rfl) (fun ls hl => ?_)
  have hl : lv_has ls 4 [(0, .ref (ad 0)), (1, .int (iI (bz b)))] := hl
  have hP : va_P (dC, dI) vwCl (mW ad cs ft par np nc rs npc hi lo X Y O E RX RY RO PC CV) H := hP
  refine lv_aload_n hx hb dM_countOf_0 rfl (lv_at hl 0 rfl) ?_
  have hFc := xw_free hD hS hA
  refine va_callv (va_runV (As := []) (rest := []) ⟨hx, hb, hml, hown, hts⟩ (m_makePieces l dC dI ad cs H.size ft par np nc rs npc hi lo X Y O E RX RY RO PC CV h1 h2 h3 h4) (cwV 0 hts (tb_V mlM_139 imM_makePieces seM_makePieces iniM coM_makePieces) rfl rfl rfl (by decide +kernel) (by subst hR; exact ⟨Nat.le_of_ble_eq_true rfl, Nat.le_of_ble_eq_true rfl⟩)) ⟨fun a9 U9 g9 mk9 q9 => by obtain ⟨q0, q1, qP, qK, qD⟩ := q9; exact ⟨q0, q1, qP, va_K.moved (u := U9) (U := U9.calling g9 mk9 a9) (Vm.Alike.refl U9.vm) qK, qD⟩, va_recv hK hP (ci := 3) (q0 := 0) rfl rfl, fun U hU hW => ⟨rfl, by rw [hU], by rw [hU]; exact hP, va_K.moved hW.alike hK, hD.weaken (fun _ _ _ _ => trivial)⟩⟩ rfl rfl hl.1 rfl (lv_room (Nat.le_of_ble_eq_true rfl)) dM_countOf_1 ⟨by subst hR; exact Nat.le_of_ble_eq_true rfl, by subst hR; exact Nat.le_of_ble_eq_true rfl⟩) hS (fun q9 _ h9 => hFc q9 h9) hFc (fun u_1 t9 H1 locs1 ht9 hvm9 hw_1 hB9 hz9 hk9 hS1 => ?_)
  obtain ⟨hP1, hK1, hD1⟩ := hB9
  rw [ht9] at hP1
  have hP : va_P (dC, dI) vwCl (mW ad cs ft par np nc u_1.2.2.2.1 u_1.1 hi lo X Y O E u_1.2.2.2.2.1 u_1.2.2.2.2.2.1 u_1.2.2.2.2.2.2 u_1.2.1 u_1.2.2.1) H1 := hP1
  have hD : va_D A (mW ad cs ft par np nc u_1.2.2.2.1 u_1.1 hi lo X Y O E u_1.2.2.2.2.1 u_1.2.2.2.2.2.1 u_1.2.2.2.2.2.2 u_1.2.1 u_1.2.2.1) := hD1.weaken (fun _ _ _ h9 => hFc _ h9)
  clear hP1 hD1 hK1 hFc
  have hS := hS1
  clear hS1 hz9 hk9 ht9 hvm9
  revert hP hD hS; generalize H1 = H; generalize locs1 = locs; intro hP hD hS
  obtain ⟨hnp, hsum, hpok⟩ := hw_1
  refine xi_iconst hx hb dM_countOf_4 ?_
  refine lv_istore_n (lv' := [(2, .int (iI 0)), (0, .ref (ad 0)), (1, .int (iI (bz b)))]) hx hb dM_countOf_5 rfl hl (by decide) rfl (fun ls hl => ?_)
  refine xi_iconst hx hb dM_countOf_6 ?_
  refine lv_istore_n (lv' := [(3, .int (iI 0)), (2, .int (iI 0)), (0, .ref (ad 0)), (1, .int (iI (bz b)))]) hx hb dM_countOf_7 rfl hl (by decide) rfl (fun ls hl => ?_)
  have cut_8_1 : ∀ (fu_8 : Nat) (k : Int) (n : Int) (ls : Array Slot), ((u_1.1 - k).toNat) < fu_8 → (0 ≤ k ∧ k ≤ u_1.1) → (n = isum (pcs (hc b) u_1.2.1 u_1.2.2.1) k.toNat) → lv_has ls 4 [(0, .ref (ad 0)), (1, .int (iI (bz b))), (2, .int (iI n)), (3, .int (iI k))] → W p l e R s m args below meth c H locs 0 0 Q (F0 m 8 ls []) := by
    intro fu_8
    induction fu_8 with
    | zero => intro _ _ _ hm; exact absurd hm (Nat.not_lt_zero _)
    | succ fu_8 ih_8 =>
      intro k n ls hm i1 i2 hl
      have b1 := isum_nn (h := pcs (hc b) u_1.2.1 u_1.2.2.1) (fun k => bz_in _) k.toNat
      rw [← i2] at b1
      refine lv_iload_n hx hb dM_countOf_8 rfl (lv_at hl 3 rfl) ?_
      refine lv_aload_n hx hb dM_countOf_9 rfl (lv_at hl 0 rfl) ?_
      refine va_get (D := (dC, dI)) (ci := 3) (v := .int (iI u_1.1)) (C := RM) (T := TM) (N := 17) hx hb hts (fun w9 h9 => List.mem_cons_of_mem _ (inM w9 h9)) hown hK hP 0 rfl rfl 12 (by decide) (hts _ (List.mem_cons_of_mem _ flM_78)) (fun _ h9 => h9) rfl dM_countOf_10 ?_
      refine xi_icmp_ge (tgt := 40) hx hb dM_countOf_13 (by decide) (by omega) (by omega) (fun c_13 => ?_) (fun c_13 => ?_)
      · skip
        refine lv_iload_n hx hb dM_countOf_40 rfl (lv_at hl 2 rfl) ?_
        subst hQ
        exact W.iret (v := (iI n)) hx hb hr (fun t9 ht9 hW9 => ⟨⟨_, (ft, u_1.2.2.2.1, u_1.1, hi, lo, u_1.2.2.2.2.1, u_1.2.2.2.2.2.1, u_1.2.2.2.2.2.2, u_1.2.1, u_1.2.2.1), rfl, (⟨by rw [i2, show k = u_1.1 by omega, hsum], rfl⟩), by rw [ht9]; exact hP, va_K.moved hW9.alike hK, hD⟩, hS.F ht9⟩) hS.2.2 dM_countOf_41
      · skip
        have cut_33_2 : ∀ (v : Int) (ls : Array Slot), (v = isum (pcs (hc b) u_1.2.1 u_1.2.2.1) (k + 1).toNat) → lv_has ls 4 [(0, .ref (ad 0)), (1, .int (iI (bz b))), (2, .int (iI n)), (3, .int (iI k))] → W p l e R s m args below meth c H locs 0 0 Q (F0 m 33 ls [.int (iI v)]) := by
          intro v ls hv hl
          refine lv_istore_n (lv' := [(2, .int (iI v)), (0, .ref (ad 0)), (1, .int (iI (bz b))), (3, .int (iI k))]) hx hb dM_countOf_33 rfl hl (by decide) rfl (fun ls hl => ?_)
          refine xi_iinc (z := k + 1) (lv' := [(3, .int (iI (k + 1))), (2, .int (iI v)), (0, .ref (ad 0)), (1, .int (iI (bz b)))]) hx hb dM_countOf_34 hl (k := 3) rfl rfl (by decide) rfl (fun ls hl => ?_)
          refine lv_goto (tgt := 8) hx hb dM_countOf_37 (by decide) ?_
          exact ih_8 (k + 1) v _ (by omega) (by omega) (hv) (lv_sub hl [2, 3, 1, 0] rfl)
        refine lv_aload_n hx hb dM_countOf_16 rfl (lv_at hl 0 rfl) ?_
        refine va_get (D := (dC, dI)) (ci := 3) (v := .ref (ad 9)) (C := RM) (T := TM) (N := 17) hx hb hts (fun w9 h9 => List.mem_cons_of_mem _ (inM w9 h9)) hown hK hP 0 rfl rfl 14 (by decide) (hts _ (List.mem_cons_of_mem _ flM_35)) (fun _ h9 => h9) rfl dM_countOf_17 ?_
        refine lv_iload_n hx hb dM_countOf_20 rfl (lv_at hl 3 rfl) ?_
        refine xa_zald hx hb hK hP 9 8 rfl rfl (by decide) (by omega) dM_countOf_21 ?_
        refine lv_iload_n hx hb dM_countOf_22 rfl (lv_at hl 1 rfl) ?_
        refine xb_icmp_ne (tgt := 32) hx hb dM_countOf_23 (by decide) (fun c_23 => ?_) (fun c_23 => ?_)
        · skip
          refine lv_iload_n hx hb dM_countOf_32 rfl (lv_at hl 2 rfl) ?_
          exact cut_33_2 n _ (by rw [isum_s _ i1.1, ← i2]; unfold pcs hc; rw [show (u_1.2.2.1 k == b) = false by simpa using c_23]; show n = n + 0; omega) (lv_sub hl [0, 1, 2, 3] rfl)
        · skip
          refine lv_iload_n hx hb dM_countOf_26 rfl (lv_at hl 2 rfl) ?_
          refine xi_iconst hx hb dM_countOf_27 ?_
          refine xi_add (z := n + 1) hx hb dM_countOf_28 rfl ?_
          refine lv_goto (tgt := 33) hx hb dM_countOf_29 (by decide) ?_
          exact cut_33_2 (n + 1) _ (by rw [isum_s _ i1.1, ← i2]; unfold pcs hc; rw [show (u_1.2.2.1 k == b) = true by rw [c_23]; exact beq_self_eq_true b]; rfl) (lv_sub hl [0, 1, 2, 3] rfl)
  exact cut_8_1 (((u_1.1 - (0 : Int)).toNat) + 1) 0 0 _ (Nat.lt_succ_self _) (by omega) (rfl) (lv_sub hl [2, 3, 1, 0] rfl)
set_option maxHeartbeats 4000000 in
set_option maxRecDepth 100000 in
/-- setPixels -/
theorem m_setPixels (l : Launch) (dC : Nat → ClassId) (dI : Nat → Nat → Nat) (ad : Nat → Nat) (cs : Nat → ClassId) (sz : Nat) (ft : Int) (par : Bool) (np nc rs npc hi lo : Int) (X Y : Int → Int) (O : Int → Bool) (E RX RY : Int → Int) (RO : Int → Bool) (PC : Int → Int) (CV : Int → Bool) (h1 : 0 ≤ nc ∧ nc ≤ 64) (h2 : ctOk nc E) (h3 : 0 ≤ clo nc E ∧ clo nc E ≤ 512) (h4 : ∀ k : Int, 0 ≤ k → k < clo nc E → (-8192 ≤ X k ∧ X k ≤ 8191) ∧ (-8192 ≤ Y k ∧ Y k ≤ 8191)) : Met l yM_setPixels wM_setPixels ({ frames := 8, cells := 0, slots := 0, locals := 243 }) (va_Pc [.ref (ad 0)] (fun U => U.heap.size = sz ∧ va_P (dC, dI) vwCl (mW ad cs ft par np nc rs npc hi lo X Y O E RX RY RO PC CV) U.heap ∧ va_K (dC, dI) vwCl (mT cs) U ∧ va_D (fun _ => True) (mW ad cs ft par np nc rs npc hi lo X Y O E RX RY RO PC CV))) (va_Qi (fun (r : Int32) (u : Int × Int × Int × Int × Int × (Int → Int) × (Int → Int) × (Int → Bool) × (Int → Int) × (Int → Bool)) => r = iI (isum (fun k => bz (pxR X Y O E nc par (k / 64) (k % 64))) 4096) ∧ u.1 = ft) (fun (u : Int × Int × Int × Int × Int × (Int → Int) × (Int → Int) × (Int → Bool) × (Int → Int) × (Int → Bool)) t9 => va_P (dC, dI) vwCl (mW ad cs u.1 par np nc u.2.1 u.2.2.1 u.2.2.2.1 u.2.2.2.2.1 X Y O E u.2.2.2.2.2.1 u.2.2.2.2.2.2.1 u.2.2.2.2.2.2.2.1 u.2.2.2.2.2.2.2.2.1 u.2.2.2.2.2.2.2.2.2) t9.heap ∧ va_K (dC, dI) vwCl (mT cs) t9 ∧ va_D (va_A (mW ad cs ft par np nc rs npc hi lo X Y O E RX RY RO PC CV) sz) (mW ad cs u.1 par np nc u.2.1 u.2.2.1 u.2.2.2.1 u.2.2.2.2.1 X Y O E u.2.2.2.2.2.1 u.2.2.2.2.2.2.1 u.2.2.2.2.2.2.2.1 u.2.2.2.2.2.2.2.2.1 u.2.2.2.2.2.2.2.2.2)) (va_A (mW ad cs ft par np nc rs npc hi lo X Y O E RX RY RO PC CV) sz)) 0 0 (va_A (mW ad cs ft par np nc rs npc hi lo X Y O E RX RY RO PC CV) sz) := by
  refine Met.ofW (cc := cM_setPixels) (maxL := 3) (ret := (some .int)) (by decide) rfl ?_
  intro p e s m args below meth c s₁ B hml hv
  obtain ⟨hargs, hsz, hP, hK, hD0⟩ := hv
  have hx := B.exec
  have hb := B.bytes
  have hr := B.returns
  have hts := atoms_spec (ws := wM_setPixels) B.pre
  have hown : s.vm.findClass RM = some m.cls := findClass_of_methodNamed B.named
  have hlocks := B.notSynchronized
  subst hsz
  have hD := hD0.self (sz := s.heap.size)
  generalize hAe : va_A (mW ad cs ft par np nc rs npc hi lo X Y O E RX RY RO PC CV) s.heap.size = A at hD ⊢
  have hA : ∀ q : Nat, s.heap.size ≤ q → A q := fun q h => by rw [← hAe]; exact Or.inr h
  have hS0 : va_S A s.heap s.heap [] := va_S.rf
  refine x_name (fun R Q H locs hR hQ hH hlo => ?_)
  rw [← hH] at hP
  have hS : va_S A s.heap H locs := by rw [hH, hlo]; exact hS0
  refine x_entry hargs (Nat.le_of_ble_eq_true rfl) (fun ls hl => ?_)
  have hl : lv_has ls 3 [(0, .ref (ad 0))] := hl
  have hP : va_P (dC, dI) vwCl (mW ad cs ft par np nc rs npc hi lo X Y O E RX RY RO PC CV) H := hP
  refine lv_aload_n hx hb dM_setPixels_0 rfl (lv_at hl 0 rfl) ?_
  have hFc := xw_free hD hS hA
  refine va_callv (va_runV (As := []) (rest := []) ⟨hx, hb, hml, hown, hts⟩ (m_makePieces l dC dI ad cs H.size ft par np nc rs npc hi lo X Y O E RX RY RO PC CV h1 h2 h3 h4) (cwV 0 hts (tb_V mlM_139 imM_makePieces seM_makePieces iniM coM_makePieces) rfl rfl rfl (by decide +kernel) (by subst hR; exact ⟨Nat.le_of_ble_eq_true rfl, Nat.le_of_ble_eq_true rfl⟩)) ⟨fun a9 U9 g9 mk9 q9 => by obtain ⟨q0, q1, qP, qK, qD⟩ := q9; exact ⟨q0, q1, qP, va_K.moved (u := U9) (U := U9.calling g9 mk9 a9) (Vm.Alike.refl U9.vm) qK, qD⟩, va_recv hK hP (ci := 3) (q0 := 0) rfl rfl, fun U hU hW => ⟨rfl, by rw [hU], by rw [hU]; exact hP, va_K.moved hW.alike hK, hD.weaken (fun _ _ _ _ => trivial)⟩⟩ rfl rfl hl.1 rfl (lv_room (Nat.le_of_ble_eq_true rfl)) dM_setPixels_1 ⟨by subst hR; exact Nat.le_of_ble_eq_true rfl, by subst hR; exact Nat.le_of_ble_eq_true rfl⟩) hS (fun q9 _ h9 => hFc q9 h9) hFc (fun u_1 t9 H1 locs1 ht9 hvm9 hw_1 hB9 hz9 hk9 hS1 => ?_)
  obtain ⟨hP1, hK1, hD1⟩ := hB9
  rw [ht9] at hP1
  have hP : va_P (dC, dI) vwCl (mW ad cs ft par np nc u_1.2.2.2.1 u_1.1 hi lo X Y O E u_1.2.2.2.2.1 u_1.2.2.2.2.2.1 u_1.2.2.2.2.2.2 u_1.2.1 u_1.2.2.1) H1 := hP1
  have hD : va_D A (mW ad cs ft par np nc u_1.2.2.2.1 u_1.1 hi lo X Y O E u_1.2.2.2.2.1 u_1.2.2.2.2.2.1 u_1.2.2.2.2.2.2 u_1.2.1 u_1.2.2.1) := hD1.weaken (fun _ _ _ h9 => hFc _ h9)
  clear hP1 hD1 hK1 hFc
  have hS := hS1
  clear hS1 hz9 hk9 ht9 hvm9
  revert hP hD hS; generalize H1 = H; generalize locs1 = locs; intro hP hD hS
  obtain ⟨hnp, hsum, hpok⟩ := hw_1
  refine xi_iconst hx hb dM_setPixels_4 ?_
  refine lv_istore_n (lv' := [(1, .int (iI 0)), (0, .ref (ad 0))]) hx hb dM_setPixels_5 rfl hl (by decide) rfl (fun ls hl => ?_)
  refine xi_iconst hx hb dM_setPixels_6 ?_
  refine lv_istore_n (lv' := [(2, .int (iI 0)), (1, .int (iI 0)), (0, .ref (ad 0))]) hx hb dM_setPixels_7 rfl hl (by decide) rfl (fun ls hl => ?_)
  have cut_8_1 : ∀ (fu_8 : Nat) (k : Int) (n : Int) (hi2 : Int) (lo2 : Int) (H : Heap) (locs : List Loc) (ls : Array Slot), ((4096 - k).toNat) < fu_8 → (0 ≤ k ∧ k ≤ 4096) → (n = isum (fun k => bz (pxR X Y O E nc par (k / 64) (k % 64))) k.toNat) → va_P (dC, dI) vwCl (mW ad cs ft par np nc u_1.2.2.2.1 u_1.1 hi2 lo2 X Y O E u_1.2.2.2.2.1 u_1.2.2.2.2.2.1 u_1.2.2.2.2.2.2 u_1.2.1 u_1.2.2.1) H → va_D A (mW ad cs ft par np nc u_1.2.2.2.1 u_1.1 hi2 lo2 X Y O E u_1.2.2.2.2.1 u_1.2.2.2.2.2.1 u_1.2.2.2.2.2.2 u_1.2.1 u_1.2.2.1) → va_S A s.heap H locs → lv_has ls 3 [(0, .ref (ad 0)), (1, .int (iI n)), (2, .int (iI k))] → W p l e R s m args below meth c H locs 0 0 Q (F0 m 8 ls []) := by
    intro fu_8
    induction fu_8 with
    | zero => intro _ _ _ _ _ _ _ hm; exact absurd hm (Nat.not_lt_zero _)
    | succ fu_8 ih_8 =>
      intro k n hi2 lo2 H locs ls hm i1 i2 hP hD hS hl
      have b1 := isum_nn (h := fun k => bz (pxR X Y O E nc par (k / 64) (k % 64))) (fun k => bz_in _) k.toNat
      rw [← i2] at b1
      refine lv_iload_n hx hb dM_setPixels_8 rfl (lv_at hl 2 rfl) ?_
      refine lv_sipush (v := iI 4096) hx hb dM_setPixels_9 (by decide +kernel) ?_
      refine xi_icmp_ge (tgt := 44) hx hb dM_setPixels_12 (by decide) (by omega) (by omega) (fun c_12 => ?_) (fun c_12 => ?_)
      · skip
        refine lv_iload_n hx hb dM_setPixels_44 rfl (lv_at hl 1 rfl) ?_
        subst hQ
        exact W.iret (v := (iI n)) hx hb hr (fun t9 ht9 hW9 => ⟨⟨_, (ft, u_1.2.2.2.1, u_1.1, hi2, lo2, u_1.2.2.2.2.1, u_1.2.2.2.2.2.1, u_1.2.2.2.2.2.2, u_1.2.1, u_1.2.2.1), rfl, (⟨by rw [i2, show k = 4096 by omega]; rfl, rfl⟩), by rw [ht9]; exact hP, va_K.moved hW9.alike hK, hD⟩, hS.F ht9⟩) hS.2.2 dM_setPixels_45
      · skip
        refine lv_aload_n hx hb dM_setPixels_15 rfl (lv_at hl 0 rfl) ?_
        refine lv_iload_n hx hb dM_setPixels_16 rfl (lv_at hl 2 rfl) ?_
        refine lv_bipush (v := iI 64) hx hb dM_setPixels_17 (by decide +kernel) ?_
        refine xi_rem (z := k % 64) hx hb dM_setPixels_19 (by omega) (by omega) rfl ?_
        refine lv_iload_n hx hb dM_setPixels_20 rfl (lv_at hl 2 rfl) ?_
        refine lv_bipush (v := iI 64) hx hb dM_setPixels_21 (by decide +kernel) ?_
        refine xi_div (z := k / 64) hx hb dM_setPixels_23 (by omega) (by omega) rfl ?_
        have hFc := xw_free hD hS hA
        refine va_calli (va_runV (As := [.int (iI (k % 64)), .int (iI (k / 64))]) (rest := []) ⟨hx, hb, hml, hown, hts⟩ (m_isSet l dC dI ad cs H.size ft par np nc u_1.2.2.2.1 u_1.1 hi2 lo2 X Y O E u_1.2.2.2.2.1 u_1.2.2.2.2.2.1 u_1.2.2.2.2.2.2 u_1.2.1 u_1.2.2.1 (k % 64) (k / 64) hnp hpok (by omega) (by omega)) (cwV 2 hts (tb_V mlM_142 imM_isSet seM_isSet iniM coM_isSet) rfl rfl rfl (by decide +kernel) (by subst hR; exact ⟨Nat.le_of_ble_eq_true rfl, Nat.le_of_ble_eq_true rfl⟩)) ⟨fun a9 U9 g9 mk9 q9 => by obtain ⟨q0, q1, qP, qK, qD⟩ := q9; exact ⟨q0, q1, qP, va_K.moved (u := U9) (U := U9.calling g9 mk9 a9) (Vm.Alike.refl U9.vm) qK, qD⟩, va_recv hK hP (ci := 3) (q0 := 0) rfl rfl, fun U hU hW => ⟨rfl, by rw [hU], by rw [hU]; exact hP, va_K.moved hW.alike hK, hD.weaken (fun _ _ _ _ => trivial)⟩⟩ rfl rfl hl.1 rfl (lv_room (Nat.le_of_ble_eq_true rfl)) dM_setPixels_24 ⟨by subst hR; exact Nat.le_of_ble_eq_true rfl, by subst hR; exact Nat.le_of_ble_eq_true rfl⟩) hS (fun q9 _ h9 => hFc q9 h9) hFc (fun r_24 u_24 t9 H1 locs1 ht9 hvm9 hw_24 hB9 hz9 hk9 hS1 => ?_)
        obtain ⟨hP1, hK1, hD1⟩ := hB9
        rw [ht9] at hP1
        have hP : va_P (dC, dI) vwCl (mW ad cs ft par np nc u_1.2.2.2.1 u_1.1 u_24.1 u_24.2 X Y O E u_1.2.2.2.2.1 u_1.2.2.2.2.2.1 u_1.2.2.2.2.2.2 u_1.2.1 u_1.2.2.1) H1 := hP1
        have hD : va_D A (mW ad cs ft par np nc u_1.2.2.2.1 u_1.1 u_24.1 u_24.2 X Y O E u_1.2.2.2.2.1 u_1.2.2.2.2.2.1 u_1.2.2.2.2.2.2 u_1.2.1 u_1.2.2.1) := hD1.weaken (fun _ _ _ h9 => hFc _ h9)
        clear hP1 hD1 hK1 hFc
        have hS := hS1
        clear hS1 hz9 hk9 ht9 hvm9
        revert hP hD hS; generalize H1 = H; generalize locs1 = locs; intro hP hD hS
        obtain ⟨hr_24, hw_24⟩ := hw_24; subst hr_24
        have e9 : pxR X Y O E nc par (k / 64) (k % 64) = isin par (wnd u_1.2.1 u_1.2.2.1 u_1.1 (64 * (k % 64) + 32) (64 * (63 - k / 64) + 32)) := by unfold pxR; rw [wnd_wR hsum]
        have cut_37_2 : ∀ (v : Int) (ls : Array Slot), (v = isum (fun k => bz (pxR X Y O E nc par (k / 64) (k % 64))) (k + 1).toNat) → lv_has ls 3 [(0, .ref (ad 0)), (1, .int (iI n)), (2, .int (iI k))] → W p l e R s m args below meth c H locs 0 0 Q (F0 m 37 ls [.int (iI v)]) := by
          intro v ls hv hl
          refine lv_istore_n (lv' := [(1, .int (iI v)), (0, .ref (ad 0)), (2, .int (iI k))]) hx hb dM_setPixels_37 rfl hl (by decide) rfl (fun ls hl => ?_)
          refine xi_iinc (z := k + 1) (lv' := [(2, .int (iI (k + 1))), (1, .int (iI v)), (0, .ref (ad 0))]) hx hb dM_setPixels_38 hl (k := 2) rfl rfl (by decide) rfl (fun ls hl => ?_)
          refine lv_goto (tgt := 8) hx hb dM_setPixels_41 (by decide) ?_
          exact ih_8 (k + 1) v u_24.1 u_24.2 _ _ _ (by omega) (by omega) (hv) hP hD hS (lv_sub hl [2, 1, 0] rfl)
        refine xb_if_eq (tgt := 36) hx hb dM_setPixels_27 (by decide) (fun c_27 => ?_) (fun c_27 => ?_)
        · skip
          refine lv_iload_n hx hb dM_setPixels_36 rfl (lv_at hl 1 rfl) ?_
          exact cut_37_2 n _ (by rw [isum_s _ i1.1, ← i2, e9, c_27]; show n = n + 0; omega) (lv_sub hl [0, 1, 2] rfl)
        · skip
          refine lv_iload_n hx hb dM_setPixels_30 rfl (lv_at hl 1 rfl) ?_
          refine xi_iconst hx hb dM_setPixels_31 ?_
          refine xi_add (z := n + 1) hx hb dM_setPixels_32 rfl ?_
          refine lv_goto (tgt := 37) hx hb dM_setPixels_33 (by decide) ?_
          exact cut_37_2 (n + 1) _ (by rw [isum_s _ i1.1, ← i2, e9, c_27]; rfl) (lv_sub hl [0, 1, 2] rfl)
  exact cut_8_1 (((4096 - (0 : Int)).toNat) + 1) 0 0 hi lo _ _ _ (Nat.lt_succ_self _) (by omega) (rfl) hP hD hS (lv_sub hl [2, 1, 0] rfl)
def cnR (X Y : Int → Int) (O : Int → Bool) (E : Int → Int) (np nc : Int) (par : Bool) (w : Int) : Int := if w = 0 then nc else if w = 1 then np else if w = 2 then tot X Y O E (hc false) nc else if w = 3 then tot X Y O E (hc true) nc else if w = 4 then isum (fun k => bz (pxR X Y O E nc par (k / 64) (k % 64))) 4096 else -1
set_option maxHeartbeats 4000000 in
set_option maxRecDepth 100000 in
/-- count -/
theorem m_count (l : Launch) (dC : Nat → ClassId) (dI : Nat → Nat → Nat) (ad : Nat → Nat) (cs : Nat → ClassId) (sz : Nat) (ft : Int) (par : Bool) (np nc rs npc hi lo : Int) (X Y : Int → Int) (O : Int → Bool) (E RX RY : Int → Int) (RO : Int → Bool) (PC : Int → Int) (CV : Int → Bool) (w : Int) (h1 : 0 ≤ nc ∧ nc ≤ 64) (h2 : ctOk nc E) (h3 : 0 ≤ clo nc E ∧ clo nc E ≤ 512) (h4 : ∀ k : Int, 0 ≤ k → k < clo nc E → (-8192 ≤ X k ∧ X k ≤ 8191) ∧ (-8192 ≤ Y k ∧ Y k ≤ 8191)) (hw0 : -2147483648 ≤ w ∧ w ≤ 2147483647) : Met l yM_count wM_count ({ frames := 9, cells := 0, slots := 0, locals := 265 }) (va_Pc [.ref (ad 0), .int (iI w)] (fun U => U.heap.size = sz ∧ va_P (dC, dI) vwCl (mW ad cs ft par np nc rs npc hi lo X Y O E RX RY RO PC CV) U.heap ∧ va_K (dC, dI) vwCl (mT cs) U ∧ va_D (fun _ => True) (mW ad cs ft par np nc rs npc hi lo X Y O E RX RY RO PC CV))) (va_Qi (fun (r : Int32) (u : Int × Int × Int × Int × Int × (Int → Int) × (Int → Int) × (Int → Bool) × (Int → Int) × (Int → Bool)) => r = iI (cnR X Y O E np nc par w) ∧ u.1 = 0) (fun (u : Int × Int × Int × Int × Int × (Int → Int) × (Int → Int) × (Int → Bool) × (Int → Int) × (Int → Bool)) t9 => va_P (dC, dI) vwCl (mW ad cs u.1 par np nc u.2.1 u.2.2.1 u.2.2.2.1 u.2.2.2.2.1 X Y O E u.2.2.2.2.2.1 u.2.2.2.2.2.2.1 u.2.2.2.2.2.2.2.1 u.2.2.2.2.2.2.2.2.1 u.2.2.2.2.2.2.2.2.2) t9.heap ∧ va_K (dC, dI) vwCl (mT cs) t9 ∧ va_D (va_A (mW ad cs ft par np nc rs npc hi lo X Y O E RX RY RO PC CV) sz) (mW ad cs u.1 par np nc u.2.1 u.2.2.1 u.2.2.2.1 u.2.2.2.2.1 X Y O E u.2.2.2.2.2.1 u.2.2.2.2.2.2.1 u.2.2.2.2.2.2.2.1 u.2.2.2.2.2.2.2.2.1 u.2.2.2.2.2.2.2.2.2)) (va_A (mW ad cs ft par np nc rs npc hi lo X Y O E RX RY RO PC CV) sz)) 0 0 (va_A (mW ad cs ft par np nc rs npc hi lo X Y O E RX RY RO PC CV) sz) := by
  refine Met.ofW (cc := cM_count) (maxL := 2) (ret := (some .int)) (by decide) rfl ?_
  intro p e s m args below meth c s₁ B hml hv
  obtain ⟨hargs, hsz, hP, hK, hD0⟩ := hv
  have hx := B.exec
  have hb := B.bytes
  have hr := B.returns
  have hts := atoms_spec (ws := wM_count) B.pre
  have hown : s.vm.findClass RM = some m.cls := findClass_of_methodNamed B.named
  have hlocks := B.notSynchronized
  subst hsz
  have hD := hD0.self (sz := s.heap.size)
  generalize hAe : va_A (mW ad cs ft par np nc rs npc hi lo X Y O E RX RY RO PC CV) s.heap.size = A at hD ⊢
  have hA : ∀ q : Nat, s.heap.size ≤ q → A q := fun q h => by rw [← hAe]; exact Or.inr h
  have hS0 : va_S A s.heap s.heap [] := va_S.rf
  refine x_name (fun R Q H locs hR hQ hH hlo => ?_)
  rw [← hH] at hP
  have hS : va_S A s.heap H locs := by rw [hH, hlo]; exact hS0
  refine x_entry hargs (Nat.le_of_ble_eq_true rfl) (fun ls hl => ?_)
  have hl : lv_has ls 2 [(0, .ref (ad 0)), (1, .int (iI w))] := hl
  have hP : va_P (dC, dI) vwCl (mW ad cs ft par np nc rs npc hi lo X Y O E RX RY RO PC CV) H := hP
  refine lv_aload_n hx hb dM_count_0 rfl (lv_at hl 0 rfl) ?_
  refine xi_iconst hx hb dM_count_1 ?_
  refine va_put (D := (dC, dI)) (ci := 3) (v := .int (iI 0)) (ty := .int) (C := RM) (T := TM) (N := 17) hx hb hts (fun w9 h9 => List.mem_cons_of_mem _ (inM w9 h9)) tyM tyM_ok nmM hown hK hP hD hS 0 rfl rfl 0 (by decide) (hts _ (List.mem_cons_of_mem _ flM_38)) (fun _ h9 => h9) rfl (by decide +kernel) rfl rfl (Nat.le_of_ble_eq_true rfl) dM_count_2 (fun H locs hP hD hS => ?_)
  have hP : va_P (dC, dI) vwCl (mW ad cs 0 par np nc rs npc hi lo X Y O E RX RY RO PC CV) H := hP
  have hD : va_D A (mW ad cs 0 par np nc rs npc hi lo X Y O E RX RY RO PC CV) := hD
  refine lv_iload_n hx hb dM_count_5 rfl (lv_at hl 1 rfl) ?_
  rcases (show w = 0 ∨ w = 1 ∨ w = 2 ∨ w = 3 ∨ w = 4 ∨ (w < 0 ∨ 4 < w) by omega) with hz_0 | hz_1 | hz_2 | hz_3 | hz_4 | hz_d
  · refine lv_tableIn (tgt := 40) hx hb dM_count_6 (by rw [iI_toInt (by omega)]; omega) (by rw [iI_toInt (by omega)]; omega) (by rw [iI_toInt (by omega), hz_0]; rfl) (by decide) ?_
    refine lv_aload_n hx hb dM_count_40 rfl (lv_at hl 0 rfl) ?_
    refine va_get (D := (dC, dI)) (ci := 3) (v := .int (iI nc)) (C := RM) (T := TM) (N := 17) hx hb hts (fun w9 h9 => List.mem_cons_of_mem _ (inM w9 h9)) hown hK hP 0 rfl rfl 6 (by decide) (hts _ (List.mem_cons_of_mem _ flM_53)) (fun _ h9 => h9) rfl dM_count_41 ?_
    subst hQ
    exact W.iret (v := (iI nc)) hx hb hr (fun t9 ht9 hW9 => ⟨⟨_, (0, rs, npc, hi, lo, RX, RY, RO, PC, CV), rfl, (⟨by unfold cnR; rw [if_pos hz_0], rfl⟩), by rw [ht9]; exact hP, va_K.moved hW9.alike hK, hD⟩, hS.F ht9⟩) hS.2.2 dM_count_44
  · refine lv_tableIn (tgt := 45) hx hb dM_count_6 (by rw [iI_toInt (by omega)]; omega) (by rw [iI_toInt (by omega)]; omega) (by rw [iI_toInt (by omega), hz_1]; rfl) (by decide) ?_
    refine lv_aload_n hx hb dM_count_45 rfl (lv_at hl 0 rfl) ?_
    refine va_get (D := (dC, dI)) (ci := 3) (v := .int (iI np)) (C := RM) (T := TM) (N := 17) hx hb hts (fun w9 h9 => List.mem_cons_of_mem _ (inM w9 h9)) hown hK hP 0 rfl rfl 2 (by decide) (hts _ (List.mem_cons_of_mem _ flM_46)) (fun _ h9 => h9) rfl dM_count_46 ?_
    subst hQ
    exact W.iret (v := (iI np)) hx hb hr (fun t9 ht9 hW9 => ⟨⟨_, (0, rs, npc, hi, lo, RX, RY, RO, PC, CV), rfl, (⟨by unfold cnR; rw [if_neg (by omega), if_pos hz_1], rfl⟩), by rw [ht9]; exact hP, va_K.moved hW9.alike hK, hD⟩, hS.F ht9⟩) hS.2.2 dM_count_49
  · refine lv_tableIn (tgt := 50) hx hb dM_count_6 (by rw [iI_toInt (by omega)]; omega) (by rw [iI_toInt (by omega)]; omega) (by rw [iI_toInt (by omega), hz_2]; rfl) (by decide) ?_
    refine lv_aload_n hx hb dM_count_50 rfl (lv_at hl 0 rfl) ?_
    refine xi_iconst hx hb dM_count_51 ?_
    have hFc := xw_free hD hS hA
    refine va_calli (va_runV (As := [.int (iI (bz false))]) (rest := []) ⟨hx, hb, hml, hown, hts⟩ (m_countOf l dC dI ad cs H.size 0 par np nc rs npc hi lo X Y O E RX RY RO PC CV false h1 h2 h3 h4) (cwV 1 hts (tb_V mlM_145 imM_countOf seM_countOf iniM coM_countOf) rfl rfl rfl (by decide +kernel) (by subst hR; exact ⟨Nat.le_of_ble_eq_true rfl, Nat.le_of_ble_eq_true rfl⟩)) ⟨fun a9 U9 g9 mk9 q9 => by obtain ⟨q0, q1, qP, qK, qD⟩ := q9; exact ⟨q0, q1, qP, va_K.moved (u := U9) (U := U9.calling g9 mk9 a9) (Vm.Alike.refl U9.vm) qK, qD⟩, va_recv hK hP (ci := 3) (q0 := 0) rfl rfl, fun U hU hW => ⟨rfl, by rw [hU], by rw [hU]; exact hP, va_K.moved hW.alike hK, hD.weaken (fun _ _ _ _ => trivial)⟩⟩ rfl rfl hl.1 rfl (lv_room (Nat.le_of_ble_eq_true rfl)) dM_count_52 ⟨by subst hR; exact Nat.le_of_ble_eq_true rfl, by subst hR; exact Nat.le_of_ble_eq_true rfl⟩) hS (fun q9 _ h9 => hFc q9 h9) hFc (fun r_52 u_52 t9 H1 locs1 ht9 hvm9 hw_52 hB9 hz9 hk9 hS1 => ?_)
    obtain ⟨hP1, hK1, hD1⟩ := hB9
    rw [ht9] at hP1
    have hP : va_P (dC, dI) vwCl (mW ad cs u_52.1 par np nc u_52.2.1 u_52.2.2.1 u_52.2.2.2.1 u_52.2.2.2.2.1 X Y O E u_52.2.2.2.2.2.1 u_52.2.2.2.2.2.2.1 u_52.2.2.2.2.2.2.2.1 u_52.2.2.2.2.2.2.2.2.1 u_52.2.2.2.2.2.2.2.2.2) H1 := hP1
    have hD : va_D A (mW ad cs u_52.1 par np nc u_52.2.1 u_52.2.2.1 u_52.2.2.2.1 u_52.2.2.2.2.1 X Y O E u_52.2.2.2.2.2.1 u_52.2.2.2.2.2.2.1 u_52.2.2.2.2.2.2.2.1 u_52.2.2.2.2.2.2.2.2.1 u_52.2.2.2.2.2.2.2.2.2) := hD1.weaken (fun _ _ _ h9 => hFc _ h9)
    clear hP1 hD1 hK1 hFc
    have hS := hS1
    clear hS1 hz9 hk9 ht9 hvm9
    revert hP hD hS; generalize H1 = H; generalize locs1 = locs; intro hP hD hS
    obtain ⟨hr_52, hw_52⟩ := hw_52; subst hr_52
    subst hQ
    exact W.iret (v := (iI (tot X Y O E (hc false) nc))) hx hb hr (fun t9 ht9 hW9 => ⟨⟨_, (u_52.1, u_52.2.1, u_52.2.2.1, u_52.2.2.2.1, u_52.2.2.2.2.1, u_52.2.2.2.2.2.1, u_52.2.2.2.2.2.2.1, u_52.2.2.2.2.2.2.2.1, u_52.2.2.2.2.2.2.2.2.1, u_52.2.2.2.2.2.2.2.2.2), rfl, (⟨by unfold cnR; rw [if_neg (by omega), if_neg (by omega), if_pos hz_2], hw_52⟩), by rw [ht9]; exact hP, va_K.moved hW9.alike hK, hD⟩, hS.F ht9⟩) hS.2.2 dM_count_55
  · refine lv_tableIn (tgt := 56) hx hb dM_count_6 (by rw [iI_toInt (by omega)]; omega) (by rw [iI_toInt (by omega)]; omega) (by rw [iI_toInt (by omega), hz_3]; rfl) (by decide) ?_
    refine lv_aload_n hx hb dM_count_56 rfl (lv_at hl 0 rfl) ?_
    refine xi_iconst hx hb dM_count_57 ?_
    have hFc := xw_free hD hS hA
    refine va_calli (va_runV (As := [.int (iI (bz true))]) (rest := []) ⟨hx, hb, hml, hown, hts⟩ (m_countOf l dC dI ad cs H.size 0 par np nc rs npc hi lo X Y O E RX RY RO PC CV true h1 h2 h3 h4) (cwV 1 hts (tb_V mlM_145 imM_countOf seM_countOf iniM coM_countOf) rfl rfl rfl (by decide +kernel) (by subst hR; exact ⟨Nat.le_of_ble_eq_true rfl, Nat.le_of_ble_eq_true rfl⟩)) ⟨fun a9 U9 g9 mk9 q9 => by obtain ⟨q0, q1, qP, qK, qD⟩ := q9; exact ⟨q0, q1, qP, va_K.moved (u := U9) (U := U9.calling g9 mk9 a9) (Vm.Alike.refl U9.vm) qK, qD⟩, va_recv hK hP (ci := 3) (q0 := 0) rfl rfl, fun U hU hW => ⟨rfl, by rw [hU], by rw [hU]; exact hP, va_K.moved hW.alike hK, hD.weaken (fun _ _ _ _ => trivial)⟩⟩ rfl rfl hl.1 rfl (lv_room (Nat.le_of_ble_eq_true rfl)) dM_count_58 ⟨by subst hR; exact Nat.le_of_ble_eq_true rfl, by subst hR; exact Nat.le_of_ble_eq_true rfl⟩) hS (fun q9 _ h9 => hFc q9 h9) hFc (fun r_58 u_58 t9 H1 locs1 ht9 hvm9 hw_58 hB9 hz9 hk9 hS1 => ?_)
    obtain ⟨hP1, hK1, hD1⟩ := hB9
    rw [ht9] at hP1
    have hP : va_P (dC, dI) vwCl (mW ad cs u_58.1 par np nc u_58.2.1 u_58.2.2.1 u_58.2.2.2.1 u_58.2.2.2.2.1 X Y O E u_58.2.2.2.2.2.1 u_58.2.2.2.2.2.2.1 u_58.2.2.2.2.2.2.2.1 u_58.2.2.2.2.2.2.2.2.1 u_58.2.2.2.2.2.2.2.2.2) H1 := hP1
    have hD : va_D A (mW ad cs u_58.1 par np nc u_58.2.1 u_58.2.2.1 u_58.2.2.2.1 u_58.2.2.2.2.1 X Y O E u_58.2.2.2.2.2.1 u_58.2.2.2.2.2.2.1 u_58.2.2.2.2.2.2.2.1 u_58.2.2.2.2.2.2.2.2.1 u_58.2.2.2.2.2.2.2.2.2) := hD1.weaken (fun _ _ _ h9 => hFc _ h9)
    clear hP1 hD1 hK1 hFc
    have hS := hS1
    clear hS1 hz9 hk9 ht9 hvm9
    revert hP hD hS; generalize H1 = H; generalize locs1 = locs; intro hP hD hS
    obtain ⟨hr_58, hw_58⟩ := hw_58; subst hr_58
    subst hQ
    exact W.iret (v := (iI (tot X Y O E (hc true) nc))) hx hb hr (fun t9 ht9 hW9 => ⟨⟨_, (u_58.1, u_58.2.1, u_58.2.2.1, u_58.2.2.2.1, u_58.2.2.2.2.1, u_58.2.2.2.2.2.1, u_58.2.2.2.2.2.2.1, u_58.2.2.2.2.2.2.2.1, u_58.2.2.2.2.2.2.2.2.1, u_58.2.2.2.2.2.2.2.2.2), rfl, (⟨by unfold cnR; rw [if_neg (by omega), if_neg (by omega), if_neg (by omega), if_pos hz_3], hw_58⟩), by rw [ht9]; exact hP, va_K.moved hW9.alike hK, hD⟩, hS.F ht9⟩) hS.2.2 dM_count_61
  · refine lv_tableIn (tgt := 62) hx hb dM_count_6 (by rw [iI_toInt (by omega)]; omega) (by rw [iI_toInt (by omega)]; omega) (by rw [iI_toInt (by omega), hz_4]; rfl) (by decide) ?_
    refine lv_aload_n hx hb dM_count_62 rfl (lv_at hl 0 rfl) ?_
    have hFc := xw_free hD hS hA
    refine va_calli (va_runV (As := []) (rest := []) ⟨hx, hb, hml, hown, hts⟩ (m_setPixels l dC dI ad cs H.size 0 par np nc rs npc hi lo X Y O E RX RY RO PC CV h1 h2 h3 h4) (cwV 0 hts (tb_V mlM_149 imM_setPixels seM_setPixels iniM coM_setPixels) rfl rfl rfl (by decide +kernel) (by subst hR; exact ⟨Nat.le_of_ble_eq_true rfl, Nat.le_of_ble_eq_true rfl⟩)) ⟨fun a9 U9 g9 mk9 q9 => by obtain ⟨q0, q1, qP, qK, qD⟩ := q9; exact ⟨q0, q1, qP, va_K.moved (u := U9) (U := U9.calling g9 mk9 a9) (Vm.Alike.refl U9.vm) qK, qD⟩, va_recv hK hP (ci := 3) (q0 := 0) rfl rfl, fun U hU hW => ⟨rfl, by rw [hU], by rw [hU]; exact hP, va_K.moved hW.alike hK, hD.weaken (fun _ _ _ _ => trivial)⟩⟩ rfl rfl hl.1 rfl (lv_room (Nat.le_of_ble_eq_true rfl)) dM_count_63 ⟨by subst hR; exact Nat.le_of_ble_eq_true rfl, by subst hR; exact Nat.le_of_ble_eq_true rfl⟩) hS (fun q9 _ h9 => hFc q9 h9) hFc (fun r_63 u_63 t9 H1 locs1 ht9 hvm9 hw_63 hB9 hz9 hk9 hS1 => ?_)
    obtain ⟨hP1, hK1, hD1⟩ := hB9
    rw [ht9] at hP1
    have hP : va_P (dC, dI) vwCl (mW ad cs u_63.1 par np nc u_63.2.1 u_63.2.2.1 u_63.2.2.2.1 u_63.2.2.2.2.1 X Y O E u_63.2.2.2.2.2.1 u_63.2.2.2.2.2.2.1 u_63.2.2.2.2.2.2.2.1 u_63.2.2.2.2.2.2.2.2.1 u_63.2.2.2.2.2.2.2.2.2) H1 := hP1
    have hD : va_D A (mW ad cs u_63.1 par np nc u_63.2.1 u_63.2.2.1 u_63.2.2.2.1 u_63.2.2.2.2.1 X Y O E u_63.2.2.2.2.2.1 u_63.2.2.2.2.2.2.1 u_63.2.2.2.2.2.2.2.1 u_63.2.2.2.2.2.2.2.2.1 u_63.2.2.2.2.2.2.2.2.2) := hD1.weaken (fun _ _ _ h9 => hFc _ h9)
    clear hP1 hD1 hK1 hFc
    have hS := hS1
    clear hS1 hz9 hk9 ht9 hvm9
    revert hP hD hS; generalize H1 = H; generalize locs1 = locs; intro hP hD hS
    obtain ⟨hr_63, hw_63⟩ := hw_63; subst hr_63
    subst hQ
    exact W.iret (v := (iI (isum (fun k => bz (pxR X Y O E nc par (k / 64) (k % 64))) 4096))) hx hb hr (fun t9 ht9 hW9 => ⟨⟨_, (u_63.1, u_63.2.1, u_63.2.2.1, u_63.2.2.2.1, u_63.2.2.2.2.1, u_63.2.2.2.2.2.1, u_63.2.2.2.2.2.2.1, u_63.2.2.2.2.2.2.2.1, u_63.2.2.2.2.2.2.2.2.1, u_63.2.2.2.2.2.2.2.2.2), rfl, (⟨by unfold cnR; rw [if_neg (by omega), if_neg (by omega), if_neg (by omega), if_neg (by omega), if_pos hz_4], hw_63⟩), by rw [ht9]; exact hP, va_K.moved hW9.alike hK, hD⟩, hS.F ht9⟩) hS.2.2 dM_count_66
  · refine lv_tableOut (tgt := 67) hx hb dM_count_6 (by rw [iI_toInt (by omega)]; omega) (by decide) ?_
    refine xi_iconst hx hb dM_count_67 ?_
    subst hQ
    exact W.iret (v := (iI (-1))) hx hb hr (fun t9 ht9 hW9 => ⟨⟨_, (0, rs, npc, hi, lo, RX, RY, RO, PC, CV), rfl, (⟨by unfold cnR; rw [if_neg (by omega), if_neg (by omega), if_neg (by omega), if_neg (by omega), if_neg (by omega)], rfl⟩), by rw [ht9]; exact hP, va_K.moved hW9.alike hK, hD⟩, hS.F ht9⟩) hS.2.2 dM_count_68
set_option maxHeartbeats 4000000 in
set_option maxRecDepth 100000 in
/-- winding -/
theorem m_winding (l : Launch) (dC : Nat → ClassId) (dI : Nat → Nat → Nat) (ad : Nat → Nat) (cs : Nat → ClassId) (sz : Nat) (ft : Int) (par : Bool) (np nc rs npc hi lo : Int) (X Y : Int → Int) (O : Int → Bool) (E RX RY : Int → Int) (RO : Int → Bool) (PC : Int → Int) (CV : Int → Bool) (x y : Int) (h1 : 0 ≤ nc ∧ nc ≤ 64) (h2 : ctOk nc E) (h3 : 0 ≤ clo nc E ∧ clo nc E ≤ 512) (h4 : ∀ k : Int, 0 ≤ k → k < clo nc E → (-8192 ≤ X k ∧ X k ≤ 8191) ∧ (-8192 ≤ Y k ∧ Y k ≤ 8191)) (hx0 : -2147483648 ≤ x ∧ x ≤ 2147483647) (hy0 : -2147483648 ≤ y ∧ y ≤ 2147483647) : Met l yM_winding wM_winding ({ frames := 6, cells := 0, slots := 0, locals := 198 }) (va_Pc [.ref (ad 0), .int (iI x), .int (iI y)] (fun U => U.heap.size = sz ∧ va_P (dC, dI) vwCl (mW ad cs ft par np nc rs npc hi lo X Y O E RX RY RO PC CV) U.heap ∧ va_K (dC, dI) vwCl (mT cs) U ∧ va_D (fun _ => True) (mW ad cs ft par np nc rs npc hi lo X Y O E RX RY RO PC CV))) (va_Qi (fun (r : Int32) (u : Int × Int × Int × Int × Int × (Int → Int) × (Int → Int) × (Int → Bool) × (Int → Int) × (Int → Bool)) => u.1 = fW x y ∧ (fW x y = 0 → r = iI (wR X Y O E nc x y))) (fun (u : Int × Int × Int × Int × Int × (Int → Int) × (Int → Int) × (Int → Bool) × (Int → Int) × (Int → Bool)) t9 => va_P (dC, dI) vwCl (mW ad cs u.1 par np nc u.2.1 u.2.2.1 u.2.2.2.1 u.2.2.2.2.1 X Y O E u.2.2.2.2.2.1 u.2.2.2.2.2.2.1 u.2.2.2.2.2.2.2.1 u.2.2.2.2.2.2.2.2.1 u.2.2.2.2.2.2.2.2.2) t9.heap ∧ va_K (dC, dI) vwCl (mT cs) t9 ∧ va_D (va_A (mW ad cs ft par np nc rs npc hi lo X Y O E RX RY RO PC CV) sz) (mW ad cs u.1 par np nc u.2.1 u.2.2.1 u.2.2.2.1 u.2.2.2.2.1 X Y O E u.2.2.2.2.2.1 u.2.2.2.2.2.2.1 u.2.2.2.2.2.2.2.1 u.2.2.2.2.2.2.2.2.1 u.2.2.2.2.2.2.2.2.2)) (va_A (mW ad cs ft par np nc rs npc hi lo X Y O E RX RY RO PC CV) sz)) 0 0 (va_A (mW ad cs ft par np nc rs npc hi lo X Y O E RX RY RO PC CV) sz) := by
  refine Met.ofW (cc := cM_winding) (maxL := 3) (ret := (some .int)) (by decide) rfl ?_
  intro p e s m args below meth c s₁ B hml hv
  obtain ⟨hargs, hsz, hP, hK, hD0⟩ := hv
  have hx := B.exec
  have hb := B.bytes
  have hr := B.returns
  have hts := atoms_spec (ws := wM_winding) B.pre
  have hown : s.vm.findClass RM = some m.cls := findClass_of_methodNamed B.named
  have hlocks := B.notSynchronized
  subst hsz
  have hD := hD0.self (sz := s.heap.size)
  generalize hAe : va_A (mW ad cs ft par np nc rs npc hi lo X Y O E RX RY RO PC CV) s.heap.size = A at hD ⊢
  have hA : ∀ q : Nat, s.heap.size ≤ q → A q := fun q h => by rw [← hAe]; exact Or.inr h
  have hS0 : va_S A s.heap s.heap [] := va_S.rf
  refine x_name (fun R Q H locs hR hQ hH hlo => ?_)
  rw [← hH] at hP
  have hS : va_S A s.heap H locs := by rw [hH, hlo]; exact hS0
  refine x_entry hargs (Nat.le_of_ble_eq_true rfl) (fun ls hl => ?_)
  have hl : lv_has ls 3 [(0, .ref (ad 0)), (1, .int (iI x)), (2, .int (iI y))] := hl
  have hP : va_P (dC, dI) vwCl (mW ad cs ft par np nc rs npc hi lo X Y O E RX RY RO PC CV) H := hP
  refine lv_aload_n hx hb dM_winding_0 rfl (lv_at hl 0 rfl) ?_
  have cut_20_1 : ∀ (fc : Int) (ls : Array Slot), (fc = fW x y) → lv_has ls 3 [(0, .ref (ad 0)), (1, .int (iI x)), (2, .int (iI y))] → W p l e R s m args below meth c H locs 0 0 Q (F0 m 20 ls [.int (iI fc), .ref (ad 0)]) := by
    intro fc ls hfc hl
    have b1 : 0 ≤ fc ∧ fc ≤ 1 := by (rw [hfc]; unfold fW; split <;> omega)
    have hFc := xw_free hD hS hA
    refine va_calli (va_runV (As := [.int (iI fc)]) (rest := []) ⟨hx, hb, hml, hown, hts⟩ (m_refused l dC dI ad cs H.size ft par np nc rs npc hi lo X Y O E RX RY RO PC CV fc (by omega)) (cwV 1 hts (tb_V mlM_60 imM_refused seM_refused iniM coM_refused) rfl rfl rfl (by decide +kernel) (by subst hR; exact ⟨Nat.le_of_ble_eq_true rfl, Nat.le_of_ble_eq_true rfl⟩)) ⟨fun a9 U9 g9 mk9 q9 => by obtain ⟨q0, q1, qP, qK, qD⟩ := q9; exact ⟨q0, q1, qP, va_K.moved (u := U9) (U := U9.calling g9 mk9 a9) (Vm.Alike.refl U9.vm) qK, qD⟩, va_recv hK hP (ci := 3) (q0 := 0) rfl rfl, fun U hU hW => ⟨rfl, by rw [hU], by rw [hU]; exact hP, va_K.moved hW.alike hK, hD.weaken (fun _ _ _ _ => trivial)⟩⟩ rfl rfl hl.1 rfl (lv_room (Nat.le_of_ble_eq_true rfl)) dM_winding_20 ⟨by subst hR; exact Nat.le_of_ble_eq_true rfl, by subst hR; exact Nat.le_of_ble_eq_true rfl⟩) hS (fun q9 _ h9 => hFc q9 h9) hFc (fun r_20 u_20 t9 H1 locs1 ht9 hvm9 hw_20 hB9 hz9 hk9 hS1 => ?_)
    obtain ⟨hP1, hK1, hD1⟩ := hB9
    rw [ht9] at hP1
    have hP : va_P (dC, dI) vwCl (mW ad cs fc par np nc rs npc hi lo X Y O E RX RY RO PC CV) H1 := hP1
    have hD : va_D A (mW ad cs fc par np nc rs npc hi lo X Y O E RX RY RO PC CV) := hD1.weaken (fun _ _ _ h9 => hFc _ h9)
    clear hP1 hD1 hK1 hFc
    have hS := hS1
    clear hS1 hz9 hk9 ht9 hvm9
    revert hP hD hS; generalize H1 = H; generalize locs1 = locs; intro hP hD hS
    obtain ⟨hr_20, hw_20⟩ := hw_20; subst hr_20
    refine xb_if_eq (tgt := 28) hx hb dM_winding_23 (by decide) (fun c_23 => ?_) (fun c_23 => ?_)
    · skip
      have b2 : fW x y = 0 := by have := of_decide_eq_false c_23; omega
      have b3 : ¬ ((x < -16384 ∨ 16383 < x) ∨ (y < -16384 ∨ 16383 < y)) := fun h => by (unfold fW at b2; rw [if_pos h] at b2; cases b2)
      refine lv_aload_n hx hb dM_winding_28 rfl (lv_at hl 0 rfl) ?_
      have hFc := xw_free hD hS hA
      refine va_callv (va_runV (As := []) (rest := []) ⟨hx, hb, hml, hown, hts⟩ (m_makePieces l dC dI ad cs H.size fc par np nc rs npc hi lo X Y O E RX RY RO PC CV h1 h2 h3 h4) (cwV 0 hts (tb_V mlM_139 imM_makePieces seM_makePieces iniM coM_makePieces) rfl rfl rfl (by decide +kernel) (by subst hR; exact ⟨Nat.le_of_ble_eq_true rfl, Nat.le_of_ble_eq_true rfl⟩)) ⟨fun a9 U9 g9 mk9 q9 => by obtain ⟨q0, q1, qP, qK, qD⟩ := q9; exact ⟨q0, q1, qP, va_K.moved (u := U9) (U := U9.calling g9 mk9 a9) (Vm.Alike.refl U9.vm) qK, qD⟩, va_recv hK hP (ci := 3) (q0 := 0) rfl rfl, fun U hU hW => ⟨rfl, by rw [hU], by rw [hU]; exact hP, va_K.moved hW.alike hK, hD.weaken (fun _ _ _ _ => trivial)⟩⟩ rfl rfl hl.1 rfl (lv_room (Nat.le_of_ble_eq_true rfl)) dM_winding_29 ⟨by subst hR; exact Nat.le_of_ble_eq_true rfl, by subst hR; exact Nat.le_of_ble_eq_true rfl⟩) hS (fun q9 _ h9 => hFc q9 h9) hFc (fun u_29 t9 H1 locs1 ht9 hvm9 hw_29 hB9 hz9 hk9 hS1 => ?_)
      obtain ⟨hP1, hK1, hD1⟩ := hB9
      rw [ht9] at hP1
      have hP : va_P (dC, dI) vwCl (mW ad cs fc par np nc u_29.2.2.2.1 u_29.1 hi lo X Y O E u_29.2.2.2.2.1 u_29.2.2.2.2.2.1 u_29.2.2.2.2.2.2 u_29.2.1 u_29.2.2.1) H1 := hP1
      have hD : va_D A (mW ad cs fc par np nc u_29.2.2.2.1 u_29.1 hi lo X Y O E u_29.2.2.2.2.1 u_29.2.2.2.2.2.1 u_29.2.2.2.2.2.2 u_29.2.1 u_29.2.2.1) := hD1.weaken (fun _ _ _ h9 => hFc _ h9)
      clear hP1 hD1 hK1 hFc
      have hS := hS1
      clear hS1 hz9 hk9 ht9 hvm9
      revert hP hD hS; generalize H1 = H; generalize locs1 = locs; intro hP hD hS
      obtain ⟨hnp, hsum, hpok⟩ := hw_29
      refine lv_aload_n hx hb dM_winding_32 rfl (lv_at hl 0 rfl) ?_
      refine lv_iload_n hx hb dM_winding_33 rfl (lv_at hl 1 rfl) ?_
      refine lv_iload_n hx hb dM_winding_34 rfl (lv_at hl 2 rfl) ?_
      have hFc := xw_free hD hS hA
      refine va_calli (va_runV (As := [.int (iI x), .int (iI y)]) (rest := []) ⟨hx, hb, hml, hown, hts⟩ (m_windingOf l dC dI ad cs H.size fc par np nc u_29.2.2.2.1 u_29.1 hi lo X Y O E u_29.2.2.2.2.1 u_29.2.2.2.2.2.1 u_29.2.2.2.2.2.2 u_29.2.1 u_29.2.2.1 x y hnp hpok (by omega) (by omega)) (cwV 2 hts (tb_V mlM_131 imM_windingOf seM_windingOf iniM coM_windingOf) rfl rfl rfl (by decide +kernel) (by subst hR; exact ⟨Nat.le_of_ble_eq_true rfl, Nat.le_of_ble_eq_true rfl⟩)) ⟨fun a9 U9 g9 mk9 q9 => by obtain ⟨q0, q1, qP, qK, qD⟩ := q9; exact ⟨q0, q1, qP, va_K.moved (u := U9) (U := U9.calling g9 mk9 a9) (Vm.Alike.refl U9.vm) qK, qD⟩, va_recv hK hP (ci := 3) (q0 := 0) rfl rfl, fun U hU hW => ⟨rfl, by rw [hU], by rw [hU]; exact hP, va_K.moved hW.alike hK, hD.weaken (fun _ _ _ _ => trivial)⟩⟩ rfl rfl hl.1 rfl (lv_room (Nat.le_of_ble_eq_true rfl)) dM_winding_35 ⟨by subst hR; exact Nat.le_of_ble_eq_true rfl, by subst hR; exact Nat.le_of_ble_eq_true rfl⟩) hS (fun q9 _ h9 => hFc q9 h9) hFc (fun r_35 u_35 t9 H1 locs1 ht9 hvm9 hw_35 hB9 hz9 hk9 hS1 => ?_)
      obtain ⟨hP1, hK1, hD1⟩ := hB9
      rw [ht9] at hP1
      have hP : va_P (dC, dI) vwCl (mW ad cs fc par np nc u_29.2.2.2.1 u_29.1 u_35.1 u_35.2 X Y O E u_29.2.2.2.2.1 u_29.2.2.2.2.2.1 u_29.2.2.2.2.2.2 u_29.2.1 u_29.2.2.1) H1 := hP1
      have hD : va_D A (mW ad cs fc par np nc u_29.2.2.2.1 u_29.1 u_35.1 u_35.2 X Y O E u_29.2.2.2.2.1 u_29.2.2.2.2.2.1 u_29.2.2.2.2.2.2 u_29.2.1 u_29.2.2.1) := hD1.weaken (fun _ _ _ h9 => hFc _ h9)
      clear hP1 hD1 hK1 hFc
      have hS := hS1
      clear hS1 hz9 hk9 ht9 hvm9
      revert hP hD hS; generalize H1 = H; generalize locs1 = locs; intro hP hD hS
      obtain ⟨hr_35, hw_35⟩ := hw_35; subst hr_35
      subst hQ
      exact W.iret (v := (iI (wnd u_29.2.1 u_29.2.2.1 u_29.1 x y))) hx hb hr (fun t9 ht9 hW9 => ⟨⟨_, (fc, u_29.2.2.2.1, u_29.1, u_35.1, u_35.2, u_29.2.2.2.2.1, u_29.2.2.2.2.2.1, u_29.2.2.2.2.2.2, u_29.2.1, u_29.2.2.1), rfl, (⟨hfc, fun _ => by rw [wnd_wR hsum]⟩), by rw [ht9]; exact hP, va_K.moved hW9.alike hK, hD⟩, hS.F ht9⟩) hS.2.2 dM_winding_38
    · skip
      refine xi_iconst hx hb dM_winding_26 ?_
      subst hQ
      exact W.iret (v := (iI 0)) hx hb hr (fun t9 ht9 hW9 => ⟨⟨_, (fc, rs, npc, hi, lo, RX, RY, RO, PC, CV), rfl, (⟨hfc, fun h => absurd h (by have := of_decide_eq_true c_23; omega)⟩), by rw [ht9]; exact hP, va_K.moved hW9.alike hK, hD⟩, hS.F ht9⟩) hS.2.2 dM_winding_27
  refine lv_iload_n hx hb dM_winding_1 rfl (lv_at hl 1 rfl) ?_
  refine vp_callSi (W.runS (As := [.int (iI x)]) (rest := [.ref (ad 0)]) ⟨hx, hb, hml, hown, hts⟩ (m_isFar l dC dI x (by omega)) (va_cwS 1 hts (tb_S mlM_152 smM_isFar iniM coM_isFar) rfl rfl rfl (by decide +kernel) (by subst hR; exact ⟨Nat.le_of_ble_eq_true rfl, Nat.le_of_ble_eq_true rfl⟩)) ⟨fun a9 U9 g9 mk9 q9 => q9, fun U hU hW => ⟨rfl, trivial⟩⟩ rfl rfl hl.1 rfl (lv_room (Nat.le_of_ble_eq_true rfl)) dM_winding_2 ⟨by subst hR; exact Nat.zero_le _, by subst hR; exact Nat.zero_le _⟩) (fun r_2 hw_2 => ?_)
  subst hw_2
  refine xb_if_ne (tgt := 15) hx hb dM_winding_5 (by decide) (fun c_5 => ?_) (fun c_5 => ?_)
  · skip
    refine xi_iconst hx hb dM_winding_15 ?_
    refine lv_goto (tgt := 20) hx hb dM_winding_16 (by decide) ?_
    exact cut_20_1 1 _ (by unfold fW; rw [if_pos (Or.inl (of_decide_eq_true c_5))]) (lv_sub hl [0, 1, 2] rfl)
  · skip
    refine lv_iload_n hx hb dM_winding_8 rfl (lv_at hl 2 rfl) ?_
    refine vp_callSi (W.runS (As := [.int (iI y)]) (rest := [.ref (ad 0)]) ⟨hx, hb, hml, hown, hts⟩ (m_isFar l dC dI y (by omega)) (va_cwS 1 hts (tb_S mlM_152 smM_isFar iniM coM_isFar) rfl rfl rfl (by decide +kernel) (by subst hR; exact ⟨Nat.le_of_ble_eq_true rfl, Nat.le_of_ble_eq_true rfl⟩)) ⟨fun a9 U9 g9 mk9 q9 => q9, fun U hU hW => ⟨rfl, trivial⟩⟩ rfl rfl hl.1 rfl (lv_room (Nat.le_of_ble_eq_true rfl)) dM_winding_9 ⟨by subst hR; exact Nat.zero_le _, by subst hR; exact Nat.zero_le _⟩) (fun r_9 hw_9 => ?_)
    subst hw_9
    refine xb_if_eq (tgt := 19) hx hb dM_winding_12 (by decide) (fun c_12 => ?_) (fun c_12 => ?_)
    · skip
      refine xi_iconst hx hb dM_winding_19 ?_
      exact cut_20_1 0 _ (by unfold fW; rw [if_neg (fun h => h.elim (of_decide_eq_false c_5) (of_decide_eq_false c_12))]) (lv_sub hl [0, 1, 2] rfl)
    · skip
      refine xi_iconst hx hb dM_winding_15 ?_
      refine lv_goto (tgt := 20) hx hb dM_winding_16 (by decide) ?_
      exact cut_20_1 1 _ (by unfold fW; rw [if_pos (Or.inr (of_decide_eq_true c_12))]) (lv_sub hl [0, 1, 2] rfl)
set_option maxHeartbeats 4000000 in
set_option maxRecDepth 100000 in
/-- row -/
theorem m_row (l : Launch) (dC : Nat → ClassId) (dI : Nat → Nat → Nat) (ad : Nat → Nat) (cs : Nat → ClassId) (sz : Nat) (ft : Int) (par : Bool) (np nc rs npc hi lo : Int) (X Y : Int → Int) (O : Int → Bool) (E RX RY : Int → Int) (RO : Int → Bool) (PC : Int → Int) (CV : Int → Bool) (q : Int) (h1 : 0 ≤ nc ∧ nc ≤ 64) (h2 : ctOk nc E) (h3 : 0 ≤ clo nc E ∧ clo nc E ≤ 512) (h4 : ∀ k : Int, 0 ≤ k → k < clo nc E → (-8192 ≤ X k ∧ X k ≤ 8191) ∧ (-8192 ≤ Y k ∧ Y k ≤ 8191)) (hq0 : -2147483648 ≤ q ∧ q ≤ 2147483647) : Met l yM_row wM_row ({ frames := 8, cells := 0, slots := 0, locals := 243 }) (va_Pc [.ref (ad 0), .int (iI q)] (fun U => U.heap.size = sz ∧ va_P (dC, dI) vwCl (mW ad cs ft par np nc rs npc hi lo X Y O E RX RY RO PC CV) U.heap ∧ va_K (dC, dI) vwCl (mT cs) U ∧ va_D (fun _ => True) (mW ad cs ft par np nc rs npc hi lo X Y O E RX RY RO PC CV))) (va_Ql (fun (r : Int64) (u : Int × Int × Int × Int × Int × (Int → Int) × (Int → Int) × (Int → Bool) × (Int → Int) × (Int → Bool)) => u.1 = fR q ∧ (fR q = 0 → r = lN (bitsF (pxR X Y O E nc par q) 64))) (fun (u : Int × Int × Int × Int × Int × (Int → Int) × (Int → Int) × (Int → Bool) × (Int → Int) × (Int → Bool)) t9 => va_P (dC, dI) vwCl (mW ad cs u.1 par np nc u.2.1 u.2.2.1 u.2.2.2.1 u.2.2.2.2.1 X Y O E u.2.2.2.2.2.1 u.2.2.2.2.2.2.1 u.2.2.2.2.2.2.2.1 u.2.2.2.2.2.2.2.2.1 u.2.2.2.2.2.2.2.2.2) t9.heap ∧ va_K (dC, dI) vwCl (mT cs) t9 ∧ va_D (va_A (mW ad cs ft par np nc rs npc hi lo X Y O E RX RY RO PC CV) sz) (mW ad cs u.1 par np nc u.2.1 u.2.2.1 u.2.2.2.1 u.2.2.2.2.1 X Y O E u.2.2.2.2.2.1 u.2.2.2.2.2.2.1 u.2.2.2.2.2.2.2.1 u.2.2.2.2.2.2.2.2.1 u.2.2.2.2.2.2.2.2.2)) (va_A (mW ad cs ft par np nc rs npc hi lo X Y O E RX RY RO PC CV) sz)) 0 0 (va_A (mW ad cs ft par np nc rs npc hi lo X Y O E RX RY RO PC CV) sz) := by
  refine Met.ofW (cc := cM_row) (maxL := 5) (ret := (some .long)) (by decide) rfl ?_
  intro p e s m args below meth c s₁ B hml hv
  obtain ⟨hargs, hsz, hP, hK, hD0⟩ := hv
  have hx := B.exec
  have hb := B.bytes
  have hr := B.returns
  have hts := atoms_spec (ws := wM_row) B.pre
  have hown : s.vm.findClass RM = some m.cls := findClass_of_methodNamed B.named
  have hlocks := B.notSynchronized
  subst hsz
  have hD := hD0.self (sz := s.heap.size)
  generalize hAe : va_A (mW ad cs ft par np nc rs npc hi lo X Y O E RX RY RO PC CV) s.heap.size = A at hD ⊢
  have hA : ∀ q : Nat, s.heap.size ≤ q → A q := fun q h => by rw [← hAe]; exact Or.inr h
  have hS0 : va_S A s.heap s.heap [] := va_S.rf
  refine x_name (fun R Q H locs hR hQ hH hlo => ?_)
  rw [← hH] at hP
  have hS : va_S A s.heap H locs := by rw [hH, hlo]; exact hS0
  refine x_entry hargs (Nat.le_of_ble_eq_true rfl) (fun ls hl => ?_)
  have hl : lv_has ls 5 [(0, .ref (ad 0)), (1, .int (iI q))] := hl
  have hP : va_P (dC, dI) vwCl (mW ad cs ft par np nc rs npc hi lo X Y O E RX RY RO PC CV) H := hP
  refine lv_aload_n hx hb dM_row_0 rfl (lv_at hl 0 rfl) ?_
  have cut_13_1 : ∀ (fc : Int) (ls : Array Slot), (fc = fR q) → lv_has ls 5 [(0, .ref (ad 0)), (1, .int (iI q))] → W p l e R s m args below meth c H locs 0 0 Q (F0 m 13 ls [.int (iI fc), .ref (ad 0)]) := by
    intro fc ls hfc hl
    have b1 : 0 ≤ fc ∧ fc ≤ 1 := by (rw [hfc]; unfold fR; split <;> omega)
    have hFc := xw_free hD hS hA
    refine va_calli (va_runV (As := [.int (iI fc)]) (rest := []) ⟨hx, hb, hml, hown, hts⟩ (m_refused l dC dI ad cs H.size ft par np nc rs npc hi lo X Y O E RX RY RO PC CV fc (by omega)) (cwV 1 hts (tb_V mlM_60 imM_refused seM_refused iniM coM_refused) rfl rfl rfl (by decide +kernel) (by subst hR; exact ⟨Nat.le_of_ble_eq_true rfl, Nat.le_of_ble_eq_true rfl⟩)) ⟨fun a9 U9 g9 mk9 q9 => by obtain ⟨q0, q1, qP, qK, qD⟩ := q9; exact ⟨q0, q1, qP, va_K.moved (u := U9) (U := U9.calling g9 mk9 a9) (Vm.Alike.refl U9.vm) qK, qD⟩, va_recv hK hP (ci := 3) (q0 := 0) rfl rfl, fun U hU hW => ⟨rfl, by rw [hU], by rw [hU]; exact hP, va_K.moved hW.alike hK, hD.weaken (fun _ _ _ _ => trivial)⟩⟩ rfl rfl hl.1 rfl (lv_room (Nat.le_of_ble_eq_true rfl)) dM_row_13 ⟨by subst hR; exact Nat.le_of_ble_eq_true rfl, by subst hR; exact Nat.le_of_ble_eq_true rfl⟩) hS (fun q9 _ h9 => hFc q9 h9) hFc (fun r_13 u_13 t9 H1 locs1 ht9 hvm9 hw_13 hB9 hz9 hk9 hS1 => ?_)
    obtain ⟨hP1, hK1, hD1⟩ := hB9
    rw [ht9] at hP1
    have hP : va_P (dC, dI) vwCl (mW ad cs fc par np nc rs npc hi lo X Y O E RX RY RO PC CV) H1 := hP1
    have hD : va_D A (mW ad cs fc par np nc rs npc hi lo X Y O E RX RY RO PC CV) := hD1.weaken (fun _ _ _ h9 => hFc _ h9)
    clear hP1 hD1 hK1 hFc
    have hS := hS1
    clear hS1 hz9 hk9 ht9 hvm9
    revert hP hD hS; generalize H1 = H; generalize locs1 = locs; intro hP hD hS
    obtain ⟨hr_13, hw_13⟩ := hw_13; subst hr_13
    refine xb_if_eq (tgt := 21) hx hb dM_row_16 (by decide) (fun c_16 => ?_) (fun c_16 => ?_)
    · skip
      have b2 : fR q = 0 := by have := of_decide_eq_false c_16; omega
      have b3 : 0 ≤ q ∧ q < 64 := by (unfold fR at b2; split at b2; assumption; cases b2)
      refine lv_aload_n hx hb dM_row_21 rfl (lv_at hl 0 rfl) ?_
      have hFc := xw_free hD hS hA
      refine va_callv (va_runV (As := []) (rest := []) ⟨hx, hb, hml, hown, hts⟩ (m_makePieces l dC dI ad cs H.size fc par np nc rs npc hi lo X Y O E RX RY RO PC CV h1 h2 h3 h4) (cwV 0 hts (tb_V mlM_139 imM_makePieces seM_makePieces iniM coM_makePieces) rfl rfl rfl (by decide +kernel) (by subst hR; exact ⟨Nat.le_of_ble_eq_true rfl, Nat.le_of_ble_eq_true rfl⟩)) ⟨fun a9 U9 g9 mk9 q9 => by obtain ⟨q0, q1, qP, qK, qD⟩ := q9; exact ⟨q0, q1, qP, va_K.moved (u := U9) (U := U9.calling g9 mk9 a9) (Vm.Alike.refl U9.vm) qK, qD⟩, va_recv hK hP (ci := 3) (q0 := 0) rfl rfl, fun U hU hW => ⟨rfl, by rw [hU], by rw [hU]; exact hP, va_K.moved hW.alike hK, hD.weaken (fun _ _ _ _ => trivial)⟩⟩ rfl rfl hl.1 rfl (lv_room (Nat.le_of_ble_eq_true rfl)) dM_row_22 ⟨by subst hR; exact Nat.le_of_ble_eq_true rfl, by subst hR; exact Nat.le_of_ble_eq_true rfl⟩) hS (fun q9 _ h9 => hFc q9 h9) hFc (fun u_22 t9 H1 locs1 ht9 hvm9 hw_22 hB9 hz9 hk9 hS1 => ?_)
      obtain ⟨hP1, hK1, hD1⟩ := hB9
      rw [ht9] at hP1
      have hP : va_P (dC, dI) vwCl (mW ad cs fc par np nc u_22.2.2.2.1 u_22.1 hi lo X Y O E u_22.2.2.2.2.1 u_22.2.2.2.2.2.1 u_22.2.2.2.2.2.2 u_22.2.1 u_22.2.2.1) H1 := hP1
      have hD : va_D A (mW ad cs fc par np nc u_22.2.2.2.1 u_22.1 hi lo X Y O E u_22.2.2.2.2.1 u_22.2.2.2.2.2.1 u_22.2.2.2.2.2.2 u_22.2.1 u_22.2.2.1) := hD1.weaken (fun _ _ _ h9 => hFc _ h9)
      clear hP1 hD1 hK1 hFc
      have hS := hS1
      clear hS1 hz9 hk9 ht9 hvm9
      revert hP hD hS; generalize H1 = H; generalize locs1 = locs; intro hP hD hS
      obtain ⟨hnp, hsum, hpok⟩ := hw_22
      refine lv_lconst (v := lI 0) hx hb dM_row_25 (by decide +kernel) ?_
      refine lv_lstore_n (lv' := [(2, .long (lI 0)), (0, .ref (ad 0)), (1, .int (iI q))]) hx hb dM_row_26 rfl hl (by decide) rfl (fun ls hl => ?_)
      refine xi_iconst hx hb dM_row_27 ?_
      refine lv_istore (lv' := [(4, .int (iI 0)), (2, .long (lI 0)), (0, .ref (ad 0)), (1, .int (iI q))]) hx hb dM_row_28 hl (by decide) rfl (fun ls hl => ?_)
      have cut_30_2 : ∀ (fu_30 : Nat) (x : Int) (hi2 : Int) (lo2 : Int) (H : Heap) (locs : List Loc) (ls : Array Slot), ((64 - x).toNat) < fu_30 → (0 ≤ x ∧ x ≤ 64) → va_P (dC, dI) vwCl (mW ad cs fc par np nc u_22.2.2.2.1 u_22.1 hi2 lo2 X Y O E u_22.2.2.2.2.1 u_22.2.2.2.2.2.1 u_22.2.2.2.2.2.2 u_22.2.1 u_22.2.2.1) H → va_D A (mW ad cs fc par np nc u_22.2.2.2.1 u_22.1 hi2 lo2 X Y O E u_22.2.2.2.2.1 u_22.2.2.2.2.2.1 u_22.2.2.2.2.2.2 u_22.2.1 u_22.2.2.1) → va_S A s.heap H locs → lv_has ls 5 [(0, .ref (ad 0)), (1, .int (iI q)), (2, .long (lN (bitsF (pxR X Y O E nc par q) x.toNat))), (4, .int (iI x))] → W p l e R s m args below meth c H locs 0 0 Q (F0 m 30 ls []) := by
        intro fu_30
        induction fu_30 with
        | zero => intro _ _ _ _ _ _ hm; exact absurd hm (Nat.not_lt_zero _)
        | succ fu_30 ih_30 =>
          intro x hi2 lo2 H locs ls hm i1 hP hD hS hl
          refine lv_iload hx hb dM_row_30 (lv_at hl 3 rfl) ?_
          refine lv_bipush (v := iI 64) hx hb dM_row_32 (by decide +kernel) ?_
          refine xi_icmp_ge (tgt := 64) hx hb dM_row_34 (by decide) (by omega) (by omega) (fun c_34 => ?_) (fun c_34 => ?_)
          · skip
            refine lv_lload_n hx hb dM_row_64 rfl (lv_at hl 2 rfl) ?_
            subst hQ
            exact W.lret (v := (lN (bitsF (pxR X Y O E nc par q) x.toNat))) hx hb hr (fun t9 ht9 hW9 => ⟨⟨_, (fc, u_22.2.2.2.1, u_22.1, hi2, lo2, u_22.2.2.2.2.1, u_22.2.2.2.2.2.1, u_22.2.2.2.2.2.2, u_22.2.1, u_22.2.2.1), rfl, (⟨hfc, fun _ => by rw [show x = 64 by omega]; rfl⟩), by rw [ht9]; exact hP, va_K.moved hW9.alike hK, hD⟩, hS.F ht9⟩) hS.2.2 dM_row_65
          · skip
            refine lv_aload_n hx hb dM_row_37 rfl (lv_at hl 0 rfl) ?_
            refine lv_iload hx hb dM_row_38 (lv_at hl 3 rfl) ?_
            refine lv_iload_n hx hb dM_row_40 rfl (lv_at hl 1 rfl) ?_
            have hFc := xw_free hD hS hA
            refine va_calli (va_runV (As := [.int (iI x), .int (iI q)]) (rest := []) ⟨hx, hb, hml, hown, hts⟩ (m_isSet l dC dI ad cs H.size fc par np nc u_22.2.2.2.1 u_22.1 hi2 lo2 X Y O E u_22.2.2.2.2.1 u_22.2.2.2.2.2.1 u_22.2.2.2.2.2.2 u_22.2.1 u_22.2.2.1 x q hnp hpok (by omega) (by omega)) (cwV 2 hts (tb_V mlM_142 imM_isSet seM_isSet iniM coM_isSet) rfl rfl rfl (by decide +kernel) (by subst hR; exact ⟨Nat.le_of_ble_eq_true rfl, Nat.le_of_ble_eq_true rfl⟩)) ⟨fun a9 U9 g9 mk9 q9 => by obtain ⟨q0, q1, qP, qK, qD⟩ := q9; exact ⟨q0, q1, qP, va_K.moved (u := U9) (U := U9.calling g9 mk9 a9) (Vm.Alike.refl U9.vm) qK, qD⟩, va_recv hK hP (ci := 3) (q0 := 0) rfl rfl, fun U hU hW => ⟨rfl, by rw [hU], by rw [hU]; exact hP, va_K.moved hW.alike hK, hD.weaken (fun _ _ _ _ => trivial)⟩⟩ rfl rfl hl.1 rfl (lv_room (Nat.le_of_ble_eq_true rfl)) dM_row_41 ⟨by subst hR; exact Nat.le_of_ble_eq_true rfl, by subst hR; exact Nat.le_of_ble_eq_true rfl⟩) hS (fun q9 _ h9 => hFc q9 h9) hFc (fun r_41 u_41 t9 H1 locs1 ht9 hvm9 hw_41 hB9 hz9 hk9 hS1 => ?_)
            obtain ⟨hP1, hK1, hD1⟩ := hB9
            rw [ht9] at hP1
            have hP : va_P (dC, dI) vwCl (mW ad cs fc par np nc u_22.2.2.2.1 u_22.1 u_41.1 u_41.2 X Y O E u_22.2.2.2.2.1 u_22.2.2.2.2.2.1 u_22.2.2.2.2.2.2 u_22.2.1 u_22.2.2.1) H1 := hP1
            have hD : va_D A (mW ad cs fc par np nc u_22.2.2.2.1 u_22.1 u_41.1 u_41.2 X Y O E u_22.2.2.2.2.1 u_22.2.2.2.2.2.1 u_22.2.2.2.2.2.2 u_22.2.1 u_22.2.2.1) := hD1.weaken (fun _ _ _ h9 => hFc _ h9)
            clear hP1 hD1 hK1 hFc
            have hS := hS1
            clear hS1 hz9 hk9 ht9 hvm9
            revert hP hD hS; generalize H1 = H; generalize locs1 = locs; intro hP hD hS
            obtain ⟨hr_41, hw_41⟩ := hw_41; subst hr_41
            have e9 : pxR X Y O E nc par q x = isin par (wnd u_22.2.1 u_22.2.2.1 u_22.1 (64 * x + 32) (64 * (63 - q) + 32)) := by unfold pxR; rw [wnd_wR hsum]
            have cut_57_3 : ∀ (ls : Array Slot), lv_has ls 5 [(0, .ref (ad 0)), (1, .int (iI q)), (2, .long (lN (bitsF (pxR X Y O E nc par q) x.toNat))), (4, .int (iI x))] → W p l e R s m args below meth c H locs 0 0 Q (F0 m 57 ls [.long (lN (bitsF (pxR X Y O E nc par q) (x + 1).toNat))]) := by
              intro  ls hl
              refine lv_lstore_n (lv' := [(2, .long (lN (bitsF (pxR X Y O E nc par q) (x + 1).toNat))), (0, .ref (ad 0)), (1, .int (iI q)), (4, .int (iI x))]) hx hb dM_row_57 rfl hl (by decide) rfl (fun ls hl => ?_)
              refine xi_iinc (z := x + 1) (lv' := [(4, .int (iI (x + 1))), (2, .long (lN (bitsF (pxR X Y O E nc par q) (x + 1).toNat))), (0, .ref (ad 0)), (1, .int (iI q))]) hx hb dM_row_58 hl (k := 3) rfl rfl (by decide) rfl (fun ls hl => ?_)
              refine lv_goto (tgt := 30) hx hb dM_row_61 (by decide) ?_
              exact ih_30 (x + 1) u_41.1 u_41.2 _ _ _ (by omega) (by omega) hP hD hS (lv_sub hl [2, 3, 1, 0] rfl)
            refine xb_if_eq (tgt := 56) hx hb dM_row_44 (by decide) (fun c_44 => ?_) (fun c_44 => ?_)
            · skip
              refine lv_lload_n hx hb dM_row_56 rfl (lv_at hl 2 rfl) ?_
              refine xi_top (y := .long (lN (bitsF (pxR X Y O E nc par q) (x + 1).toNat))) (by rw [bitsF_s _ i1.1, if_neg (by rw [e9, c_44]; decide), Nat.add_zero]) ?_
              exact cut_57_3 _ (lv_sub hl [0, 1, 2, 3] rfl)
            · skip
              refine lv_lload_n hx hb dM_row_47 rfl (lv_at hl 2 rfl) ?_
              refine lv_lconst (v := lI 1) hx hb dM_row_48 (by decide +kernel) ?_
              refine lv_iload hx hb dM_row_49 (lv_at hl 3 rfl) ?_
              refine lv_lshl (v := lI 1 <<< ((iI x).toInt64 &&& 63)) hx hb dM_row_51 rfl ?_
              refine lv_lor hx hb dM_row_52 ?_
              refine xi_top (y := .long (lN (bitsF (pxR X Y O E nc par q) (x + 1).toNat))) (by rw [bits_or _ (by omega) (by rw [e9]; exact c_44)]) ?_
              refine lv_goto (tgt := 57) hx hb dM_row_53 (by decide) ?_
              exact cut_57_3 _ (lv_sub hl [0, 1, 2, 3] rfl)
      have hl : lv_has ls 5 [(4, .int (iI 0)), (2, .long (lN (bitsF (pxR X Y O E nc par q) ((0 : Int)).toNat))), (0, .ref (ad 0)), (1, .int (iI q))] := (show (lI 0) = lN (bitsF (pxR X Y O E nc par q) ((0 : Int)).toNat) from (by decide +kernel : lI 0 = lN 0)) ▸ hl
      exact cut_30_2 (((64 - (0 : Int)).toNat) + 1) 0 hi lo _ _ _ (Nat.lt_succ_self _) (by omega) hP hD hS (lv_sub hl [2, 3, 1, 0] rfl)
    · skip
      refine lv_lconst (v := lI 0) hx hb dM_row_19 (by decide +kernel) ?_
      subst hQ
      exact W.lret (v := (lI 0)) hx hb hr (fun t9 ht9 hW9 => ⟨⟨_, (fc, rs, npc, hi, lo, RX, RY, RO, PC, CV), rfl, (⟨hfc, fun h => absurd h (by have := of_decide_eq_true c_16; omega)⟩), by rw [ht9]; exact hP, va_K.moved hW9.alike hK, hD⟩, hS.F ht9⟩) hS.2.2 dM_row_20
  refine lv_iload_n hx hb dM_row_1 rfl (lv_at hl 1 rfl) ?_
  refine vp_callSi (W.runS (As := [.int (iI q)]) (rest := [.ref (ad 0)]) ⟨hx, hb, hml, hown, hts⟩ (m_isPlace l dC dI q (by omega)) (va_cwS 1 hts (tb_S mlM_155 smM_isPlace iniM coM_isPlace) rfl rfl rfl (by decide +kernel) (by subst hR; exact ⟨Nat.le_of_ble_eq_true rfl, Nat.le_of_ble_eq_true rfl⟩)) ⟨fun a9 U9 g9 mk9 q9 => q9, fun U hU hW => ⟨rfl, trivial⟩⟩ rfl rfl hl.1 rfl (lv_room (Nat.le_of_ble_eq_true rfl)) dM_row_2 ⟨by subst hR; exact Nat.zero_le _, by subst hR; exact Nat.zero_le _⟩) (fun r_2 hw_2 => ?_)
  subst hw_2
  refine xb_if_eq (tgt := 12) hx hb dM_row_5 (by decide) (fun c_5 => ?_) (fun c_5 => ?_)
  · skip
    refine xi_iconst hx hb dM_row_12 ?_
    exact cut_13_1 1 _ (by unfold fR; rw [if_neg (of_decide_eq_false c_5)]) (lv_sub hl [0, 1] rfl)
  · skip
    refine xi_iconst hx hb dM_row_8 ?_
    refine lv_goto (tgt := 13) hx hb dM_row_9 (by decide) ?_
    exact cut_13_1 0 _ (by unfold fR; rw [if_pos (of_decide_eq_true c_5)]) (lv_sub hl [0, 1] rfl)
