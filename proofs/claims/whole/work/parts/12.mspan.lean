/-! the reference: shares, spans, extents -/
def shR (X Y : Int → Int) (O : Int → Bool) (E : Int → Int) (nc : Int) (par : Bool) (x q : Int) : Int := isum (fun k => bz (isin par (wR X Y O E nc (64 * x + 8 + 16 * (k % 4)) (64 * (63 - q) + 8 + 16 * (k / 4))))) 16
def p64 (P : Int → Bool) (x : Int) : Bool := decide (x < 64) && P x
/-- the whole number next outside of a piece on a side, by its three coordinates -/
def bnd (a q b : Int) (cv ls : Bool) : Int := if ls = true then (if cv = true then fol a q b else min a b) else (if cv = true then -fol (-a) (-q) (-b) else max a b)
theorem ceil_neg {v a : Int} (ha : 0 < a) : (-v) / a = -((v + a - 1) / a) := by
  have h1 := Int.emod_add_mul_ediv (v + a - 1) a
  have h2 := Int.emod_nonneg (v + a - 1) (show a ≠ 0 by omega)
  have h3 := Int.emod_lt_of_pos (v + a - 1) ha
  generalize (v + a - 1) / a = q at *
  generalize (v + a - 1) % a = r at *
  have h4 : -v = (a - 1 - r) + a * (-q) := by
    have : a * (-q) = -(a * q) := Int.mul_neg _ _
    omega
  rw [h4, Int.add_mul_ediv_left _ _ (by omega), Int.ediv_eq_zero_of_lt (by omega) (by omega)]
  omega
theorem fol_c {a q b : Int} (h1 : q < a) (h2 : q < b) : fol a q b = a - ((q - a) * (q - a) + (a - 2 * q + b) - 1) / (a - 2 * q + b) := by
  unfold fol
  rw [if_pos ⟨h1, h2⟩, show -(q - a) * (q - a) = -((q - a) * (q - a)) from Int.neg_mul _ _, ceil_neg (by omega)]
  omega
theorem fol_n {a q b : Int} (h : ¬ (q < a ∧ q < b)) : fol a q b = min a b := if_neg h

set_option maxHeartbeats 4000000 in
set_option maxRecDepth 100000 in
/-- share -/
theorem m_share (l : Launch) (dC : Nat → ClassId) (dI : Nat → Nat → Nat) (ad : Nat → Nat) (cs : Nat → ClassId) (sz : Nat) (ft : Int) (par : Bool) (np nc rs npc hi lo : Int) (X Y : Int → Int) (O : Int → Bool) (E RX RY : Int → Int) (RO : Int → Bool) (PC : Int → Int) (CV : Int → Bool) (x q : Int) (h1 : 0 ≤ nc ∧ nc ≤ 64) (h2 : ctOk nc E) (h3 : 0 ≤ clo nc E ∧ clo nc E ≤ 512) (h4 : ∀ k : Int, 0 ≤ k → k < clo nc E → (-8192 ≤ X k ∧ X k ≤ 8191) ∧ (-8192 ≤ Y k ∧ Y k ≤ 8191)) (hx0 : -2147483648 ≤ x ∧ x ≤ 2147483647) (hq0 : -2147483648 ≤ q ∧ q ≤ 2147483647) : Met l yM_share wM_share ({ frames := 7, cells := 0, slots := 0, locals := 221 }) (va_Pc [.ref (ad 0), .int (iI x), .int (iI q)] (fun U => U.heap.size = sz ∧ va_P (dC, dI) vwCl (mW ad cs ft par np nc rs npc hi lo X Y O E RX RY RO PC CV) U.heap ∧ va_K (dC, dI) vwCl (mT cs) U ∧ va_D (fun _ => True) (mW ad cs ft par np nc rs npc hi lo X Y O E RX RY RO PC CV))) (va_Qi (fun (r : Int32) (u : Int × Int × Int × Int × Int × (Int → Int) × (Int → Int) × (Int → Bool) × (Int → Int) × (Int → Bool)) => u.1 = fS x q ∧ (fS x q = 0 → r = iI (shR X Y O E nc par x q))) (fun (u : Int × Int × Int × Int × Int × (Int → Int) × (Int → Int) × (Int → Bool) × (Int → Int) × (Int → Bool)) t9 => va_P (dC, dI) vwCl (mW ad cs u.1 par np nc u.2.1 u.2.2.1 u.2.2.2.1 u.2.2.2.2.1 X Y O E u.2.2.2.2.2.1 u.2.2.2.2.2.2.1 u.2.2.2.2.2.2.2.1 u.2.2.2.2.2.2.2.2.1 u.2.2.2.2.2.2.2.2.2) t9.heap ∧ va_K (dC, dI) vwCl (mT cs) t9 ∧ va_D (va_A (mW ad cs ft par np nc rs npc hi lo X Y O E RX RY RO PC CV) sz) (mW ad cs u.1 par np nc u.2.1 u.2.2.1 u.2.2.2.1 u.2.2.2.2.1 X Y O E u.2.2.2.2.2.1 u.2.2.2.2.2.2.1 u.2.2.2.2.2.2.2.1 u.2.2.2.2.2.2.2.2.1 u.2.2.2.2.2.2.2.2.2)) (va_A (mW ad cs ft par np nc rs npc hi lo X Y O E RX RY RO PC CV) sz)) 0 0 (va_A (mW ad cs ft par np nc rs npc hi lo X Y O E RX RY RO PC CV) sz) := by
  refine Met.ofW (cc := cM_share) (maxL := 5) (ret := (some .int)) (by decide) rfl ?_
  intro p e s m args below meth c s₁ B hml hv
  obtain ⟨hargs, hsz, hP, hK, hD0⟩ := hv
  have hx := B.exec
  have hb := B.bytes
  have hr := B.returns
  have hts := atoms_spec (ws := wM_share) B.pre
  have hown : s.vm.findClass RM = some m.cls := findClass_of_methodNamed B.named
  have hlocks := B.notSynchronized
  subst hsz
  have hD := hD0.self (sz := s.heap.size)
  generalize hAe : va_A (mW ad cs ft par np nc rs npc hi lo X Y O E RX RY RO PC CV) s.heap.size = A at hD ⊢
  have hA : ∀ q : Nat, s.heap.size ≤ q → A q := fun q h => by rw [← hAe]; exact Or.inr h
  have hS0 : va_S A s.heap s.heap [] := va_S.rf
  refine x_name (fun R Q H locs hR hQ hH hlo => ?_)
  rw [← hH] at hP
  have hS : va_S A s.heap H locs := by rw [hH, hlo]; exact hS0
  refine x_entry hargs (Nat.le_of_ble_eq_true rfl) (fun ls hl => ?_)
  have hl : lv_has ls 5 [(0, .ref (ad 0)), (1, .int (iI x)), (2, .int (iI q))] := hl
  have hP : va_P (dC, dI) vwCl (mW ad cs ft par np nc rs npc hi lo X Y O E RX RY RO PC CV) H := hP
  refine lv_aload_n hx hb dM_share_0 rfl (lv_at hl 0 rfl) ?_
  have cut_20_1 : ∀ (fc : Int) (ls : Array Slot), (fc = fS x q) → lv_has ls 5 [(0, .ref (ad 0)), (1, .int (iI x)), (2, .int (iI q))] → W p l e R s m args below meth c H locs 0 0 Q (F0 m 20 ls [.int (iI fc), .ref (ad 0)]) := by
    intro fc ls hfc hl
    have b1 : 0 ≤ fc ∧ fc ≤ 1 := by (rw [hfc]; unfold fS; split <;> omega)
    have hFc := xw_free hD hS hA
    refine va_calli (va_runV (As := [.int (iI fc)]) (rest := []) ⟨hx, hb, hml, hown, hts⟩ (m_refused l dC dI ad cs H.size ft par np nc rs npc hi lo X Y O E RX RY RO PC CV fc (by omega)) (cwV 1 hts (tb_V mlM_60 imM_refused seM_refused iniM coM_refused) rfl rfl rfl (by decide +kernel) (by subst hR; exact ⟨Nat.le_of_ble_eq_true rfl, Nat.le_of_ble_eq_true rfl⟩)) ⟨fun a9 U9 g9 mk9 q9 => by obtain ⟨q0, q1, qP, qK, qD⟩ := q9; exact ⟨q0, q1, qP, va_K.moved (u := U9) (U := U9.calling g9 mk9 a9) (Vm.Alike.refl U9.vm) qK, qD⟩, va_recv hK hP (ci := 3) (q0 := 0) rfl rfl, fun U hU hW => ⟨rfl, by rw [hU], by rw [hU]; exact hP, va_K.moved hW.alike hK, hD.weaken (fun _ _ _ _ => trivial)⟩⟩ rfl rfl hl.1 rfl (lv_room (Nat.le_of_ble_eq_true rfl)) dM_share_20 ⟨by subst hR; exact Nat.le_of_ble_eq_true rfl, by subst hR; exact Nat.le_of_ble_eq_true rfl⟩) hS (fun q9 _ h9 => hFc q9 h9) hFc (fun r_20 u_20 t9 H1 locs1 ht9 hvm9 hw_20 hB9 hz9 hk9 hS1 => ?_)
    obtain ⟨hP1, hK1, hD1⟩ := hB9
    rw [ht9] at hP1
    have hP : va_P (dC, dI) vwCl (mW ad cs fc par np nc rs npc hi lo X Y O E RX RY RO PC CV) H1 := hP1
    have hD : va_D A (mW ad cs fc par np nc rs npc hi lo X Y O E RX RY RO PC CV) := hD1.weaken (fun _ _ _ h9 => hFc _ h9)
    clear hP1 hD1 hK1 hFc
    have hS := hS1
    clear hS1 hz9 hk9 ht9 hvm9
    revert hP hD hS; generalize H1 = H; generalize locs1 = locs; intro hP hD hS
    obtain ⟨hr_20, hw_20⟩ := hw_20; subst hr_20
    refine xb_if_eq (tgt := 28) hx hb dM_share_23 (by decide) (fun c_23 => ?_) (fun c_23 => ?_)
    · skip
      have b2 : fS x q = 0 := by have := of_decide_eq_false c_23; omega
      have b3 : (0 ≤ x ∧ x < 64) ∧ (0 ≤ q ∧ q < 64) := by (unfold fS at b2; split at b2; assumption; cases b2)
      refine lv_aload_n hx hb dM_share_28 rfl (lv_at hl 0 rfl) ?_
      have hFc := xw_free hD hS hA
      refine va_callv (va_runV (As := []) (rest := []) ⟨hx, hb, hml, hown, hts⟩ (m_makePieces l dC dI ad cs H.size fc par np nc rs npc hi lo X Y O E RX RY RO PC CV h1 h2 h3 h4) (cwV 0 hts (tb_V mlM_139 imM_makePieces seM_makePieces iniM coM_makePieces) rfl rfl rfl (by decide +kernel) (by subst hR; exact ⟨Nat.le_of_ble_eq_true rfl, Nat.le_of_ble_eq_true rfl⟩)) ⟨fun a9 U9 g9 mk9 q9 => by obtain ⟨q0, q1, qP, qK, qD⟩ := q9; exact ⟨q0, q1, qP, va_K.moved (u := U9) (U := U9.calling g9 mk9 a9) (Vm.Alike.refl U9.vm) qK, qD⟩, va_recv hK hP (ci := 3) (q0 := 0) rfl rfl, fun U hU hW => ⟨rfl, by rw [hU], by rw [hU]; exact hP, va_K.moved hW.alike hK, hD.weaken (fun _ _ _ _ => trivial)⟩⟩ rfl rfl hl.1 rfl (lv_room (Nat.le_of_ble_eq_true rfl)) dM_share_29 ⟨by subst hR; exact Nat.le_of_ble_eq_true rfl, by subst hR; exact Nat.le_of_ble_eq_true rfl⟩) hS (fun q9 _ h9 => hFc q9 h9) hFc (fun u_29 t9 H1 locs1 ht9 hvm9 hw_29 hB9 hz9 hk9 hS1 => ?_)
      obtain ⟨hP1, hK1, hD1⟩ := hB9
      rw [ht9] at hP1
      have hP : va_P (dC, dI) vwCl (mW ad cs fc par np nc u_29.2.2.2.1 u_29.1 hi lo X Y O E u_29.2.2.2.2.1 u_29.2.2.2.2.2.1 u_29.2.2.2.2.2.2 u_29.2.1 u_29.2.2.1) H1 := hP1
      have hD : va_D A (mW ad cs fc par np nc u_29.2.2.2.1 u_29.1 hi lo X Y O E u_29.2.2.2.2.1 u_29.2.2.2.2.2.1 u_29.2.2.2.2.2.2 u_29.2.1 u_29.2.2.1) := hD1.weaken (fun _ _ _ h9 => hFc _ h9)
      clear hP1 hD1 hK1 hFc
      have hS := hS1
      clear hS1 hz9 hk9 ht9 hvm9
      revert hP hD hS; generalize H1 = H; generalize locs1 = locs; intro hP hD hS
      obtain ⟨hnp, hsum, hpok⟩ := hw_29
      refine xi_iconst hx hb dM_share_32 ?_
      refine lv_istore_n (lv' := [(3, .int (iI 0)), (0, .ref (ad 0)), (1, .int (iI x)), (2, .int (iI q))]) hx hb dM_share_33 rfl hl (by decide) rfl (fun ls hl => ?_)
      refine xi_iconst hx hb dM_share_34 ?_
      refine lv_istore (lv' := [(4, .int (iI 0)), (3, .int (iI 0)), (0, .ref (ad 0)), (1, .int (iI x)), (2, .int (iI q))]) hx hb dM_share_35 hl (by decide) rfl (fun ls hl => ?_)
      have cut_37_2 : ∀ (fu_37 : Nat) (k : Int) (n : Int) (hi2 : Int) (lo2 : Int) (H : Heap) (locs : List Loc) (ls : Array Slot), ((16 - k).toNat) < fu_37 → (0 ≤ k ∧ k ≤ 16) → (n = isum (fun k => bz (isin par (wR X Y O E nc (64 * x + 8 + 16 * (k % 4)) (64 * (63 - q) + 8 + 16 * (k / 4))))) k.toNat) → va_P (dC, dI) vwCl (mW ad cs fc par np nc u_29.2.2.2.1 u_29.1 hi2 lo2 X Y O E u_29.2.2.2.2.1 u_29.2.2.2.2.2.1 u_29.2.2.2.2.2.2 u_29.2.1 u_29.2.2.1) H → va_D A (mW ad cs fc par np nc u_29.2.2.2.1 u_29.1 hi2 lo2 X Y O E u_29.2.2.2.2.1 u_29.2.2.2.2.2.1 u_29.2.2.2.2.2.2 u_29.2.1 u_29.2.2.1) → va_S A s.heap H locs → lv_has ls 5 [(0, .ref (ad 0)), (1, .int (iI x)), (2, .int (iI q)), (3, .int (iI n)), (4, .int (iI k))] → W p l e R s m args below meth c H locs 0 0 Q (F0 m 37 ls []) := by
        intro fu_37
        induction fu_37 with
        | zero => intro _ _ _ _ _ _ _ hm; exact absurd hm (Nat.not_lt_zero _)
        | succ fu_37 ih_37 =>
          intro k n hi2 lo2 H locs ls hm i1 i2 hP hD hS hl
          have b4 := isum_nn (h := fun k => bz (isin par (wR X Y O E nc (64 * x + 8 + 16 * (k % 4)) (64 * (63 - q) + 8 + 16 * (k / 4))))) (fun k => bz_in _) k.toNat
          rw [← i2] at b4
          refine lv_iload hx hb dM_share_37 (lv_at hl 4 rfl) ?_
          refine lv_bipush (v := iI 16) hx hb dM_share_39 (by decide +kernel) ?_
          refine xi_icmp_ge (tgt := 98) hx hb dM_share_41 (by decide) (by omega) (by omega) (fun c_41 => ?_) (fun c_41 => ?_)
          · skip
            refine lv_iload_n hx hb dM_share_98 rfl (lv_at hl 3 rfl) ?_
            subst hQ
            exact W.iret (v := (iI n)) hx hb hr (fun t9 ht9 hW9 => ⟨⟨_, (fc, u_29.2.2.2.1, u_29.1, hi2, lo2, u_29.2.2.2.2.1, u_29.2.2.2.2.2.1, u_29.2.2.2.2.2.2, u_29.2.1, u_29.2.2.1), rfl, (⟨hfc, fun _ => by rw [i2, show k = 16 by omega]; rfl⟩), by rw [ht9]; exact hP, va_K.moved hW9.alike hK, hD⟩, hS.F ht9⟩) hS.2.2 dM_share_99
          · skip
            refine lv_aload_n hx hb dM_share_44 rfl (lv_at hl 0 rfl) ?_
            refine lv_bipush (v := iI 64) hx hb dM_share_45 (by decide +kernel) ?_
            refine lv_iload_n hx hb dM_share_47 rfl (lv_at hl 1 rfl) ?_
            refine xi_mul (z := 64 * x) hx hb dM_share_48 rfl ?_
            refine lv_bipush (v := iI 8) hx hb dM_share_49 (by decide +kernel) ?_
            refine xi_add (z := (64 * x) + 8) hx hb dM_share_51 rfl ?_
            refine lv_bipush (v := iI 16) hx hb dM_share_52 (by decide +kernel) ?_
            refine lv_iload hx hb dM_share_54 (lv_at hl 4 rfl) ?_
            refine xi_iconst hx hb dM_share_56 ?_
            refine xi_rem (z := k % 4) hx hb dM_share_57 (by omega) (by omega) rfl ?_
            refine xi_mul (z := 16 * (k % 4)) hx hb dM_share_58 rfl ?_
            refine xi_add (z := ((64 * x) + 8) + (16 * (k % 4))) hx hb dM_share_59 rfl ?_
            refine lv_bipush (v := iI 64) hx hb dM_share_60 (by decide +kernel) ?_
            refine lv_bipush (v := iI 63) hx hb dM_share_62 (by decide +kernel) ?_
            refine lv_iload_n hx hb dM_share_64 rfl (lv_at hl 2 rfl) ?_
            refine xi_sub (z := 63 - q) hx hb dM_share_65 rfl ?_
            refine xi_mul (z := 64 * (63 - q)) hx hb dM_share_66 rfl ?_
            refine lv_bipush (v := iI 8) hx hb dM_share_67 (by decide +kernel) ?_
            refine xi_add (z := (64 * (63 - q)) + 8) hx hb dM_share_69 rfl ?_
            refine lv_bipush (v := iI 16) hx hb dM_share_70 (by decide +kernel) ?_
            refine lv_iload hx hb dM_share_72 (lv_at hl 4 rfl) ?_
            refine xi_iconst hx hb dM_share_74 ?_
            refine xi_div (z := k / 4) hx hb dM_share_75 (by omega) (by omega) rfl ?_
            refine xi_mul (z := 16 * (k / 4)) hx hb dM_share_76 rfl ?_
            refine xi_add (z := ((64 * (63 - q)) + 8) + (16 * (k / 4))) hx hb dM_share_77 rfl ?_
            have hFc := xw_free hD hS hA
            refine va_calli (va_runV (As := [.int (iI (((64 * x) + 8) + (16 * (k % 4)))), .int (iI (((64 * (63 - q)) + 8) + (16 * (k / 4))))]) (rest := []) ⟨hx, hb, hml, hown, hts⟩ (m_isIn l dC dI ad cs H.size fc par np nc u_29.2.2.2.1 u_29.1 hi2 lo2 X Y O E u_29.2.2.2.2.1 u_29.2.2.2.2.2.1 u_29.2.2.2.2.2.2 u_29.2.1 u_29.2.2.1 (64 * x + 8 + 16 * (k % 4)) (64 * (63 - q) + 8 + 16 * (k / 4)) hnp hpok (by omega) (by omega)) (cwV 2 hts (tb_V mlM_135 imM_isIn seM_isIn iniM coM_isIn) rfl rfl rfl (by decide +kernel) (by subst hR; exact ⟨Nat.le_of_ble_eq_true rfl, Nat.le_of_ble_eq_true rfl⟩)) ⟨fun a9 U9 g9 mk9 q9 => by obtain ⟨q0, q1, qP, qK, qD⟩ := q9; exact ⟨q0, q1, qP, va_K.moved (u := U9) (U := U9.calling g9 mk9 a9) (Vm.Alike.refl U9.vm) qK, qD⟩, va_recv hK hP (ci := 3) (q0 := 0) rfl rfl, fun U hU hW => ⟨rfl, by rw [hU], by rw [hU]; exact hP, va_K.moved hW.alike hK, hD.weaken (fun _ _ _ _ => trivial)⟩⟩ rfl rfl hl.1 rfl (lv_room (Nat.le_of_ble_eq_true rfl)) dM_share_78 ⟨by subst hR; exact Nat.le_of_ble_eq_true rfl, by subst hR; exact Nat.le_of_ble_eq_true rfl⟩) hS (fun q9 _ h9 => hFc q9 h9) hFc (fun r_78 u_78 t9 H1 locs1 ht9 hvm9 hw_78 hB9 hz9 hk9 hS1 => ?_)
            obtain ⟨hP1, hK1, hD1⟩ := hB9
            rw [ht9] at hP1
            have hP : va_P (dC, dI) vwCl (mW ad cs fc par np nc u_29.2.2.2.1 u_29.1 u_78.1 u_78.2 X Y O E u_29.2.2.2.2.1 u_29.2.2.2.2.2.1 u_29.2.2.2.2.2.2 u_29.2.1 u_29.2.2.1) H1 := hP1
            have hD : va_D A (mW ad cs fc par np nc u_29.2.2.2.1 u_29.1 u_78.1 u_78.2 X Y O E u_29.2.2.2.2.1 u_29.2.2.2.2.2.1 u_29.2.2.2.2.2.2 u_29.2.1 u_29.2.2.1) := hD1.weaken (fun _ _ _ h9 => hFc _ h9)
            clear hP1 hD1 hK1 hFc
            have hS := hS1
            clear hS1 hz9 hk9 ht9 hvm9
            revert hP hD hS; generalize H1 = H; generalize locs1 = locs; intro hP hD hS
            obtain ⟨hr_78, hw_78⟩ := hw_78; subst hr_78
            have e9 : wR X Y O E nc (64 * x + 8 + 16 * (k % 4)) (64 * (63 - q) + 8 + 16 * (k / 4)) = wnd u_29.2.1 u_29.2.2.1 u_29.1 (64 * x + 8 + 16 * (k % 4)) (64 * (63 - q) + 8 + 16 * (k / 4)) := by rw [wnd_wR hsum]
            have cut_91_3 : ∀ (v : Int) (ls : Array Slot), (v = isum (fun k => bz (isin par (wR X Y O E nc (64 * x + 8 + 16 * (k % 4)) (64 * (63 - q) + 8 + 16 * (k / 4))))) (k + 1).toNat) → lv_has ls 5 [(0, .ref (ad 0)), (1, .int (iI x)), (2, .int (iI q)), (3, .int (iI n)), (4, .int (iI k))] → W p l e R s m args below meth c H locs 0 0 Q (F0 m 91 ls [.int (iI v)]) := by
              intro v ls hv hl
              refine lv_istore_n (lv' := [(3, .int (iI v)), (0, .ref (ad 0)), (1, .int (iI x)), (2, .int (iI q)), (4, .int (iI k))]) hx hb dM_share_91 rfl hl (by decide) rfl (fun ls hl => ?_)
              refine xi_iinc (z := k + 1) (lv' := [(4, .int (iI (k + 1))), (3, .int (iI v)), (0, .ref (ad 0)), (1, .int (iI x)), (2, .int (iI q))]) hx hb dM_share_92 hl (k := 4) rfl rfl (by decide) rfl (fun ls hl => ?_)
              refine lv_goto (tgt := 37) hx hb dM_share_95 (by decide) ?_
              exact ih_37 (k + 1) v u_78.1 u_78.2 _ _ _ (by omega) (by omega) (hv) hP hD hS (lv_sub hl [2, 3, 4, 1, 0] rfl)
            refine xb_if_eq (tgt := 90) hx hb dM_share_81 (by decide) (fun c_81 => ?_) (fun c_81 => ?_)
            · skip
              refine lv_iload_n hx hb dM_share_90 rfl (lv_at hl 3 rfl) ?_
              exact cut_91_3 n _ (by rw [isum_s _ i1.1, ← i2, e9, c_81]; show n = n + 0; omega) (lv_sub hl [0, 1, 2, 3, 4] rfl)
            · skip
              refine lv_iload_n hx hb dM_share_84 rfl (lv_at hl 3 rfl) ?_
              refine xi_iconst hx hb dM_share_85 ?_
              refine xi_add (z := n + 1) hx hb dM_share_86 rfl ?_
              refine lv_goto (tgt := 91) hx hb dM_share_87 (by decide) ?_
              exact cut_91_3 (n + 1) _ (by rw [isum_s _ i1.1, ← i2, e9, c_81]; rfl) (lv_sub hl [0, 1, 2, 3, 4] rfl)
      exact cut_37_2 (((16 - (0 : Int)).toNat) + 1) 0 0 hi lo _ _ _ (Nat.lt_succ_self _) (by omega) (rfl) hP hD hS (lv_sub hl [2, 3, 4, 1, 0] rfl)
    · skip
      refine xi_iconst hx hb dM_share_26 ?_
      subst hQ
      exact W.iret (v := (iI 0)) hx hb hr (fun t9 ht9 hW9 => ⟨⟨_, (fc, rs, npc, hi, lo, RX, RY, RO, PC, CV), rfl, (⟨hfc, fun h => absurd h (by have := of_decide_eq_true c_23; omega)⟩), by rw [ht9]; exact hP, va_K.moved hW9.alike hK, hD⟩, hS.F ht9⟩) hS.2.2 dM_share_27
  refine lv_iload_n hx hb dM_share_1 rfl (lv_at hl 1 rfl) ?_
  refine vp_callSi (W.runS (As := [.int (iI x)]) (rest := [.ref (ad 0)]) ⟨hx, hb, hml, hown, hts⟩ (m_isPlace l dC dI x (by omega)) (va_cwS 1 hts (tb_S mlM_155 smM_isPlace iniM coM_isPlace) rfl rfl rfl (by decide +kernel) (by subst hR; exact ⟨Nat.le_of_ble_eq_true rfl, Nat.le_of_ble_eq_true rfl⟩)) ⟨fun a9 U9 g9 mk9 q9 => q9, fun U hU hW => ⟨rfl, trivial⟩⟩ rfl rfl hl.1 rfl (lv_room (Nat.le_of_ble_eq_true rfl)) dM_share_2 ⟨by subst hR; exact Nat.zero_le _, by subst hR; exact Nat.zero_le _⟩) (fun r_2 hw_2 => ?_)
  subst hw_2
  refine xb_if_eq (tgt := 19) hx hb dM_share_5 (by decide) (fun c_5 => ?_) (fun c_5 => ?_)
  · skip
    refine xi_iconst hx hb dM_share_19 ?_
    exact cut_20_1 1 _ (by unfold fS; rw [if_neg (fun h => of_decide_eq_false c_5 h.1)]) (lv_sub hl [0, 1, 2] rfl)
  · skip
    refine lv_iload_n hx hb dM_share_8 rfl (lv_at hl 2 rfl) ?_
    refine vp_callSi (W.runS (As := [.int (iI q)]) (rest := [.ref (ad 0)]) ⟨hx, hb, hml, hown, hts⟩ (m_isPlace l dC dI q (by omega)) (va_cwS 1 hts (tb_S mlM_155 smM_isPlace iniM coM_isPlace) rfl rfl rfl (by decide +kernel) (by subst hR; exact ⟨Nat.le_of_ble_eq_true rfl, Nat.le_of_ble_eq_true rfl⟩)) ⟨fun a9 U9 g9 mk9 q9 => q9, fun U hU hW => ⟨rfl, trivial⟩⟩ rfl rfl hl.1 rfl (lv_room (Nat.le_of_ble_eq_true rfl)) dM_share_9 ⟨by subst hR; exact Nat.zero_le _, by subst hR; exact Nat.zero_le _⟩) (fun r_9 hw_9 => ?_)
    subst hw_9
    refine xb_if_eq (tgt := 19) hx hb dM_share_12 (by decide) (fun c_12 => ?_) (fun c_12 => ?_)
    · skip
      refine xi_iconst hx hb dM_share_19 ?_
      exact cut_20_1 1 _ (by unfold fS; rw [if_neg (fun h => of_decide_eq_false c_12 h.2)]) (lv_sub hl [0, 1, 2] rfl)
    · skip
      refine xi_iconst hx hb dM_share_15 ?_
      refine lv_goto (tgt := 20) hx hb dM_share_16 (by decide) ?_
      exact cut_20_1 0 _ (by unfold fS; rw [if_pos ⟨of_decide_eq_true c_5, of_decide_eq_true c_12⟩]) (lv_sub hl [0, 1, 2] rfl)
set_option maxHeartbeats 4000000 in
set_option maxRecDepth 100000 in
/-- spans -/
theorem m_spans (l : Launch) (dC : Nat → ClassId) (dI : Nat → Nat → Nat) (ad : Nat → Nat) (cs : Nat → ClassId) (sz : Nat) (ft : Int) (par : Bool) (np nc rs npc hi lo : Int) (X Y : Int → Int) (O : Int → Bool) (E RX RY : Int → Int) (RO : Int → Bool) (PC : Int → Int) (CV : Int → Bool) (q : Int) (h1 : 0 ≤ nc ∧ nc ≤ 64) (h2 : ctOk nc E) (h3 : 0 ≤ clo nc E ∧ clo nc E ≤ 512) (h4 : ∀ k : Int, 0 ≤ k → k < clo nc E → (-8192 ≤ X k ∧ X k ≤ 8191) ∧ (-8192 ≤ Y k ∧ Y k ≤ 8191)) (hq0 : -2147483648 ≤ q ∧ q ≤ 2147483647) : Met l yM_spans wM_spans ({ frames := 8, cells := 0, slots := 0, locals := 243 }) (va_Pc [.ref (ad 0), .int (iI q)] (fun U => U.heap.size = sz ∧ va_P (dC, dI) vwCl (mW ad cs ft par np nc rs npc hi lo X Y O E RX RY RO PC CV) U.heap ∧ va_K (dC, dI) vwCl (mT cs) U ∧ va_D (fun _ => True) (mW ad cs ft par np nc rs npc hi lo X Y O E RX RY RO PC CV))) (va_Qi (fun (r : Int32) (u : Int × Int × Int × Int × Int × (Int → Int) × (Int → Int) × (Int → Bool) × (Int → Int) × (Int → Bool)) => u.1 = fR q ∧ (fR q = 0 → r = iI (isum (fun x => bz (spS (pxR X Y O E nc par q) x)) 64))) (fun (u : Int × Int × Int × Int × Int × (Int → Int) × (Int → Int) × (Int → Bool) × (Int → Int) × (Int → Bool)) t9 => va_P (dC, dI) vwCl (mW ad cs u.1 par np nc u.2.1 u.2.2.1 u.2.2.2.1 u.2.2.2.2.1 X Y O E u.2.2.2.2.2.1 u.2.2.2.2.2.2.1 u.2.2.2.2.2.2.2.1 u.2.2.2.2.2.2.2.2.1 u.2.2.2.2.2.2.2.2.2) t9.heap ∧ va_K (dC, dI) vwCl (mT cs) t9 ∧ va_D (va_A (mW ad cs ft par np nc rs npc hi lo X Y O E RX RY RO PC CV) sz) (mW ad cs u.1 par np nc u.2.1 u.2.2.1 u.2.2.2.1 u.2.2.2.2.1 X Y O E u.2.2.2.2.2.1 u.2.2.2.2.2.2.1 u.2.2.2.2.2.2.2.1 u.2.2.2.2.2.2.2.2.1 u.2.2.2.2.2.2.2.2.2)) (va_A (mW ad cs ft par np nc rs npc hi lo X Y O E RX RY RO PC CV) sz)) 0 0 (va_A (mW ad cs ft par np nc rs npc hi lo X Y O E RX RY RO PC CV) sz) := by
  refine Met.ofW (cc := cM_spans) (maxL := 6) (ret := (some .int)) (by decide) rfl ?_
  intro p e s m args below meth c s₁ B hml hv
  obtain ⟨hargs, hsz, hP, hK, hD0⟩ := hv
  have hx := B.exec
  have hb := B.bytes
  have hr := B.returns
  have hts := atoms_spec (ws := wM_spans) B.pre
  have hown : s.vm.findClass RM = some m.cls := findClass_of_methodNamed B.named
  have hlocks := B.notSynchronized
  subst hsz
  have hD := hD0.self (sz := s.heap.size)
  generalize hAe : va_A (mW ad cs ft par np nc rs npc hi lo X Y O E RX RY RO PC CV) s.heap.size = A at hD ⊢
  have hA : ∀ q : Nat, s.heap.size ≤ q → A q := fun q h => by rw [← hAe]; exact Or.inr h
  have hS0 : va_S A s.heap s.heap [] := va_S.rf
  refine x_name (fun R Q H locs hR hQ hH hlo => ?_)
  rw [← hH] at hP
  have hS : va_S A s.heap H locs := by rw [hH, hlo]; exact hS0
  refine x_entry hargs (Nat.le_of_ble_eq_true rfl) (fun ls hl => ?_)
  have hl : lv_has ls 6 [(0, .ref (ad 0)), (1, .int (iI q))] := hl
  have hP : va_P (dC, dI) vwCl (mW ad cs ft par np nc rs npc hi lo X Y O E RX RY RO PC CV) H := hP
  refine lv_aload_n hx hb dM_spans_0 rfl (lv_at hl 0 rfl) ?_
  have cut_13_1 : ∀ (fc : Int) (ls : Array Slot), (fc = fR q) → lv_has ls 6 [(0, .ref (ad 0)), (1, .int (iI q))] → W p l e R s m args below meth c H locs 0 0 Q (F0 m 13 ls [.int (iI fc), .ref (ad 0)]) := by
    intro fc ls hfc hl
    have b1 : 0 ≤ fc ∧ fc ≤ 1 := by (rw [hfc]; unfold fR; split <;> omega)
    have hFc := xw_free hD hS hA
    refine va_calli (va_runV (As := [.int (iI fc)]) (rest := []) ⟨hx, hb, hml, hown, hts⟩ (m_refused l dC dI ad cs H.size ft par np nc rs npc hi lo X Y O E RX RY RO PC CV fc (by omega)) (cwV 1 hts (tb_V mlM_60 imM_refused seM_refused iniM coM_refused) rfl rfl rfl (by decide +kernel) (by subst hR; exact ⟨Nat.le_of_ble_eq_true rfl, Nat.le_of_ble_eq_true rfl⟩)) ⟨fun a9 U9 g9 mk9 q9 => by obtain ⟨q0, q1, qP, qK, qD⟩ := q9; exact ⟨q0, q1, qP, va_K.moved (u := U9) (U := U9.calling g9 mk9 a9) (Vm.Alike.refl U9.vm) qK, qD⟩, va_recv hK hP (ci := 3) (q0 := 0) rfl rfl, fun U hU hW => ⟨rfl, by rw [hU], by rw [hU]; exact hP, va_K.moved hW.alike hK, hD.weaken (fun _ _ _ _ => trivial)⟩⟩ rfl rfl hl.1 rfl (lv_room (Nat.le_of_ble_eq_true rfl)) dM_spans_13 ⟨by subst hR; exact Nat.le_of_ble_eq_true rfl, by subst hR; exact Nat.le_of_ble_eq_true rfl⟩) hS (fun q9 _ h9 => hFc q9 h9) hFc (fun r_13 u_13 t9 H1 locs1 ht9 hvm9 hw_13 hB9 hz9 hk9 hS1 => ?_)
    obtain ⟨hP1, hK1, hD1⟩ := hB9
    rw [ht9] at hP1
    have hP : va_P (dC, dI) vwCl (mW ad cs fc par np nc rs npc hi lo X Y O E RX RY RO PC CV) H1 := hP1
    have hD : va_D A (mW ad cs fc par np nc rs npc hi lo X Y O E RX RY RO PC CV) := hD1.weaken (fun _ _ _ h9 => hFc _ h9)
    clear hP1 hD1 hK1 hFc
    have hS := hS1
    clear hS1 hz9 hk9 ht9 hvm9
    revert hP hD hS; generalize H1 = H; generalize locs1 = locs; intro hP hD hS
    obtain ⟨hr_13, hw_13⟩ := hw_13; subst hr_13
    refine xb_if_eq (tgt := 21) hx hb dM_spans_16 (by decide) (fun c_16 => ?_) (fun c_16 => ?_)
    · skip
      have b2 : fR q = 0 := by have := of_decide_eq_false c_16; omega
      have b3 : 0 ≤ q ∧ q < 64 := by (unfold fR at b2; split at b2; assumption; cases b2)
      refine lv_aload_n hx hb dM_spans_21 rfl (lv_at hl 0 rfl) ?_
      have hFc := xw_free hD hS hA
      refine va_callv (va_runV (As := []) (rest := []) ⟨hx, hb, hml, hown, hts⟩ (m_makePieces l dC dI ad cs H.size fc par np nc rs npc hi lo X Y O E RX RY RO PC CV h1 h2 h3 h4) (cwV 0 hts (tb_V mlM_139 imM_makePieces seM_makePieces iniM coM_makePieces) rfl rfl rfl (by decide +kernel) (by subst hR; exact ⟨Nat.le_of_ble_eq_true rfl, Nat.le_of_ble_eq_true rfl⟩)) ⟨fun a9 U9 g9 mk9 q9 => by obtain ⟨q0, q1, qP, qK, qD⟩ := q9; exact ⟨q0, q1, qP, va_K.moved (u := U9) (U := U9.calling g9 mk9 a9) (Vm.Alike.refl U9.vm) qK, qD⟩, va_recv hK hP (ci := 3) (q0 := 0) rfl rfl, fun U hU hW => ⟨rfl, by rw [hU], by rw [hU]; exact hP, va_K.moved hW.alike hK, hD.weaken (fun _ _ _ _ => trivial)⟩⟩ rfl rfl hl.1 rfl (lv_room (Nat.le_of_ble_eq_true rfl)) dM_spans_22 ⟨by subst hR; exact Nat.le_of_ble_eq_true rfl, by subst hR; exact Nat.le_of_ble_eq_true rfl⟩) hS (fun q9 _ h9 => hFc q9 h9) hFc (fun u_22 t9 H1 locs1 ht9 hvm9 hw_22 hB9 hz9 hk9 hS1 => ?_)
      obtain ⟨hP1, hK1, hD1⟩ := hB9
      rw [ht9] at hP1
      have hP : va_P (dC, dI) vwCl (mW ad cs fc par np nc u_22.2.2.2.1 u_22.1 hi lo X Y O E u_22.2.2.2.2.1 u_22.2.2.2.2.2.1 u_22.2.2.2.2.2.2 u_22.2.1 u_22.2.2.1) H1 := hP1
      have hD : va_D A (mW ad cs fc par np nc u_22.2.2.2.1 u_22.1 hi lo X Y O E u_22.2.2.2.2.1 u_22.2.2.2.2.2.1 u_22.2.2.2.2.2.2 u_22.2.1 u_22.2.2.1) := hD1.weaken (fun _ _ _ h9 => hFc _ h9)
      clear hP1 hD1 hK1 hFc
      have hS := hS1
      clear hS1 hz9 hk9 ht9 hvm9
      revert hP hD hS; generalize H1 = H; generalize locs1 = locs; intro hP hD hS
      obtain ⟨hnp, hsum, hpok⟩ := hw_22
      refine xi_iconst hx hb dM_spans_25 ?_
      refine lv_istore_n (lv' := [(2, .int (iI 0)), (0, .ref (ad 0)), (1, .int (iI q))]) hx hb dM_spans_26 rfl hl (by decide) rfl (fun ls hl => ?_)
      refine xi_iconst hx hb dM_spans_27 ?_
      refine lv_istore_n (lv' := [(3, .int (iI 0)), (2, .int (iI 0)), (0, .ref (ad 0)), (1, .int (iI q))]) hx hb dM_spans_28 rfl hl (by decide) rfl (fun ls hl => ?_)
      refine xi_iconst hx hb dM_spans_29 ?_
      refine lv_istore (lv' := [(4, .int (iI 0)), (3, .int (iI 0)), (2, .int (iI 0)), (0, .ref (ad 0)), (1, .int (iI q))]) hx hb dM_spans_30 hl (by decide) rfl (fun ls hl => ?_)
      have cut_32_2 : ∀ (fu_32 : Nat) (x : Int) (n : Int) (wa : Bool) (hi2 : Int) (lo2 : Int) (H : Heap) (locs : List Loc) (ls : Array Slot), ((64 - x).toNat) < fu_32 → (0 ≤ x ∧ x ≤ 64) → (n = isum (fun x => bz (spS (pxR X Y O E nc par q) x)) x.toNat) → (wa = pv (pxR X Y O E nc par q) x) → va_P (dC, dI) vwCl (mW ad cs fc par np nc u_22.2.2.2.1 u_22.1 hi2 lo2 X Y O E u_22.2.2.2.2.1 u_22.2.2.2.2.2.1 u_22.2.2.2.2.2.2 u_22.2.1 u_22.2.2.1) H → va_D A (mW ad cs fc par np nc u_22.2.2.2.1 u_22.1 hi2 lo2 X Y O E u_22.2.2.2.2.1 u_22.2.2.2.2.2.1 u_22.2.2.2.2.2.2 u_22.2.1 u_22.2.2.1) → va_S A s.heap H locs → lv_has ls 6 [(0, .ref (ad 0)), (1, .int (iI q)), (2, .int (iI n)), (3, .int (iI (bz wa))), (4, .int (iI x))] → W p l e R s m args below meth c H locs 0 0 Q (F0 m 32 ls []) := by
        intro fu_32
        induction fu_32 with
        | zero => intro _ _ _ _ _ _ _ _ hm; exact absurd hm (Nat.not_lt_zero _)
        | succ fu_32 ih_32 =>
          intro x n wa hi2 lo2 H locs ls hm i1 i2 i3 hP hD hS hl
          have b4 := isum_nn (h := fun x => bz (spS (pxR X Y O E nc par q) x)) (fun k => bz_in _) x.toNat
          rw [← i2] at b4
          refine lv_iload hx hb dM_spans_32 (lv_at hl 4 rfl) ?_
          refine lv_bipush (v := iI 64) hx hb dM_spans_34 (by decide +kernel) ?_
          refine xi_icmp_ge (tgt := 74) hx hb dM_spans_36 (by decide) (by omega) (by omega) (fun c_36 => ?_) (fun c_36 => ?_)
          · skip
            refine lv_iload_n hx hb dM_spans_74 rfl (lv_at hl 2 rfl) ?_
            subst hQ
            exact W.iret (v := (iI n)) hx hb hr (fun t9 ht9 hW9 => ⟨⟨_, (fc, u_22.2.2.2.1, u_22.1, hi2, lo2, u_22.2.2.2.2.1, u_22.2.2.2.2.2.1, u_22.2.2.2.2.2.2, u_22.2.1, u_22.2.2.1), rfl, (⟨hfc, fun _ => by rw [i2, show x = 64 by omega]; rfl⟩), by rw [ht9]; exact hP, va_K.moved hW9.alike hK, hD⟩, hS.F ht9⟩) hS.2.2 dM_spans_75
          · skip
            refine lv_aload_n hx hb dM_spans_39 rfl (lv_at hl 0 rfl) ?_
            refine lv_iload hx hb dM_spans_40 (lv_at hl 4 rfl) ?_
            refine lv_iload_n hx hb dM_spans_42 rfl (lv_at hl 1 rfl) ?_
            have hFc := xw_free hD hS hA
            refine va_calli (va_runV (As := [.int (iI x), .int (iI q)]) (rest := []) ⟨hx, hb, hml, hown, hts⟩ (m_isSet l dC dI ad cs H.size fc par np nc u_22.2.2.2.1 u_22.1 hi2 lo2 X Y O E u_22.2.2.2.2.1 u_22.2.2.2.2.2.1 u_22.2.2.2.2.2.2 u_22.2.1 u_22.2.2.1 x q hnp hpok (by omega) (by omega)) (cwV 2 hts (tb_V mlM_142 imM_isSet seM_isSet iniM coM_isSet) rfl rfl rfl (by decide +kernel) (by subst hR; exact ⟨Nat.le_of_ble_eq_true rfl, Nat.le_of_ble_eq_true rfl⟩)) ⟨fun a9 U9 g9 mk9 q9 => by obtain ⟨q0, q1, qP, qK, qD⟩ := q9; exact ⟨q0, q1, qP, va_K.moved (u := U9) (U := U9.calling g9 mk9 a9) (Vm.Alike.refl U9.vm) qK, qD⟩, va_recv hK hP (ci := 3) (q0 := 0) rfl rfl, fun U hU hW => ⟨rfl, by rw [hU], by rw [hU]; exact hP, va_K.moved hW.alike hK, hD.weaken (fun _ _ _ _ => trivial)⟩⟩ rfl rfl hl.1 rfl (lv_room (Nat.le_of_ble_eq_true rfl)) dM_spans_43 ⟨by subst hR; exact Nat.le_of_ble_eq_true rfl, by subst hR; exact Nat.le_of_ble_eq_true rfl⟩) hS (fun q9 _ h9 => hFc q9 h9) hFc (fun r_43 u_43 t9 H1 locs1 ht9 hvm9 hw_43 hB9 hz9 hk9 hS1 => ?_)
            obtain ⟨hP1, hK1, hD1⟩ := hB9
            rw [ht9] at hP1
            have hP : va_P (dC, dI) vwCl (mW ad cs fc par np nc u_22.2.2.2.1 u_22.1 u_43.1 u_43.2 X Y O E u_22.2.2.2.2.1 u_22.2.2.2.2.2.1 u_22.2.2.2.2.2.2 u_22.2.1 u_22.2.2.1) H1 := hP1
            have hD : va_D A (mW ad cs fc par np nc u_22.2.2.2.1 u_22.1 u_43.1 u_43.2 X Y O E u_22.2.2.2.2.1 u_22.2.2.2.2.2.1 u_22.2.2.2.2.2.2 u_22.2.1 u_22.2.2.1) := hD1.weaken (fun _ _ _ h9 => hFc _ h9)
            clear hP1 hD1 hK1 hFc
            have hS := hS1
            clear hS1 hz9 hk9 ht9 hvm9
            revert hP hD hS; generalize H1 = H; generalize locs1 = locs; intro hP hD hS
            have e9 : pxR X Y O E nc par q x = isin par (wnd u_22.2.1 u_22.2.2.1 u_22.1 (64 * x + 32) (64 * (63 - q) + 32)) := by unfold pxR; rw [wnd_wR hsum]
            obtain ⟨iz, hiz0⟩ : ∃ z, z = isin par (wnd u_22.2.1 u_22.2.2.1 u_22.1 (64 * x + 32) (64 * (63 - q) + 32)) := ⟨_, rfl⟩
            have hiz : pxR X Y O E nc par q x = iz := by rw [e9, hiz0]
            refine xi_top (y := .int (iI (bz iz))) (by rw [hw_43.1, hiz0]) ?_
            refine lv_istore (lv' := [(5, .int (iI (bz iz))), (0, .ref (ad 0)), (1, .int (iI q)), (2, .int (iI n)), (3, .int (iI (bz wa))), (4, .int (iI x))]) hx hb dM_spans_46 hl (by decide) rfl (fun ls hl => ?_)
            have cut_64_3 : ∀ (v : Int) (ls : Array Slot), (v = isum (fun x => bz (spS (pxR X Y O E nc par q) x)) (x + 1).toNat) → lv_has ls 6 [(5, .int (iI (bz iz))), (0, .ref (ad 0)), (1, .int (iI q)), (2, .int (iI n)), (3, .int (iI (bz wa))), (4, .int (iI x))] → W p l e R s m args below meth c H locs 0 0 Q (F0 m 64 ls [.int (iI v)]) := by
              intro v ls hv hl
              refine lv_istore_n (lv' := [(2, .int (iI v)), (5, .int (iI (bz iz))), (0, .ref (ad 0)), (1, .int (iI q)), (3, .int (iI (bz wa))), (4, .int (iI x))]) hx hb dM_spans_64 rfl hl (by decide) rfl (fun ls hl => ?_)
              refine lv_iload hx hb dM_spans_65 (lv_at hl 1 rfl) ?_
              refine lv_istore_n (lv' := [(3, .int (iI (bz iz))), (2, .int (iI v)), (5, .int (iI (bz iz))), (0, .ref (ad 0)), (1, .int (iI q)), (4, .int (iI x))]) hx hb dM_spans_67 rfl hl (by decide) rfl (fun ls hl => ?_)
              refine xi_iinc (z := x + 1) (lv' := [(4, .int (iI (x + 1))), (3, .int (iI (bz iz))), (2, .int (iI v)), (5, .int (iI (bz iz))), (0, .ref (ad 0)), (1, .int (iI q))]) hx hb dM_spans_68 hl (k := 5) rfl rfl (by decide) rfl (fun ls hl => ?_)
              refine lv_goto (tgt := 32) hx hb dM_spans_71 (by decide) ?_
              exact ih_32 (x + 1) v iz u_43.1 u_43.2 _ _ _ (by omega) (by omega) (hv) (by rw [pv_s _ i1.1, hiz]) hP hD hS (lv_sub hl [4, 5, 2, 1, 0] rfl)
            refine lv_iload hx hb dM_spans_48 (lv_at hl 0 rfl) ?_
            refine xb_if_eq (tgt := 63) hx hb dM_spans_50 (by decide) (fun c_50 => ?_) (fun c_50 => ?_)
            · skip
              refine lv_iload_n hx hb dM_spans_63 rfl (lv_at hl 3 rfl) ?_
              exact cut_64_3 n _ (by rw [isum_s _ i1.1, ← i2]; unfold spS; rw [hiz, c_50]; show n = n + 0; omega) (lv_sub hl [0, 1, 2, 3, 4, 5] rfl)
            · skip
              refine lv_iload_n hx hb dM_spans_53 rfl (lv_at hl 4 rfl) ?_
              refine xb_if_ne (tgt := 63) hx hb dM_spans_54 (by decide) (fun c_54 => ?_) (fun c_54 => ?_)
              · skip
                refine lv_iload_n hx hb dM_spans_63 rfl (lv_at hl 3 rfl) ?_
                exact cut_64_3 n _ (by rw [isum_s _ i1.1, ← i2]; unfold spS; rw [hiz, ← i3, c_50, c_54]; show n = n + 0; omega) (lv_sub hl [0, 1, 2, 3, 4, 5] rfl)
              · skip
                refine lv_iload_n hx hb dM_spans_57 rfl (lv_at hl 3 rfl) ?_
                refine xi_iconst hx hb dM_spans_58 ?_
                refine xi_add (z := n + 1) hx hb dM_spans_59 rfl ?_
                refine lv_goto (tgt := 64) hx hb dM_spans_60 (by decide) ?_
                exact cut_64_3 (n + 1) _ (by rw [isum_s _ i1.1, ← i2]; unfold spS; rw [hiz, ← i3, c_50, c_54]; rfl) (lv_sub hl [0, 1, 2, 3, 4, 5] rfl)
      exact cut_32_2 (((64 - (0 : Int)).toNat) + 1) 0 0 false hi lo _ _ _ (Nat.lt_succ_self _) (by omega) (rfl) (rfl) hP hD hS (lv_sub hl [3, 4, 2, 1, 0] rfl)
    · skip
      refine xi_iconst hx hb dM_spans_19 ?_
      subst hQ
      exact W.iret (v := (iI 0)) hx hb hr (fun t9 ht9 hW9 => ⟨⟨_, (fc, rs, npc, hi, lo, RX, RY, RO, PC, CV), rfl, (⟨hfc, fun h => absurd h (by have := of_decide_eq_true c_16; omega)⟩), by rw [ht9]; exact hP, va_K.moved hW9.alike hK, hD⟩, hS.F ht9⟩) hS.2.2 dM_spans_20
  refine lv_iload_n hx hb dM_spans_1 rfl (lv_at hl 1 rfl) ?_
  refine vp_callSi (W.runS (As := [.int (iI q)]) (rest := [.ref (ad 0)]) ⟨hx, hb, hml, hown, hts⟩ (m_isPlace l dC dI q (by omega)) (va_cwS 1 hts (tb_S mlM_155 smM_isPlace iniM coM_isPlace) rfl rfl rfl (by decide +kernel) (by subst hR; exact ⟨Nat.le_of_ble_eq_true rfl, Nat.le_of_ble_eq_true rfl⟩)) ⟨fun a9 U9 g9 mk9 q9 => q9, fun U hU hW => ⟨rfl, trivial⟩⟩ rfl rfl hl.1 rfl (lv_room (Nat.le_of_ble_eq_true rfl)) dM_spans_2 ⟨by subst hR; exact Nat.zero_le _, by subst hR; exact Nat.zero_le _⟩) (fun r_2 hw_2 => ?_)
  subst hw_2
  refine xb_if_eq (tgt := 12) hx hb dM_spans_5 (by decide) (fun c_5 => ?_) (fun c_5 => ?_)
  · skip
    refine xi_iconst hx hb dM_spans_12 ?_
    exact cut_13_1 1 _ (by unfold fR; rw [if_neg (of_decide_eq_false c_5)]) (lv_sub hl [0, 1] rfl)
  · skip
    refine xi_iconst hx hb dM_spans_8 ?_
    refine lv_goto (tgt := 13) hx hb dM_spans_9 (by decide) ?_
    exact cut_13_1 0 _ (by unfold fR; rw [if_pos (of_decide_eq_true c_5)]) (lv_sub hl [0, 1] rfl)
set_option maxHeartbeats 4000000 in
set_option maxRecDepth 100000 in
/-- span -/
theorem m_span (l : Launch) (dC : Nat → ClassId) (dI : Nat → Nat → Nat) (ad : Nat → Nat) (cs : Nat → ClassId) (sz : Nat) (ft : Int) (par : Bool) (np nc rs npc hi lo : Int) (X Y : Int → Int) (O : Int → Bool) (E RX RY : Int → Int) (RO : Int → Bool) (PC : Int → Int) (CV : Int → Bool) (q k : Int) (en : Bool) (h1 : 0 ≤ nc ∧ nc ≤ 64) (h2 : ctOk nc E) (h3 : 0 ≤ clo nc E ∧ clo nc E ≤ 512) (h4 : ∀ k : Int, 0 ≤ k → k < clo nc E → (-8192 ≤ X k ∧ X k ≤ 8191) ∧ (-8192 ≤ Y k ∧ Y k ≤ 8191)) (hq0 : -2147483648 ≤ q ∧ q ≤ 2147483647) (hk0 : -2147483648 ≤ k ∧ k ≤ 2147483647) : Met l yM_span wM_span ({ frames := 8, cells := 0, slots := 0, locals := 243 }) (va_Pc [.ref (ad 0), .int (iI q), .int (iI k), .int (iI (bz en))] (fun U => U.heap.size = sz ∧ va_P (dC, dI) vwCl (mW ad cs ft par np nc rs npc hi lo X Y O E RX RY RO PC CV) U.heap ∧ va_K (dC, dI) vwCl (mT cs) U ∧ va_D (fun _ => True) (mW ad cs ft par np nc rs npc hi lo X Y O E RX RY RO PC CV))) (va_Qi (fun (r : Int32) (u : Int × Int × Int × Int × Int × (Int → Int) × (Int → Int) × (Int → Bool) × (Int → Int) × (Int → Bool)) => u.1 = fR q ∧ (fR q = 0 → r = iI (fnd (p64 (pxR X Y O E nc par q)) k en 65))) (fun (u : Int × Int × Int × Int × Int × (Int → Int) × (Int → Int) × (Int → Bool) × (Int → Int) × (Int → Bool)) t9 => va_P (dC, dI) vwCl (mW ad cs u.1 par np nc u.2.1 u.2.2.1 u.2.2.2.1 u.2.2.2.2.1 X Y O E u.2.2.2.2.2.1 u.2.2.2.2.2.2.1 u.2.2.2.2.2.2.2.1 u.2.2.2.2.2.2.2.2.1 u.2.2.2.2.2.2.2.2.2) t9.heap ∧ va_K (dC, dI) vwCl (mT cs) t9 ∧ va_D (va_A (mW ad cs ft par np nc rs npc hi lo X Y O E RX RY RO PC CV) sz) (mW ad cs u.1 par np nc u.2.1 u.2.2.1 u.2.2.2.1 u.2.2.2.2.1 X Y O E u.2.2.2.2.2.1 u.2.2.2.2.2.2.1 u.2.2.2.2.2.2.2.1 u.2.2.2.2.2.2.2.2.1 u.2.2.2.2.2.2.2.2.2)) (va_A (mW ad cs ft par np nc rs npc hi lo X Y O E RX RY RO PC CV) sz)) 0 0 (va_A (mW ad cs ft par np nc rs npc hi lo X Y O E RX RY RO PC CV) sz) := by
  refine Met.ofW (cc := cM_span) (maxL := 10) (ret := (some .int)) (by decide) rfl ?_
  intro p e s m args below meth c s₁ B hml hv
  obtain ⟨hargs, hsz, hP, hK, hD0⟩ := hv
  have hx := B.exec
  have hb := B.bytes
  have hr := B.returns
  have hts := atoms_spec (ws := wM_span) B.pre
  have hown : s.vm.findClass RM = some m.cls := findClass_of_methodNamed B.named
  have hlocks := B.notSynchronized
  subst hsz
  have hD := hD0.self (sz := s.heap.size)
  generalize hAe : va_A (mW ad cs ft par np nc rs npc hi lo X Y O E RX RY RO PC CV) s.heap.size = A at hD ⊢
  have hA : ∀ q : Nat, s.heap.size ≤ q → A q := fun q h => by rw [← hAe]; exact Or.inr h
  have hS0 : va_S A s.heap s.heap [] := va_S.rf
  refine x_name (fun R Q H locs hR hQ hH hlo => ?_)
  rw [← hH] at hP
  have hS : va_S A s.heap H locs := by rw [hH, hlo]; exact hS0
  refine x_entry hargs (Nat.le_of_ble_eq_true rfl) (fun ls hl => ?_)
  have hl : lv_has ls 10 [(0, .ref (ad 0)), (1, .int (iI q)), (2, .int (iI k)), (3, .int (iI (bz en)))] := hl
  have hP : va_P (dC, dI) vwCl (mW ad cs ft par np nc rs npc hi lo X Y O E RX RY RO PC CV) H := hP
  refine lv_aload_n hx hb dM_span_0 rfl (lv_at hl 0 rfl) ?_
  have cut_13_1 : ∀ (fc : Int) (ls : Array Slot), (fc = fR q) → lv_has ls 10 [(0, .ref (ad 0)), (1, .int (iI q)), (2, .int (iI k)), (3, .int (iI (bz en)))] → W p l e R s m args below meth c H locs 0 0 Q (F0 m 13 ls [.int (iI fc), .ref (ad 0)]) := by
    intro fc ls hfc hl
    have b1 : 0 ≤ fc ∧ fc ≤ 1 := by (rw [hfc]; unfold fR; split <;> omega)
    have hFc := xw_free hD hS hA
    refine va_calli (va_runV (As := [.int (iI fc)]) (rest := []) ⟨hx, hb, hml, hown, hts⟩ (m_refused l dC dI ad cs H.size ft par np nc rs npc hi lo X Y O E RX RY RO PC CV fc (by omega)) (cwV 1 hts (tb_V mlM_60 imM_refused seM_refused iniM coM_refused) rfl rfl rfl (by decide +kernel) (by subst hR; exact ⟨Nat.le_of_ble_eq_true rfl, Nat.le_of_ble_eq_true rfl⟩)) ⟨fun a9 U9 g9 mk9 q9 => by obtain ⟨q0, q1, qP, qK, qD⟩ := q9; exact ⟨q0, q1, qP, va_K.moved (u := U9) (U := U9.calling g9 mk9 a9) (Vm.Alike.refl U9.vm) qK, qD⟩, va_recv hK hP (ci := 3) (q0 := 0) rfl rfl, fun U hU hW => ⟨rfl, by rw [hU], by rw [hU]; exact hP, va_K.moved hW.alike hK, hD.weaken (fun _ _ _ _ => trivial)⟩⟩ rfl rfl hl.1 rfl (lv_room (Nat.le_of_ble_eq_true rfl)) dM_span_13 ⟨by subst hR; exact Nat.le_of_ble_eq_true rfl, by subst hR; exact Nat.le_of_ble_eq_true rfl⟩) hS (fun q9 _ h9 => hFc q9 h9) hFc (fun r_13 u_13 t9 H1 locs1 ht9 hvm9 hw_13 hB9 hz9 hk9 hS1 => ?_)
    obtain ⟨hP1, hK1, hD1⟩ := hB9
    rw [ht9] at hP1
    have hP : va_P (dC, dI) vwCl (mW ad cs fc par np nc rs npc hi lo X Y O E RX RY RO PC CV) H1 := hP1
    have hD : va_D A (mW ad cs fc par np nc rs npc hi lo X Y O E RX RY RO PC CV) := hD1.weaken (fun _ _ _ h9 => hFc _ h9)
    clear hP1 hD1 hK1 hFc
    have hS := hS1
    clear hS1 hz9 hk9 ht9 hvm9
    revert hP hD hS; generalize H1 = H; generalize locs1 = locs; intro hP hD hS
    obtain ⟨hr_13, hw_13⟩ := hw_13; subst hr_13
    refine xb_if_eq (tgt := 21) hx hb dM_span_16 (by decide) (fun c_16 => ?_) (fun c_16 => ?_)
    · skip
      have b2 : fR q = 0 := by have := of_decide_eq_false c_16; omega
      have b3 : 0 ≤ q ∧ q < 64 := by (unfold fR at b2; split at b2; assumption; cases b2)
      refine lv_aload_n hx hb dM_span_21 rfl (lv_at hl 0 rfl) ?_
      have hFc := xw_free hD hS hA
      refine va_callv (va_runV (As := []) (rest := []) ⟨hx, hb, hml, hown, hts⟩ (m_makePieces l dC dI ad cs H.size fc par np nc rs npc hi lo X Y O E RX RY RO PC CV h1 h2 h3 h4) (cwV 0 hts (tb_V mlM_139 imM_makePieces seM_makePieces iniM coM_makePieces) rfl rfl rfl (by decide +kernel) (by subst hR; exact ⟨Nat.le_of_ble_eq_true rfl, Nat.le_of_ble_eq_true rfl⟩)) ⟨fun a9 U9 g9 mk9 q9 => by obtain ⟨q0, q1, qP, qK, qD⟩ := q9; exact ⟨q0, q1, qP, va_K.moved (u := U9) (U := U9.calling g9 mk9 a9) (Vm.Alike.refl U9.vm) qK, qD⟩, va_recv hK hP (ci := 3) (q0 := 0) rfl rfl, fun U hU hW => ⟨rfl, by rw [hU], by rw [hU]; exact hP, va_K.moved hW.alike hK, hD.weaken (fun _ _ _ _ => trivial)⟩⟩ rfl rfl hl.1 rfl (lv_room (Nat.le_of_ble_eq_true rfl)) dM_span_22 ⟨by subst hR; exact Nat.le_of_ble_eq_true rfl, by subst hR; exact Nat.le_of_ble_eq_true rfl⟩) hS (fun q9 _ h9 => hFc q9 h9) hFc (fun u_22 t9 H1 locs1 ht9 hvm9 hw_22 hB9 hz9 hk9 hS1 => ?_)
      obtain ⟨hP1, hK1, hD1⟩ := hB9
      rw [ht9] at hP1
      have hP : va_P (dC, dI) vwCl (mW ad cs fc par np nc u_22.2.2.2.1 u_22.1 hi lo X Y O E u_22.2.2.2.2.1 u_22.2.2.2.2.2.1 u_22.2.2.2.2.2.2 u_22.2.1 u_22.2.2.1) H1 := hP1
      have hD : va_D A (mW ad cs fc par np nc u_22.2.2.2.1 u_22.1 hi lo X Y O E u_22.2.2.2.2.1 u_22.2.2.2.2.2.1 u_22.2.2.2.2.2.2 u_22.2.1 u_22.2.2.1) := hD1.weaken (fun _ _ _ h9 => hFc _ h9)
      clear hP1 hD1 hK1 hFc
      have hS := hS1
      clear hS1 hz9 hk9 ht9 hvm9
      revert hP hD hS; generalize H1 = H; generalize locs1 = locs; intro hP hD hS
      obtain ⟨hnp, hsum, hpok⟩ := hw_22
      refine xi_iconst hx hb dM_span_25 ?_
      refine lv_istore (lv' := [(4, .int (iI (-1))), (0, .ref (ad 0)), (1, .int (iI q)), (2, .int (iI k)), (3, .int (iI (bz en)))]) hx hb dM_span_26 hl (by decide) rfl (fun ls hl => ?_)
      refine xi_iconst hx hb dM_span_28 ?_
      refine lv_istore (lv' := [(5, .int (iI (-1))), (4, .int (iI (-1))), (0, .ref (ad 0)), (1, .int (iI q)), (2, .int (iI k)), (3, .int (iI (bz en)))]) hx hb dM_span_29 hl (by decide) rfl (fun ls hl => ?_)
      refine xi_iconst hx hb dM_span_31 ?_
      refine lv_istore (lv' := [(6, .int (iI 0)), (5, .int (iI (-1))), (4, .int (iI (-1))), (0, .ref (ad 0)), (1, .int (iI q)), (2, .int (iI k)), (3, .int (iI (bz en)))]) hx hb dM_span_32 hl (by decide) rfl (fun ls hl => ?_)
      refine xi_iconst hx hb dM_span_34 ?_
      refine lv_istore (lv' := [(7, .int (iI 0)), (6, .int (iI 0)), (5, .int (iI (-1))), (4, .int (iI (-1))), (0, .ref (ad 0)), (1, .int (iI q)), (2, .int (iI k)), (3, .int (iI (bz en)))]) hx hb dM_span_35 hl (by decide) rfl (fun ls hl => ?_)
      have cut_37_2 : ∀ (fu_37 : Nat) (x : Int) (n : Int) (fo : Int) (wa : Bool) (hi2 : Int) (lo2 : Int) (H : Heap) (locs : List Loc) (ls : Array Slot), ((65 - x).toNat) < fu_37 → (0 ≤ x ∧ x ≤ 65) → (n = isum (fun z => bz (spS (p64 (pxR X Y O E nc par q)) z)) x.toNat - 1) → (wa = pv (p64 (pxR X Y O E nc par q)) x) → (fo = fnd (p64 (pxR X Y O E nc par q)) k en x.toNat) → va_P (dC, dI) vwCl (mW ad cs fc par np nc u_22.2.2.2.1 u_22.1 hi2 lo2 X Y O E u_22.2.2.2.2.1 u_22.2.2.2.2.2.1 u_22.2.2.2.2.2.2 u_22.2.1 u_22.2.2.1) H → va_D A (mW ad cs fc par np nc u_22.2.2.2.1 u_22.1 hi2 lo2 X Y O E u_22.2.2.2.2.1 u_22.2.2.2.2.2.1 u_22.2.2.2.2.2.2 u_22.2.1 u_22.2.2.1) → va_S A s.heap H locs → lv_has ls 10 [(0, .ref (ad 0)), (1, .int (iI q)), (2, .int (iI k)), (3, .int (iI (bz en))), (4, .int (iI n)), (5, .int (iI fo)), (6, .int (iI (bz wa))), (7, .int (iI x))] → W p l e R s m args below meth c H locs 0 0 Q (F0 m 37 ls []) := by
        intro fu_37
        induction fu_37 with
        | zero => intro _ _ _ _ _ _ _ _ _ hm; exact absurd hm (Nat.not_lt_zero _)
        | succ fu_37 ih_37 =>
          intro x n fo wa hi2 lo2 H locs ls hm i1 i2 i3 i4 hP hD hS hl
          have b4 := isum_nn (h := fun z => bz (spS (p64 (pxR X Y O E nc par q)) z)) (fun k => bz_in _) x.toNat
          refine lv_iload hx hb dM_span_37 (lv_at hl 7 rfl) ?_
          refine lv_bipush (v := iI 64) hx hb dM_span_39 (by decide +kernel) ?_
          refine xi_icmp_gt (tgt := 158) hx hb dM_span_41 (by decide) (by omega) (by omega) (fun c_41 => ?_) (fun c_41 => ?_)
          · skip
            refine lv_iload hx hb dM_span_158 (lv_at hl 5 rfl) ?_
            subst hQ
            exact W.iret (v := (iI fo)) hx hb hr (fun t9 ht9 hW9 => ⟨⟨_, (fc, u_22.2.2.2.1, u_22.1, hi2, lo2, u_22.2.2.2.2.1, u_22.2.2.2.2.2.1, u_22.2.2.2.2.2.2, u_22.2.1, u_22.2.2.1), rfl, (⟨hfc, fun _ => by rw [i4, show x = 65 by omega]; rfl⟩), by rw [ht9]; exact hP, va_K.moved hW9.alike hK, hD⟩, hS.F ht9⟩) hS.2.2 dM_span_160
          · skip
            have cut_66_3 : ∀ (iz : Bool) (hi3 : Int) (lo3 : Int) (H : Heap) (locs : List Loc) (ls : Array Slot), (p64 (pxR X Y O E nc par q) x = iz) → va_P (dC, dI) vwCl (mW ad cs fc par np nc u_22.2.2.2.1 u_22.1 hi3 lo3 X Y O E u_22.2.2.2.2.1 u_22.2.2.2.2.2.1 u_22.2.2.2.2.2.2 u_22.2.1 u_22.2.2.1) H → va_D A (mW ad cs fc par np nc u_22.2.2.2.1 u_22.1 hi3 lo3 X Y O E u_22.2.2.2.2.1 u_22.2.2.2.2.2.1 u_22.2.2.2.2.2.2 u_22.2.1 u_22.2.2.1) → va_S A s.heap H locs → lv_has ls 10 [(0, .ref (ad 0)), (1, .int (iI q)), (2, .int (iI k)), (3, .int (iI (bz en))), (4, .int (iI n)), (5, .int (iI fo)), (6, .int (iI (bz wa))), (7, .int (iI x))] → W p l e R s m args below meth c H locs 0 0 Q (F0 m 66 ls [.int (iI (bz iz))]) := by
              intro iz hi3 lo3 H locs ls hiz hP hD hS hl
              refine lv_istore (lv' := [(8, .int (iI (bz iz))), (0, .ref (ad 0)), (1, .int (iI q)), (2, .int (iI k)), (3, .int (iI (bz en))), (4, .int (iI n)), (5, .int (iI fo)), (6, .int (iI (bz wa))), (7, .int (iI x))]) hx hb dM_span_66 hl (by decide) rfl (fun ls hl => ?_)
              have cut_87_4 : ∀ (nv : Int) (ls : Array Slot), (nv = isum (fun z => bz (spS (p64 (pxR X Y O E nc par q)) z)) (x + 1).toNat - 1) → lv_has ls 10 [(8, .int (iI (bz iz))), (0, .ref (ad 0)), (1, .int (iI q)), (2, .int (iI k)), (3, .int (iI (bz en))), (4, .int (iI n)), (5, .int (iI fo)), (6, .int (iI (bz wa))), (7, .int (iI x))] → W p l e R s m args below meth c H locs 0 0 Q (F0 m 87 ls [.int (iI nv)]) := by
                intro nv ls hnv hl
                have b5 := isum_nn (h := fun z => bz (spS (p64 (pxR X Y O E nc par q)) z)) (fun k => bz_in _) (x + 1).toNat
                have b6 : nv = spN (p64 (pxR X Y O E nc par q)) x := hnv
                refine lv_istore (lv' := [(4, .int (iI nv)), (8, .int (iI (bz iz))), (0, .ref (ad 0)), (1, .int (iI q)), (2, .int (iI k)), (3, .int (iI (bz en))), (5, .int (iI fo)), (6, .int (iI (bz wa))), (7, .int (iI x))]) hx hb dM_span_87 hl (by decide) rfl (fun ls hl => ?_)
                have cut_126_5 : ∀ (he : Bool) (ls : Array Slot), (he = (if en = true then spE (p64 (pxR X Y O E nc par q)) x else spS (p64 (pxR X Y O E nc par q)) x)) → lv_has ls 10 [(4, .int (iI nv)), (8, .int (iI (bz iz))), (0, .ref (ad 0)), (1, .int (iI q)), (2, .int (iI k)), (3, .int (iI (bz en))), (5, .int (iI fo)), (6, .int (iI (bz wa))), (7, .int (iI x))] → W p l e R s m args below meth c H locs 0 0 Q (F0 m 126 ls [.int (iI (bz he))]) := by
                  intro he ls hhe hl
                  refine lv_istore (lv' := [(9, .int (iI (bz he))), (4, .int (iI nv)), (8, .int (iI (bz iz))), (0, .ref (ad 0)), (1, .int (iI q)), (2, .int (iI k)), (3, .int (iI (bz en))), (5, .int (iI fo)), (6, .int (iI (bz wa))), (7, .int (iI x))]) hx hb dM_span_126 hl (by decide) rfl (fun ls hl => ?_)
                  have cut_146_6 : ∀ (fv : Int) (ls : Array Slot), (fv = fnd (p64 (pxR X Y O E nc par q)) k en (x + 1).toNat) → lv_has ls 10 [(9, .int (iI (bz he))), (4, .int (iI nv)), (8, .int (iI (bz iz))), (0, .ref (ad 0)), (1, .int (iI q)), (2, .int (iI k)), (3, .int (iI (bz en))), (5, .int (iI fo)), (6, .int (iI (bz wa))), (7, .int (iI x))] → W p l e R s m args below meth c H locs 0 0 Q (F0 m 146 ls [.int (iI fv)]) := by
                    intro fv ls hfv hl
                    refine lv_istore (lv' := [(5, .int (iI fv)), (9, .int (iI (bz he))), (4, .int (iI nv)), (8, .int (iI (bz iz))), (0, .ref (ad 0)), (1, .int (iI q)), (2, .int (iI k)), (3, .int (iI (bz en))), (6, .int (iI (bz wa))), (7, .int (iI x))]) hx hb dM_span_146 hl (by decide) rfl (fun ls hl => ?_)
                    refine lv_iload hx hb dM_span_148 (lv_at hl 3 rfl) ?_
                    refine lv_istore (lv' := [(6, .int (iI (bz iz))), (5, .int (iI fv)), (9, .int (iI (bz he))), (4, .int (iI nv)), (8, .int (iI (bz iz))), (0, .ref (ad 0)), (1, .int (iI q)), (2, .int (iI k)), (3, .int (iI (bz en))), (7, .int (iI x))]) hx hb dM_span_150 hl (by decide) rfl (fun ls hl => ?_)
                    refine xi_iinc (z := x + 1) (lv' := [(7, .int (iI (x + 1))), (6, .int (iI (bz iz))), (5, .int (iI fv)), (9, .int (iI (bz he))), (4, .int (iI nv)), (8, .int (iI (bz iz))), (0, .ref (ad 0)), (1, .int (iI q)), (2, .int (iI k)), (3, .int (iI (bz en)))]) hx hb dM_span_152 hl (k := 9) rfl rfl (by decide) rfl (fun ls hl => ?_)
                    refine lv_goto (tgt := 37) hx hb dM_span_155 (by decide) ?_
                    exact ih_37 (x + 1) nv fv iz hi3 lo3 _ _ _ (by omega) (by omega) (hnv) (by rw [pv_s _ i1.1, hiz]) (hfv) hP hD hS (lv_sub hl [6, 7, 8, 9, 4, 2, 1, 0] rfl)
                  refine lv_iload hx hb dM_span_128 (lv_at hl 0 rfl) ?_
                  refine xb_if_eq (tgt := 144) hx hb dM_span_130 (by decide) (fun c_130 => ?_) (fun c_130 => ?_)
                  · skip
                    refine lv_iload hx hb dM_span_144 (lv_at hl 7 rfl) ?_
                    exact cut_146_6 fo _ (by rw [fnd_s _ _ _ i1.1, if_neg (fun h => by rw [← hhe, c_130] at h; exact absurd h.1 (by decide))]; exact i4) (lv_sub hl [0, 1, 2, 3, 4, 5, 6, 7, 8, 9] rfl)
                  · skip
                    refine lv_iload hx hb dM_span_133 (lv_at hl 1 rfl) ?_
                    refine lv_iload_n hx hb dM_span_135 rfl (lv_at hl 5 rfl) ?_
                    refine xi_icmp_ne (tgt := 144) hx hb dM_span_136 (by decide) (by omega) (by omega) (fun c_136 => ?_) (fun c_136 => ?_)
                    · skip
                      refine lv_iload hx hb dM_span_144 (lv_at hl 7 rfl) ?_
                      exact cut_146_6 fo _ (by rw [fnd_s _ _ _ i1.1, if_neg (fun h => c_136 (by rw [b6]; exact h.2))]; exact i4) (lv_sub hl [0, 1, 2, 3, 4, 5, 6, 7, 8, 9] rfl)
                    · skip
                      refine lv_iload hx hb dM_span_139 (lv_at hl 9 rfl) ?_
                      refine lv_goto (tgt := 146) hx hb dM_span_141 (by decide) ?_
                      exact cut_146_6 x _ (by rw [fnd_s _ _ _ i1.1, if_pos ⟨by rw [← hhe]; exact c_130, by rw [← b6]; exact c_136⟩]) (lv_sub hl [0, 1, 2, 3, 4, 5, 6, 7, 8, 9] rfl)
                refine lv_iload_n hx hb dM_span_89 rfl (lv_at hl 5 rfl) ?_
                refine xb_if_eq (tgt := 111) hx hb dM_span_90 (by decide) (fun c_90 => ?_) (fun c_90 => ?_)
                · skip
                  refine lv_iload hx hb dM_span_111 (lv_at hl 1 rfl) ?_
                  refine xb_if_eq (tgt := 125) hx hb dM_span_113 (by decide) (fun c_113 => ?_) (fun c_113 => ?_)
                  · skip
                    refine xi_iconst hx hb dM_span_125 ?_
                    exact cut_126_5 false _ (by rw [c_90, if_neg (by decide)]; unfold spS; rw [hiz, ← i3, c_113]; rfl) (lv_sub hl [0, 1, 2, 3, 4, 5, 6, 7, 8] rfl)
                  · skip
                    refine lv_iload hx hb dM_span_116 (lv_at hl 7 rfl) ?_
                    refine xb_if_ne (tgt := 125) hx hb dM_span_118 (by decide) (fun c_118 => ?_) (fun c_118 => ?_)
                    · skip
                      refine xi_iconst hx hb dM_span_125 ?_
                      exact cut_126_5 false _ (by rw [c_90, if_neg (by decide)]; unfold spS; rw [hiz, ← i3, c_113, c_118]; rfl) (lv_sub hl [0, 1, 2, 3, 4, 5, 6, 7, 8] rfl)
                    · skip
                      refine xi_iconst hx hb dM_span_121 ?_
                      refine lv_goto (tgt := 126) hx hb dM_span_122 (by decide) ?_
                      exact cut_126_5 true _ (by rw [c_90, if_neg (by decide)]; unfold spS; rw [hiz, ← i3, c_113, c_118]; rfl) (lv_sub hl [0, 1, 2, 3, 4, 5, 6, 7, 8] rfl)
                · skip
                  refine lv_iload hx hb dM_span_93 (lv_at hl 7 rfl) ?_
                  refine xb_if_eq (tgt := 107) hx hb dM_span_95 (by decide) (fun c_95 => ?_) (fun c_95 => ?_)
                  · skip
                    refine xi_iconst hx hb dM_span_107 ?_
                    refine lv_goto (tgt := 126) hx hb dM_span_108 (by decide) ?_
                    exact cut_126_5 false _ (by rw [c_90, if_pos rfl]; unfold spE; rw [hiz, ← i3, c_95]; rfl) (lv_sub hl [0, 1, 2, 3, 4, 5, 6, 7, 8] rfl)
                  · skip
                    refine lv_iload hx hb dM_span_98 (lv_at hl 1 rfl) ?_
                    refine xb_if_ne (tgt := 107) hx hb dM_span_100 (by decide) (fun c_100 => ?_) (fun c_100 => ?_)
                    · skip
                      refine xi_iconst hx hb dM_span_107 ?_
                      refine lv_goto (tgt := 126) hx hb dM_span_108 (by decide) ?_
                      exact cut_126_5 false _ (by rw [c_90, if_pos rfl]; unfold spE; rw [hiz, ← i3, c_95, c_100]; rfl) (lv_sub hl [0, 1, 2, 3, 4, 5, 6, 7, 8] rfl)
                    · skip
                      refine xi_iconst hx hb dM_span_103 ?_
                      refine lv_goto (tgt := 126) hx hb dM_span_104 (by decide) ?_
                      exact cut_126_5 true _ (by rw [c_90, if_pos rfl]; unfold spE; rw [hiz, ← i3, c_95, c_100]; rfl) (lv_sub hl [0, 1, 2, 3, 4, 5, 6, 7, 8] rfl)
              refine lv_iload hx hb dM_span_68 (lv_at hl 0 rfl) ?_
              refine xb_if_eq (tgt := 85) hx hb dM_span_70 (by decide) (fun c_70 => ?_) (fun c_70 => ?_)
              · skip
                refine lv_iload hx hb dM_span_85 (lv_at hl 5 rfl) ?_
                exact cut_87_4 n _ (by rw [isum_s _ i1.1]; unfold spS; rw [hiz, c_70, i2]; unfold spS; show _ = _ + 0 - 1; omega) (lv_sub hl [0, 1, 2, 3, 4, 5, 6, 7, 8] rfl)
              · skip
                refine lv_iload hx hb dM_span_73 (lv_at hl 7 rfl) ?_
                refine xb_if_ne (tgt := 85) hx hb dM_span_75 (by decide) (fun c_75 => ?_) (fun c_75 => ?_)
                · skip
                  refine lv_iload hx hb dM_span_85 (lv_at hl 5 rfl) ?_
                  exact cut_87_4 n _ (by rw [isum_s _ i1.1]; unfold spS; rw [hiz, ← i3, c_70, c_75, i2]; unfold spS; show _ = _ + 0 - 1; omega) (lv_sub hl [0, 1, 2, 3, 4, 5, 6, 7, 8] rfl)
                · skip
                  refine lv_iload hx hb dM_span_78 (lv_at hl 5 rfl) ?_
                  refine xi_iconst hx hb dM_span_80 ?_
                  refine xi_add (z := n + 1) hx hb dM_span_81 rfl ?_
                  refine lv_goto (tgt := 87) hx hb dM_span_82 (by decide) ?_
                  exact cut_87_4 (n + 1) _ (by rw [isum_s _ i1.1]; unfold spS; rw [hiz, ← i3, c_70, c_75, i2]; unfold spS; show _ - 1 + 1 = _ + 1 - 1; omega) (lv_sub hl [0, 1, 2, 3, 4, 5, 6, 7, 8] rfl)
            refine lv_iload hx hb dM_span_44 (lv_at hl 7 rfl) ?_
            refine lv_bipush (v := iI 64) hx hb dM_span_46 (by decide +kernel) ?_
            refine xi_icmp_ge (tgt := 65) hx hb dM_span_48 (by decide) (by omega) (by omega) (fun c_48 => ?_) (fun c_48 => ?_)
            · skip
              refine xi_iconst hx hb dM_span_65 ?_
              exact cut_66_3 false hi2 lo2 _ _ _ (by unfold p64; rw [decide_eq_false (by omega)]; rfl) hP hD hS (lv_sub hl [0, 1, 2, 3, 4, 5, 6, 7] rfl)
            · skip
              refine lv_aload_n hx hb dM_span_51 rfl (lv_at hl 0 rfl) ?_
              refine lv_iload hx hb dM_span_52 (lv_at hl 7 rfl) ?_
              refine lv_iload_n hx hb dM_span_54 rfl (lv_at hl 1 rfl) ?_
              have hFc := xw_free hD hS hA
              refine va_calli (va_runV (As := [.int (iI x), .int (iI q)]) (rest := []) ⟨hx, hb, hml, hown, hts⟩ (m_isSet l dC dI ad cs H.size fc par np nc u_22.2.2.2.1 u_22.1 hi2 lo2 X Y O E u_22.2.2.2.2.1 u_22.2.2.2.2.2.1 u_22.2.2.2.2.2.2 u_22.2.1 u_22.2.2.1 x q hnp hpok (by omega) (by omega)) (cwV 2 hts (tb_V mlM_142 imM_isSet seM_isSet iniM coM_isSet) rfl rfl rfl (by decide +kernel) (by subst hR; exact ⟨Nat.le_of_ble_eq_true rfl, Nat.le_of_ble_eq_true rfl⟩)) ⟨fun a9 U9 g9 mk9 q9 => by obtain ⟨q0, q1, qP, qK, qD⟩ := q9; exact ⟨q0, q1, qP, va_K.moved (u := U9) (U := U9.calling g9 mk9 a9) (Vm.Alike.refl U9.vm) qK, qD⟩, va_recv hK hP (ci := 3) (q0 := 0) rfl rfl, fun U hU hW => ⟨rfl, by rw [hU], by rw [hU]; exact hP, va_K.moved hW.alike hK, hD.weaken (fun _ _ _ _ => trivial)⟩⟩ rfl rfl hl.1 rfl (lv_room (Nat.le_of_ble_eq_true rfl)) dM_span_55 ⟨by subst hR; exact Nat.le_of_ble_eq_true rfl, by subst hR; exact Nat.le_of_ble_eq_true rfl⟩) hS (fun q9 _ h9 => hFc q9 h9) hFc (fun r_55 u_55 t9 H1 locs1 ht9 hvm9 hw_55 hB9 hz9 hk9 hS1 => ?_)
              obtain ⟨hP1, hK1, hD1⟩ := hB9
              rw [ht9] at hP1
              have hP : va_P (dC, dI) vwCl (mW ad cs fc par np nc u_22.2.2.2.1 u_22.1 u_55.1 u_55.2 X Y O E u_22.2.2.2.2.1 u_22.2.2.2.2.2.1 u_22.2.2.2.2.2.2 u_22.2.1 u_22.2.2.1) H1 := hP1
              have hD : va_D A (mW ad cs fc par np nc u_22.2.2.2.1 u_22.1 u_55.1 u_55.2 X Y O E u_22.2.2.2.2.1 u_22.2.2.2.2.2.1 u_22.2.2.2.2.2.2 u_22.2.1 u_22.2.2.1) := hD1.weaken (fun _ _ _ h9 => hFc _ h9)
              clear hP1 hD1 hK1 hFc
              have hS := hS1
              clear hS1 hz9 hk9 ht9 hvm9
              revert hP hD hS; generalize H1 = H; generalize locs1 = locs; intro hP hD hS
              obtain ⟨hr_55, hw_55⟩ := hw_55; subst hr_55
              have e9 : pxR X Y O E nc par q x = isin par (wnd u_22.2.1 u_22.2.2.1 u_22.1 (64 * x + 32) (64 * (63 - q) + 32)) := by unfold pxR; rw [wnd_wR hsum]
              refine xb_if_eq (tgt := 65) hx hb dM_span_58 (by decide) (fun c_58 => ?_) (fun c_58 => ?_)
              · skip
                refine xi_iconst hx hb dM_span_65 ?_
                exact cut_66_3 false u_55.1 u_55.2 _ _ _ (by unfold p64; rw [decide_eq_true (by omega), e9, c_58]; rfl) hP hD hS (lv_sub hl [0, 1, 2, 3, 4, 5, 6, 7] rfl)
              · skip
                refine xi_iconst hx hb dM_span_61 ?_
                refine lv_goto (tgt := 66) hx hb dM_span_62 (by decide) ?_
                exact cut_66_3 true u_55.1 u_55.2 _ _ _ (by unfold p64; rw [decide_eq_true (by omega), e9, c_58]; rfl) hP hD hS (lv_sub hl [0, 1, 2, 3, 4, 5, 6, 7] rfl)
      exact cut_37_2 (((65 - (0 : Int)).toNat) + 1) 0 (-1) (-1) false hi lo _ _ _ (Nat.lt_succ_self _) (by omega) (rfl) (rfl) (rfl) hP hD hS (lv_sub hl [4, 5, 6, 7, 3, 2, 1, 0] rfl)
    · skip
      refine xi_iconst hx hb dM_span_19 ?_
      subst hQ
      exact W.iret (v := (iI 0)) hx hb hr (fun t9 ht9 hW9 => ⟨⟨_, (fc, rs, npc, hi, lo, RX, RY, RO, PC, CV), rfl, (⟨hfc, fun h => absurd h (by have := of_decide_eq_true c_16; omega)⟩), by rw [ht9]; exact hP, va_K.moved hW9.alike hK, hD⟩, hS.F ht9⟩) hS.2.2 dM_span_20
  refine lv_iload_n hx hb dM_span_1 rfl (lv_at hl 1 rfl) ?_
  refine vp_callSi (W.runS (As := [.int (iI q)]) (rest := [.ref (ad 0)]) ⟨hx, hb, hml, hown, hts⟩ (m_isPlace l dC dI q (by omega)) (va_cwS 1 hts (tb_S mlM_155 smM_isPlace iniM coM_isPlace) rfl rfl rfl (by decide +kernel) (by subst hR; exact ⟨Nat.le_of_ble_eq_true rfl, Nat.le_of_ble_eq_true rfl⟩)) ⟨fun a9 U9 g9 mk9 q9 => q9, fun U hU hW => ⟨rfl, trivial⟩⟩ rfl rfl hl.1 rfl (lv_room (Nat.le_of_ble_eq_true rfl)) dM_span_2 ⟨by subst hR; exact Nat.zero_le _, by subst hR; exact Nat.zero_le _⟩) (fun r_2 hw_2 => ?_)
  subst hw_2
  refine xb_if_eq (tgt := 12) hx hb dM_span_5 (by decide) (fun c_5 => ?_) (fun c_5 => ?_)
  · skip
    refine xi_iconst hx hb dM_span_12 ?_
    exact cut_13_1 1 _ (by unfold fR; rw [if_neg (of_decide_eq_false c_5)]) (lv_sub hl [0, 1, 2, 3] rfl)
  · skip
    refine xi_iconst hx hb dM_span_8 ?_
    refine lv_goto (tgt := 13) hx hb dM_span_9 (by decide) ?_
    exact cut_13_1 0 _ (by unfold fR; rw [if_pos (of_decide_eq_true c_5)]) (lv_sub hl [0, 1, 2, 3] rfl)
set_option maxHeartbeats 4000000 in
set_option maxRecDepth 100000 in
/-- bound -/
theorem m_bound (l : Launch) (dC : Nat → ClassId) (dI : Nat → Nat → Nat) (ad : Nat → Nat) (cs : Nat → ClassId) (ft : Int) (par : Bool) (np nc rs npc hi lo : Int) (X Y : Int → Int) (O : Int → Bool) (E RX RY : Int → Int) (RO : Int → Bool) (PC : Int → Int) (CV : Int → Bool) (a0 a q b : Int) (cv le : Bool) (e1 : PC a0 = a) (e2 : PC (a0 + 2) = q) (e3 : PC (a0 + 4) = b) (h1 : -8192 ≤ a ∧ a ≤ 8191) (h2 : -8192 ≤ q ∧ q ≤ 8191) (h3 : -8192 ≤ b ∧ b ≤ 8191) (ha0 : 0 ≤ a0 ∧ a0 ≤ 3067) : Met l yM_bound wM_bound ({ frames := 1, cells := 0, slots := 0, locals := 23 }) (va_Pc [.ref (ad 0), .int (iI a0), .int (iI (bz cv)), .int (iI (bz le))] (fun U => va_P (dC, dI) vwCl (mW ad cs ft par np nc rs npc hi lo X Y O E RX RY RO PC CV) U.heap ∧ va_K (dC, dI) vwCl (mT cs) U)) (vp_Sl (fun r => r = lI (bnd a q b cv le))) 0 0 (fun _ => False) := by
  refine Met.ofW (cc := cM_bound) (maxL := 17) (ret := (some .long)) (by decide) rfl ?_
  intro p e s m args below meth c s₁ B hml hv
  obtain ⟨hargs, hP, hK⟩ := hv
  have hx := B.exec
  have hb := B.bytes
  have hr := B.returns
  have hts := atoms_spec (ws := wM_bound) B.pre
  have hown : s.vm.findClass RM = some m.cls := findClass_of_methodNamed B.named
  have hlocks := B.notSynchronized
  refine x_name (fun R Q H locs hR hQ hH hlo => ?_)
  rw [← hH] at hP
  refine x_entry hargs (Nat.le_of_ble_eq_true rfl) (fun ls hl => ?_)
  have hl : lv_has ls 17 [(0, .ref (ad 0)), (1, .int (iI a0)), (2, .int (iI (bz cv))), (3, .int (iI (bz le)))] := hl
  have hP : va_P (dC, dI) vwCl (mW ad cs ft par np nc rs npc hi lo X Y O E RX RY RO PC CV) H := hP
  obtain ⟨aa, haa⟩ : ∃ z, z = a - 2 * q + b := ⟨_, rfl⟩
  obtain ⟨hh, hhh⟩ : ∃ z, z = q - a := ⟨_, rfl⟩
  have b1 := mul_bd 16384 16384 (a := hh) (b := hh) (by omega) (by omega)
  have b2 := sq_nn hh
  refine lv_aload_n hx hb dM_bound_0 rfl (lv_at hl 0 rfl) ?_
  refine va_get (D := (dC, dI)) (ci := 3) (v := .ref (ad 8)) (C := RM) (T := TM) (N := 17) hx hb hts (fun w9 h9 => List.mem_cons_of_mem _ (inM w9 h9)) hown hK hP 0 rfl rfl 13 (by decide) (hts _ (List.mem_cons_of_mem _ flM_32)) (fun _ h9 => h9) rfl dM_bound_1 ?_
  refine lv_iload_n hx hb dM_bound_4 rfl (lv_at hl 1 rfl) ?_
  refine xa_iald hx hb hK hP 8 7 rfl rfl (by decide) (by omega) dM_bound_5 ?_
  refine xi_top (y := .int (iI a)) (by rw [e1]) ?_
  refine xl_i2l hx hb dM_bound_6 (by omega) ?_
  refine lv_lstore (lv' := [(4, .long (lI a)), (0, .ref (ad 0)), (1, .int (iI a0)), (2, .int (iI (bz cv))), (3, .int (iI (bz le)))]) hx hb dM_bound_7 hl (by decide) rfl (fun ls hl => ?_)
  refine lv_aload_n hx hb dM_bound_9 rfl (lv_at hl 1 rfl) ?_
  refine va_get (D := (dC, dI)) (ci := 3) (v := .ref (ad 8)) (C := RM) (T := TM) (N := 17) hx hb hts (fun w9 h9 => List.mem_cons_of_mem _ (inM w9 h9)) hown hK hP 0 rfl rfl 13 (by decide) (hts _ (List.mem_cons_of_mem _ flM_32)) (fun _ h9 => h9) rfl dM_bound_10 ?_
  refine lv_iload_n hx hb dM_bound_13 rfl (lv_at hl 2 rfl) ?_
  refine xi_iconst hx hb dM_bound_14 ?_
  refine xi_add (z := a0 + 2) hx hb dM_bound_15 rfl ?_
  refine xa_iald hx hb hK hP 8 7 rfl rfl (by decide) (by omega) dM_bound_16 ?_
  refine xi_top (y := .int (iI q)) (by rw [e2]) ?_
  refine xl_i2l hx hb dM_bound_17 (by omega) ?_
  refine lv_lstore (lv' := [(6, .long (lI q)), (4, .long (lI a)), (0, .ref (ad 0)), (1, .int (iI a0)), (2, .int (iI (bz cv))), (3, .int (iI (bz le)))]) hx hb dM_bound_18 hl (by decide) rfl (fun ls hl => ?_)
  refine lv_aload_n hx hb dM_bound_20 rfl (lv_at hl 2 rfl) ?_
  refine va_get (D := (dC, dI)) (ci := 3) (v := .ref (ad 8)) (C := RM) (T := TM) (N := 17) hx hb hts (fun w9 h9 => List.mem_cons_of_mem _ (inM w9 h9)) hown hK hP 0 rfl rfl 13 (by decide) (hts _ (List.mem_cons_of_mem _ flM_32)) (fun _ h9 => h9) rfl dM_bound_21 ?_
  refine lv_iload_n hx hb dM_bound_24 rfl (lv_at hl 3 rfl) ?_
  refine xi_iconst hx hb dM_bound_25 ?_
  refine xi_add (z := a0 + 4) hx hb dM_bound_26 rfl ?_
  refine xa_iald hx hb hK hP 8 7 rfl rfl (by decide) (by omega) dM_bound_27 ?_
  refine xi_top (y := .int (iI b)) (by rw [e3]) ?_
  refine xl_i2l hx hb dM_bound_28 (by omega) ?_
  refine lv_lstore (lv' := [(8, .long (lI b)), (6, .long (lI q)), (4, .long (lI a)), (0, .ref (ad 0)), (1, .int (iI a0)), (2, .int (iI (bz cv))), (3, .int (iI (bz le)))]) hx hb dM_bound_29 hl (by decide) rfl (fun ls hl => ?_)
  have cut_68_1 : ∀ (fo : Int) (ls : Array Slot), (fo = if le = true then min a b else max a b) → lv_has ls 17 [(8, .long (lI b)), (6, .long (lI q)), (4, .long (lI a)), (0, .ref (ad 0)), (1, .int (iI a0)), (2, .int (iI (bz cv))), (3, .int (iI (bz le)))] → W p l e R s m args below meth c H locs 0 0 Q (F0 m 68 ls [.long (lI fo)]) := by
    intro fo ls hfo hl
    refine lv_lstore (lv' := [(10, .long (lI fo)), (8, .long (lI b)), (6, .long (lI q)), (4, .long (lI a)), (0, .ref (ad 0)), (1, .int (iI a0)), (2, .int (iI (bz cv))), (3, .int (iI (bz le)))]) hx hb dM_bound_68 hl (by decide) rfl (fun ls hl => ?_)
    refine lv_iload_n hx hb dM_bound_70 rfl (lv_at hl 6 rfl) ?_
    refine xb_if_ne (tgt := 77) hx hb dM_bound_71 (by decide) (fun c_71 => ?_) (fun c_71 => ?_)
    · skip
      refine lv_lload hx hb dM_bound_77 (lv_at hl 3 rfl) ?_
      refine lv_ldc2 (v := 2) hx hb hown (hts _ (List.mem_cons_of_mem _ klM_110)) dM_bound_79 ?_
      refine xi_top (y := .long (lI 2)) (by decide +kernel) ?_
      refine lv_lload hx hb dM_bound_82 (lv_at hl 2 rfl) ?_
      refine xl_mul (z := 2 * q) hx hb dM_bound_84 rfl ?_
      refine xl_sub (z := a - (2 * q)) hx hb dM_bound_85 rfl ?_
      refine lv_lload hx hb dM_bound_86 (lv_at hl 1 rfl) ?_
      refine xl_add (z := aa) hx hb dM_bound_88 (haa.symm) ?_
      refine lv_lstore (lv' := [(12, .long (lI aa)), (10, .long (lI fo)), (8, .long (lI b)), (6, .long (lI q)), (4, .long (lI a)), (0, .ref (ad 0)), (1, .int (iI a0)), (2, .int (iI (bz cv))), (3, .int (iI (bz le)))]) hx hb dM_bound_89 hl (by decide) rfl (fun ls hl => ?_)
      refine lv_lload hx hb dM_bound_91 (lv_at hl 3 rfl) ?_
      refine lv_lload hx hb dM_bound_93 (lv_at hl 4 rfl) ?_
      refine xl_sub (z := hh) hx hb dM_bound_95 (hhh.symm) ?_
      refine lv_lstore (lv' := [(14, .long (lI hh)), (12, .long (lI aa)), (10, .long (lI fo)), (8, .long (lI b)), (6, .long (lI q)), (4, .long (lI a)), (0, .ref (ad 0)), (1, .int (iI a0)), (2, .int (iI (bz cv))), (3, .int (iI (bz le)))]) hx hb dM_bound_96 hl (by decide) rfl (fun ls hl => ?_)
      have cut_157_2 : ∀ (tu : Bool) (ls : Array Slot), (tu = decide ((0 < aa ∧ hh < 0 ∧ -hh < aa) ∨ (aa < 0 ∧ 0 < hh ∧ hh < -aa))) → lv_has ls 17 [(14, .long (lI hh)), (12, .long (lI aa)), (10, .long (lI fo)), (8, .long (lI b)), (6, .long (lI q)), (4, .long (lI a)), (0, .ref (ad 0)), (1, .int (iI a0)), (2, .int (iI (bz cv))), (3, .int (iI (bz le)))] → W p l e R s m args below meth c H locs 0 0 Q (F0 m 157 ls [.int (iI (bz tu))]) := by
        intro tu ls htu hl
        refine lv_istore (lv' := [(16, .int (iI (bz tu))), (14, .long (lI hh)), (12, .long (lI aa)), (10, .long (lI fo)), (8, .long (lI b)), (6, .long (lI q)), (4, .long (lI a)), (0, .ref (ad 0)), (1, .int (iI a0)), (2, .int (iI (bz cv))), (3, .int (iI (bz le)))]) hx hb dM_bound_157 hl (by decide) rfl (fun ls hl => ?_)
        have cut_224_3 : ∀ (v : Int) (ls : Array Slot), (v = bnd a q b cv le) → lv_has ls 17 [(16, .int (iI (bz tu))), (14, .long (lI hh)), (12, .long (lI aa)), (10, .long (lI fo)), (8, .long (lI b)), (6, .long (lI q)), (4, .long (lI a)), (0, .ref (ad 0)), (1, .int (iI a0)), (2, .int (iI (bz cv))), (3, .int (iI (bz le)))] → W p l e R s m args below meth c H locs 0 0 Q (F0 m 224 ls [.long (lI v)]) := by
          intro v ls hv hl
          subst hQ
          exact W.lret (v := (lI v)) hx hb hr (fun t9 ht9 hW9 => ⟨_, rfl, (by rw [hv]), ht9.trans hH⟩) (by rw [hlo]; intro q9 h9; cases h9) dM_bound_224
        have htu1 : tu = true ↔ ((0 < aa ∧ hh < 0 ∧ -hh < aa) ∨ (aa < 0 ∧ 0 < hh ∧ hh < -aa)) := by rw [htu]; exact decide_eq_true_iff
        have htu0 : tu = false ↔ ¬ ((0 < aa ∧ hh < 0 ∧ -hh < aa) ∨ (aa < 0 ∧ 0 < hh ∧ hh < -aa)) := by rw [htu]; exact decide_eq_false_iff_not
        have f1 : le = true → bnd a q b cv le = fol a q b := fun h => by unfold bnd; rw [if_pos h, if_pos c_71]
        have f2 : le = false → bnd a q b cv le = -fol (-a) (-q) (-b) := fun h => by unfold bnd; rw [if_neg (by rw [h]; decide), if_pos c_71]
        refine lv_iload hx hb dM_bound_159 (lv_at hl 0 rfl) ?_
        refine xb_if_eq (tgt := 189) hx hb dM_bound_161 (by decide) (fun c_161 => ?_) (fun c_161 => ?_)
        · skip
          refine lv_iload hx hb dM_bound_189 (lv_at hl 0 rfl) ?_
          refine xb_if_eq (tgt := 222) hx hb dM_bound_191 (by decide) (fun c_191 => ?_) (fun c_191 => ?_)
          · skip
            refine lv_lload hx hb dM_bound_222 (lv_at hl 3 rfl) ?_
            exact cut_224_3 fo _ (by (rcases Bool.eq_false_or_eq_true le with hle | hle; (rw [f1 hle, fol_n (fun h => by exact htu0.mp c_161 (by omega)), hfo, if_pos hle]); (rw [f2 hle, fol_n (fun h => by exact htu0.mp c_161 (by omega)), hfo, if_neg (by rw [hle]; decide)]; omega))) (lv_sub hl [0, 1, 2, 3, 4, 5, 6, 7, 8, 9, 10] rfl)
          · exact absurd c_191 (by rw [c_161]; decide)
        · skip
          refine lv_lload hx hb dM_bound_164 (lv_at hl 2 rfl) ?_
          refine lv_lconst (v := lI 0) hx hb dM_bound_166 (by decide +kernel) ?_
          refine xl_le (tgt := 189) hx hb dM_bound_167 dM_bound_168 (by decide) (by omega) (by omega) (fun c_167 => ?_) (fun c_167 => ?_)
          · skip
            refine lv_iload hx hb dM_bound_189 (lv_at hl 0 rfl) ?_
            refine xb_if_eq (tgt := 222) hx hb dM_bound_191 (by decide) (fun c_191 => ?_) (fun c_191 => ?_)
            · exact absurd c_191 (by rw [c_161]; decide)
            · skip
              refine lv_lload hx hb dM_bound_194 (lv_at hl 2 rfl) ?_
              refine lv_lconst (v := lI 0) hx hb dM_bound_196 (by decide +kernel) ?_
              refine xl_ge (tgt := 222) hx hb dM_bound_197 dM_bound_198 (by decide) (by omega) (by omega) (fun c_197 => ?_) (fun c_197 => ?_)
              · skip
                refine lv_lload hx hb dM_bound_222 (lv_at hl 3 rfl) ?_
                exact cut_224_3 fo _ (by (rcases Bool.eq_false_or_eq_true le with hle | hle; (rw [f1 hle, fol_n (fun h => by first | (rw [hle] at c_172; cases c_172) | omega), hfo, if_pos hle]); (rw [f2 hle, fol_n (fun h => by first | (rw [hle] at c_202; cases c_202) | omega), hfo, if_neg (by rw [hle]; decide)]; omega))) (lv_sub hl [0, 1, 2, 3, 4, 5, 6, 7, 8, 9, 10] rfl)
              · skip
                refine lv_iload_n hx hb dM_bound_201 rfl (lv_at hl 10 rfl) ?_
                refine xb_if_ne (tgt := 222) hx hb dM_bound_202 (by decide) (fun c_202 => ?_) (fun c_202 => ?_)
                · skip
                  refine lv_lload hx hb dM_bound_222 (lv_at hl 3 rfl) ?_
                  exact cut_224_3 fo _ (by (rcases Bool.eq_false_or_eq_true le with hle | hle; (rw [f1 hle, fol_n (fun h => by first | (rw [hle] at c_172; cases c_172) | omega), hfo, if_pos hle]); (rw [f2 hle, fol_n (fun h => by first | (rw [hle] at c_202; cases c_202) | omega), hfo, if_neg (by rw [hle]; decide)]; omega))) (lv_sub hl [0, 1, 2, 3, 4, 5, 6, 7, 8, 9, 10] rfl)
                · skip
                  refine lv_lload hx hb dM_bound_205 (lv_at hl 6 rfl) ?_
                  refine lv_lload hx hb dM_bound_207 (lv_at hl 1 rfl) ?_
                  refine lv_lload hx hb dM_bound_209 (lv_at hl 1 rfl) ?_
                  refine xl_mul (z := hh * hh) hx hb dM_bound_211 rfl ?_
                  refine lv_lload hx hb dM_bound_212 (lv_at hl 2 rfl) ?_
                  refine xl_neg (z := -aa) hx hb dM_bound_214 rfl ?_
                  refine vp_callSl (W.runS (As := [.long (lI (hh * hh)), .long (lI (-aa))]) (rest := [.long (lI a)]) ⟨hx, hb, hml, hown, hts⟩ (m_ceiling l dC dI (hh * hh) (-aa) (by omega) (by omega)) (va_cwS 2 hts (tb_S mlM_158 smM_ceiling iniM coM_ceiling) rfl rfl rfl (by decide +kernel) (by subst hR; exact ⟨Nat.le_of_ble_eq_true rfl, Nat.le_of_ble_eq_true rfl⟩)) ⟨fun a9 U9 g9 mk9 q9 => q9, fun U hU hW => ⟨rfl, trivial⟩⟩ rfl rfl hl.1 rfl (lv_room (Nat.le_of_ble_eq_true rfl)) dM_bound_215 ⟨by subst hR; exact Nat.zero_le _, by subst hR; exact Nat.zero_le _⟩) (fun r_215 hw_215 => ?_)
                  subst hw_215
                  refine xl_add (z := a + ((hh * hh + -aa - 1) / -aa)) hx hb dM_bound_218 rfl ?_
                  refine lv_goto (tgt := 224) hx hb dM_bound_219 (by decide) ?_
                  exact cut_224_3 (a + ((hh * hh + -aa - 1) / -aa)) _ (by (rw [f2 c_202, fol_c (by have := htu1.mp c_191; omega) (by have := htu1.mp c_191; omega), show -q - -a = -hh by omega, show -a - 2 * -q + -b = -aa by omega, show -hh * -hh = hh * hh from Int.neg_mul_neg _ _]; omega)) (lv_sub hl [0, 1, 2, 3, 4, 5, 6, 7, 8, 9, 10] rfl)
          · skip
            refine lv_iload_n hx hb dM_bound_171 rfl (lv_at hl 10 rfl) ?_
            refine xb_if_eq (tgt := 189) hx hb dM_bound_172 (by decide) (fun c_172 => ?_) (fun c_172 => ?_)
            · skip
              refine lv_iload hx hb dM_bound_189 (lv_at hl 0 rfl) ?_
              refine xb_if_eq (tgt := 222) hx hb dM_bound_191 (by decide) (fun c_191 => ?_) (fun c_191 => ?_)
              · exact absurd c_191 (by rw [c_161]; decide)
              · skip
                refine lv_lload hx hb dM_bound_194 (lv_at hl 2 rfl) ?_
                refine lv_lconst (v := lI 0) hx hb dM_bound_196 (by decide +kernel) ?_
                refine xl_ge (tgt := 222) hx hb dM_bound_197 dM_bound_198 (by decide) (by omega) (by omega) (fun c_197 => ?_) (fun c_197 => ?_)
                · skip
                  refine lv_lload hx hb dM_bound_222 (lv_at hl 3 rfl) ?_
                  exact cut_224_3 fo _ (by (rcases Bool.eq_false_or_eq_true le with hle | hle; (rw [f1 hle, fol_n (fun h => by first | (rw [hle] at c_172; cases c_172) | omega), hfo, if_pos hle]); (rw [f2 hle, fol_n (fun h => by first | (rw [hle] at c_202; cases c_202) | omega), hfo, if_neg (by rw [hle]; decide)]; omega))) (lv_sub hl [0, 1, 2, 3, 4, 5, 6, 7, 8, 9, 10] rfl)
                · skip
                  refine lv_iload_n hx hb dM_bound_201 rfl (lv_at hl 10 rfl) ?_
                  refine xb_if_ne (tgt := 222) hx hb dM_bound_202 (by decide) (fun c_202 => ?_) (fun c_202 => ?_)
                  · skip
                    refine lv_lload hx hb dM_bound_222 (lv_at hl 3 rfl) ?_
                    exact cut_224_3 fo _ (by (rcases Bool.eq_false_or_eq_true le with hle | hle; (rw [f1 hle, fol_n (fun h => by first | (rw [hle] at c_172; cases c_172) | omega), hfo, if_pos hle]); (rw [f2 hle, fol_n (fun h => by first | (rw [hle] at c_202; cases c_202) | omega), hfo, if_neg (by rw [hle]; decide)]; omega))) (lv_sub hl [0, 1, 2, 3, 4, 5, 6, 7, 8, 9, 10] rfl)
                  · skip
                    refine lv_lload hx hb dM_bound_205 (lv_at hl 6 rfl) ?_
                    refine lv_lload hx hb dM_bound_207 (lv_at hl 1 rfl) ?_
                    refine lv_lload hx hb dM_bound_209 (lv_at hl 1 rfl) ?_
                    refine xl_mul (z := hh * hh) hx hb dM_bound_211 rfl ?_
                    refine lv_lload hx hb dM_bound_212 (lv_at hl 2 rfl) ?_
                    refine xl_neg (z := -aa) hx hb dM_bound_214 rfl ?_
                    refine vp_callSl (W.runS (As := [.long (lI (hh * hh)), .long (lI (-aa))]) (rest := [.long (lI a)]) ⟨hx, hb, hml, hown, hts⟩ (m_ceiling l dC dI (hh * hh) (-aa) (by omega) (by omega)) (va_cwS 2 hts (tb_S mlM_158 smM_ceiling iniM coM_ceiling) rfl rfl rfl (by decide +kernel) (by subst hR; exact ⟨Nat.le_of_ble_eq_true rfl, Nat.le_of_ble_eq_true rfl⟩)) ⟨fun a9 U9 g9 mk9 q9 => q9, fun U hU hW => ⟨rfl, trivial⟩⟩ rfl rfl hl.1 rfl (lv_room (Nat.le_of_ble_eq_true rfl)) dM_bound_215 ⟨by subst hR; exact Nat.zero_le _, by subst hR; exact Nat.zero_le _⟩) (fun r_215 hw_215 => ?_)
                    subst hw_215
                    refine xl_add (z := a + ((hh * hh + -aa - 1) / -aa)) hx hb dM_bound_218 rfl ?_
                    refine lv_goto (tgt := 224) hx hb dM_bound_219 (by decide) ?_
                    exact cut_224_3 (a + ((hh * hh + -aa - 1) / -aa)) _ (by (rw [f2 c_202, fol_c (by have := htu1.mp c_191; omega) (by have := htu1.mp c_191; omega), show -q - -a = -hh by omega, show -a - 2 * -q + -b = -aa by omega, show -hh * -hh = hh * hh from Int.neg_mul_neg _ _]; omega)) (lv_sub hl [0, 1, 2, 3, 4, 5, 6, 7, 8, 9, 10] rfl)
            · skip
              refine lv_lload hx hb dM_bound_175 (lv_at hl 6 rfl) ?_
              refine lv_lload hx hb dM_bound_177 (lv_at hl 1 rfl) ?_
              refine lv_lload hx hb dM_bound_179 (lv_at hl 1 rfl) ?_
              refine xl_mul (z := hh * hh) hx hb dM_bound_181 rfl ?_
              refine lv_lload hx hb dM_bound_182 (lv_at hl 2 rfl) ?_
              refine vp_callSl (W.runS (As := [.long (lI (hh * hh)), .long (lI aa)]) (rest := [.long (lI a)]) ⟨hx, hb, hml, hown, hts⟩ (m_ceiling l dC dI (hh * hh) aa (by omega) (by omega)) (va_cwS 2 hts (tb_S mlM_158 smM_ceiling iniM coM_ceiling) rfl rfl rfl (by decide +kernel) (by subst hR; exact ⟨Nat.le_of_ble_eq_true rfl, Nat.le_of_ble_eq_true rfl⟩)) ⟨fun a9 U9 g9 mk9 q9 => q9, fun U hU hW => ⟨rfl, trivial⟩⟩ rfl rfl hl.1 rfl (lv_room (Nat.le_of_ble_eq_true rfl)) dM_bound_184 ⟨by subst hR; exact Nat.zero_le _, by subst hR; exact Nat.zero_le _⟩) (fun r_184 hw_184 => ?_)
              subst hw_184
              refine xl_sub (z := a - ((hh * hh + aa - 1) / aa)) hx hb dM_bound_187 rfl ?_
              subst hQ
              exact W.lret (v := (lI (a - ((hh * hh + aa - 1) / aa)))) hx hb hr (fun t9 ht9 hW9 => ⟨_, rfl, (by rw [f1 c_172, fol_c (by have := htu1.mp c_161; omega) (by have := htu1.mp c_161; omega), ← haa, ← hhh]), ht9.trans hH⟩) (by rw [hlo]; intro q9 h9; cases h9) dM_bound_188
      refine lv_lload hx hb dM_bound_98 (lv_at hl 1 rfl) ?_
      refine lv_lconst (v := lI 0) hx hb dM_bound_100 (by decide +kernel) ?_
      refine xl_le (tgt := 129) hx hb dM_bound_101 dM_bound_102 (by decide) (by omega) (by omega) (fun c_101 => ?_) (fun c_101 => ?_)
      · skip
        refine lv_lload hx hb dM_bound_129 (lv_at hl 1 rfl) ?_
        refine lv_lconst (v := lI 0) hx hb dM_bound_131 (by decide +kernel) ?_
        refine xl_ge (tgt := 156) hx hb dM_bound_132 dM_bound_133 (by decide) (by omega) (by omega) (fun c_132 => ?_) (fun c_132 => ?_)
        · skip
          refine xi_iconst hx hb dM_bound_156 ?_
          exact cut_157_2 false _ (dec_f (by omega)) (lv_sub hl [0, 1, 2, 3, 4, 5, 6, 7, 8, 9] rfl)
        · skip
          refine lv_lload hx hb dM_bound_136 (lv_at hl 0 rfl) ?_
          refine lv_lconst (v := lI 0) hx hb dM_bound_138 (by decide +kernel) ?_
          refine xl_le (tgt := 156) hx hb dM_bound_139 dM_bound_140 (by decide) (by omega) (by omega) (fun c_139 => ?_) (fun c_139 => ?_)
          · skip
            refine xi_iconst hx hb dM_bound_156 ?_
            exact cut_157_2 false _ (dec_f (by omega)) (lv_sub hl [0, 1, 2, 3, 4, 5, 6, 7, 8, 9] rfl)
          · skip
            refine lv_lload hx hb dM_bound_143 (lv_at hl 0 rfl) ?_
            refine lv_lload hx hb dM_bound_145 (lv_at hl 1 rfl) ?_
            refine xl_neg (z := -aa) hx hb dM_bound_147 rfl ?_
            refine xl_ge (tgt := 156) hx hb dM_bound_148 dM_bound_149 (by decide) (by omega) (by omega) (fun c_148 => ?_) (fun c_148 => ?_)
            · skip
              refine xi_iconst hx hb dM_bound_156 ?_
              exact cut_157_2 false _ (dec_f (by omega)) (lv_sub hl [0, 1, 2, 3, 4, 5, 6, 7, 8, 9] rfl)
            · skip
              refine xi_iconst hx hb dM_bound_152 ?_
              refine lv_goto (tgt := 157) hx hb dM_bound_153 (by decide) ?_
              exact cut_157_2 true _ (dec_t (by omega)) (lv_sub hl [0, 1, 2, 3, 4, 5, 6, 7, 8, 9] rfl)
      · skip
        refine lv_lload hx hb dM_bound_105 (lv_at hl 0 rfl) ?_
        refine lv_lconst (v := lI 0) hx hb dM_bound_107 (by decide +kernel) ?_
        refine xl_ge (tgt := 125) hx hb dM_bound_108 dM_bound_109 (by decide) (by omega) (by omega) (fun c_108 => ?_) (fun c_108 => ?_)
        · skip
          refine xi_iconst hx hb dM_bound_125 ?_
          refine lv_goto (tgt := 157) hx hb dM_bound_126 (by decide) ?_
          exact cut_157_2 false _ (dec_f (by omega)) (lv_sub hl [0, 1, 2, 3, 4, 5, 6, 7, 8, 9] rfl)
        · skip
          refine lv_lload hx hb dM_bound_112 (lv_at hl 0 rfl) ?_
          refine xl_neg (z := -hh) hx hb dM_bound_114 rfl ?_
          refine lv_lload hx hb dM_bound_115 (lv_at hl 1 rfl) ?_
          refine xl_ge (tgt := 125) hx hb dM_bound_117 dM_bound_118 (by decide) (by omega) (by omega) (fun c_117 => ?_) (fun c_117 => ?_)
          · skip
            refine xi_iconst hx hb dM_bound_125 ?_
            refine lv_goto (tgt := 157) hx hb dM_bound_126 (by decide) ?_
            exact cut_157_2 false _ (dec_f (by omega)) (lv_sub hl [0, 1, 2, 3, 4, 5, 6, 7, 8, 9] rfl)
          · skip
            refine xi_iconst hx hb dM_bound_121 ?_
            refine lv_goto (tgt := 157) hx hb dM_bound_122 (by decide) ?_
            exact cut_157_2 true _ (dec_t (by omega)) (lv_sub hl [0, 1, 2, 3, 4, 5, 6, 7, 8, 9] rfl)
    · skip
      refine lv_lload hx hb dM_bound_74 (lv_at hl 0 rfl) ?_
      subst hQ
      exact W.lret (v := (lI fo)) hx hb hr (fun t9 ht9 hW9 => ⟨_, rfl, (by unfold bnd; rw [c_71, hfo]; rfl), ht9.trans hH⟩) (by rw [hlo]; intro q9 h9; cases h9) dM_bound_76
  refine lv_iload_n hx hb dM_bound_31 rfl (lv_at hl 6 rfl) ?_
  refine xb_if_eq (tgt := 53) hx hb dM_bound_32 (by decide) (fun c_32 => ?_) (fun c_32 => ?_)
  · skip
    refine lv_lload hx hb dM_bound_53 (lv_at hl 2 rfl) ?_
    refine lv_lload hx hb dM_bound_55 (lv_at hl 0 rfl) ?_
    refine xl_le (tgt := 66) hx hb dM_bound_57 dM_bound_58 (by decide) (by omega) (by omega) (fun c_57 => ?_) (fun c_57 => ?_)
    · skip
      refine lv_lload hx hb dM_bound_66 (lv_at hl 0 rfl) ?_
      exact cut_68_1 b _ (by rw [c_32, if_neg (by decide)]; omega) (lv_sub hl [0, 1, 2, 3, 4, 5, 6] rfl)
    · skip
      refine lv_lload hx hb dM_bound_61 (lv_at hl 2 rfl) ?_
      refine lv_goto (tgt := 68) hx hb dM_bound_63 (by decide) ?_
      exact cut_68_1 a _ (by rw [c_32, if_neg (by decide)]; omega) (lv_sub hl [0, 1, 2, 3, 4, 5, 6] rfl)
  · skip
    refine lv_lload hx hb dM_bound_35 (lv_at hl 2 rfl) ?_
    refine lv_lload hx hb dM_bound_37 (lv_at hl 0 rfl) ?_
    refine xl_ge (tgt := 48) hx hb dM_bound_39 dM_bound_40 (by decide) (by omega) (by omega) (fun c_39 => ?_) (fun c_39 => ?_)
    · skip
      refine lv_lload hx hb dM_bound_48 (lv_at hl 0 rfl) ?_
      refine lv_goto (tgt := 68) hx hb dM_bound_50 (by decide) ?_
      exact cut_68_1 b _ (by rw [c_32, if_pos rfl]; omega) (lv_sub hl [0, 1, 2, 3, 4, 5, 6] rfl)
    · skip
      refine lv_lload hx hb dM_bound_43 (lv_at hl 2 rfl) ?_
      refine lv_goto (tgt := 68) hx hb dM_bound_45 (by decide) ?_
      exact cut_68_1 a _ (by rw [c_32, if_pos rfl]; omega) (lv_sub hl [0, 1, 2, 3, 4, 5, 6] rfl)
