/-! the reference: extents; a new one -/
def hbd (w : Int) (px py qx qy rx ry : Int) (cv : Bool) : Int := if w % 2 = 0 then bnd px qx rx cv (decide (w < 2)) else bnd py qy ry cv (decide (w < 2))
/-- b lies further out than v -/
def btr (w b v : Int) : Bool := if w < 2 then decide (b < v) else decide (v < b)
def hlt (w v : Int) : hT := fun px py qx qy rx ry cv => bz (btr w (hbd w px py qx qy rx ry cv) v)
def heq (w v : Int) : hT := fun px py qx qy rx ry cv => bz (decide (hbd w px py qx qy rx ry cv = v))
def bpc (PC : Int → Int) (CV : Int → Bool) (w j : Int) : Int := hbd w (PC (6 * j)) (PC (6 * j + 1)) (PC (6 * j + 2)) (PC (6 * j + 3)) (PC (6 * j + 4)) (PC (6 * j + 5)) (CV j)
theorem bpc_eq (PC : Int → Int) (CV : Int → Bool) {w : Int} (hw : 0 ≤ w ∧ w ≤ 3) (j : Int) : bpc PC CV w j = bnd (PC (6 * j + w % 2)) (PC (6 * j + w % 2 + 2)) (PC (6 * j + w % 2 + 4)) (CV j) (decide (w < 2)) := by
  unfold bpc hbd
  by_cases h : w % 2 = 0
  · rw [if_pos h, h, Int.add_zero]
  · rw [if_neg h, show w % 2 = 1 by omega, show 6 * j + 1 + 2 = 6 * j + 3 by omega, show 6 * j + 1 + 4 = 6 * j + 5 by omega]
theorem isum_0 {f : Int → Int} (n : Nat) (h : ∀ k : Int, 0 ≤ k → k < (n : Int) → f k = 0) : isum f n = 0 := by
  induction n with
  | zero => rfl
  | succ n ih =>
    show isum f n + f (n : Int) = 0
    rw [ih (fun k h1 h2 => h k h1 (by omega)), h (n : Int) (by omega) (by omega)]; rfl
theorem isum_p {f : Int → Int} (hf : ∀ k, 0 ≤ f k) (n : Nat) : 0 ≤ isum f n ∧ ∀ k : Int, 0 ≤ k → k < (n : Int) → f k ≤ isum f n := by
  induction n with
  | zero => exact ⟨Int.le_refl _, fun k h1 h2 => by omega⟩
  | succ n ih =>
    have h1 := hf (n : Int)
    refine ⟨?_, fun k h2 h3 => ?_⟩
    · show 0 ≤ isum f n + f (n : Int); omega
    · show f k ≤ isum f n + f (n : Int)
      by_cases h4 : k = (n : Int)
      · subst h4; omega
      · have := ih.2 k h2 (by omega); omega
theorem fol_bd {a q b : Int} (h1 : -8192 ≤ a ∧ a ≤ 8192) (h2 : -8192 ≤ q ∧ q ≤ 8192) (h3 : -8192 ≤ b ∧ b ≤ 8192) : -8192 ≤ fol a q b ∧ fol a q b ≤ 8192 := by
  unfold fol
  split
  · rename_i h
    have e1 : -(q - a) * (q - a) = -((q - a) * (q - a)) := Int.neg_mul _ _
    have s0 := sq_nn (q - a)
    have k1 : -(q - a) * (q - a) / (a - 2 * q + b) ≤ 0 := Int.ediv_le_of_le_mul (by omega) (by rw [Int.zero_mul]; omega)
    have k2 : (q - a) * (a - 2 * q + b) ≤ -(q - a) * (q - a) := by
      have e2 : (q - a) * (a - 2 * q + b) = -(q - a) * (q - a) + (q - a) * (b - q) := by grind
      have e3 : (q - a) * (b - q) ≤ 0 := Int.mul_nonpos_of_nonpos_of_nonneg (by omega) (by omega)
      omega
    have k3 : (q - a) ≤ -(q - a) * (q - a) / (a - 2 * q + b) := (Int.le_ediv_iff_mul_le (by omega)).mpr k2
    omega
  · omega
theorem bnd_bd {a q b : Int} (cv le : Bool) (h1 : -8192 ≤ a ∧ a ≤ 8191) (h2 : -8192 ≤ q ∧ q ≤ 8191) (h3 : -8192 ≤ b ∧ b ≤ 8191) : -8192 ≤ bnd a q b cv le ∧ bnd a q b cv le ≤ 8192 := by
  have f1 := fol_bd (a := a) (q := q) (b := b) (by omega) (by omega) (by omega)
  have f2 := fol_bd (a := -a) (q := -q) (b := -b) (by omega) (by omega) (by omega)
  unfold bnd
  repeat' split
  all_goals omega
/-- v is the outermost of the first k -/
def outm (PC : Int → Int) (CV : Int → Bool) (w k v : Int) : Prop := (∀ j : Int, 0 ≤ j → j < k → btr w (bpc PC CV w j) v = false) ∧ ∃ j : Int, 0 ≤ j ∧ j < k ∧ bpc PC CV w j = v
theorem outm_1 {PC : Int → Int} {CV : Int → Bool} {w : Int} : outm PC CV w 1 (bpc PC CV w 0) := ⟨fun j h1 h2 => by rw [show j = 0 by omega]; unfold btr; split <;> (rw [decide_eq_false (by omega)]), 0, by omega, by omega, rfl⟩
theorem outm_a {PC : Int → Int} {CV : Int → Bool} {w k v : Int} (h : outm PC CV w k v) (h0 : 0 ≤ k) (hb : btr w (bpc PC CV w k) v = true) : outm PC CV w (k + 1) (bpc PC CV w k) := by
  refine ⟨fun j h1 h2 => ?_, k, h0, by omega, rfl⟩
  by_cases hj : j = k
  · rw [hj]; unfold btr; split <;> (rw [decide_eq_false (by omega)])
  · have h3 := h.1 j h1 (by omega)
    unfold btr at h3 hb ⊢
    split at h3
    · rename_i hw; rw [if_pos hw] at hb ⊢; have := of_decide_eq_false h3; have := of_decide_eq_true hb; rw [decide_eq_false (by omega)]
    · rename_i hw; rw [if_neg hw] at hb ⊢; have := of_decide_eq_false h3; have := of_decide_eq_true hb; rw [decide_eq_false (by omega)]
theorem outm_b {PC : Int → Int} {CV : Int → Bool} {w k v : Int} (h : outm PC CV w k v) (h0 : 0 ≤ k) (hb : btr w (bpc PC CV w k) v = false) : outm PC CV w (k + 1) v := by
  obtain ⟨h1, j, h2, h3, h4⟩ := h
  refine ⟨fun i q1 q2 => ?_, j, h2, by omega, h4⟩
  by_cases hi : i = k
  · rw [hi]; exact hb
  · exact h1 i q1 (by omega)
theorem outm_end {PC : Int → Int} {CV : Int → Bool} {w n v : Int} (h : outm PC CV w n v) (hn : 0 ≤ n) : isum (pcs (hlt w v) PC CV) n.toNat = 0 ∧ 0 < isum (pcs (heq w v) PC CV) n.toNat := by
  obtain ⟨h1, j, h2, h3, h4⟩ := h
  refine ⟨isum_0 _ (fun k q1 q2 => ?_), ?_⟩
  · have := h1 k q1 (by omega)
    unfold pcs hlt; unfold bpc at this; rw [this]; rfl
  · have h5 := (isum_p (f := pcs (heq w v) PC CV) (fun k => (bz_in _).1) n.toNat).2 j h2 (by omega)
    have h6 : pcs (heq w v) PC CV j = 1 := by unfold pcs heq; unfold bpc at h4; rw [h4, decide_eq_true rfl]; rfl
    omega
theorem isum_1 (n : Nat) : isum (fun _ => 1) n = (n : Int) := by
  induction n with
  | zero => rfl
  | succ n ih => show isum (fun _ => 1) n + 1 = ((n + 1 : Nat) : Int); rw [ih]; omega
def h1T : hT := fun _ _ _ _ _ _ _ => 1
theorem emi_nn (X Y : Int → Int) (O : Int → Bool) (a b i : Int) : 0 ≤ emi X Y O a b h1T i := by
  unfold emi h1T
  split
  · split <;> decide
  · decide
theorem cts_p (X Y : Int → Int) (O : Int → Bool) (E : Int → Int) {c : Int} (h : stE E c < E c) : 1 ≤ cts X Y O E h1T c := by
  have key := isum_p (f := fun n => emi X Y O (stE E c) (E c) h1T (stE E c + n)) (fun k => emi_nn _ _ _ _ _ _) (E c - stE E c).toNat
  unfold cts
  generalize stE E c = a at *
  generalize E c = b at *
  have n1 := nx_in (Int.le_refl a) h
  have key2 : ∀ i : Int, a ≤ i → i < b → emi X Y O a b h1T i ≤ isum (fun n => emi X Y O a b h1T (a + n)) (b - a).toNat := fun i q1 q2 => by
    have := key.2 (i - a) (by omega) (by omega)
    rw [show a + (i - a) = i by omega] at this
    exact this
  by_cases h1 : O (nx a b a) = true
  · have h2 : emi X Y O a b h1T (nx a b a) = 1 := by unfold emi h1T; rw [if_pos h1]; split <;> rfl
    have := key2 (nx a b a) n1.1 n1.2
    omega
  · have h2 : emi X Y O a b h1T a = 1 := by unfold emi h1T; rw [if_neg h1]
    have := key2 a (Int.le_refl a) h
    omega
theorem tot_p (X Y : Int → Int) (O : Int → Bool) (E : Int → Int) {nc : Int} (hc : ctOk nc E) (h0 : 0 < nc) : 0 < tot X Y O E h1T nc := by
  unfold tot
  have h1 : (if (0 : Int) ≤ 0 ∧ 0 < nc then cts X Y O E h1T 0 else 0) ≤ isum (fun c => if 0 ≤ c ∧ c < nc then cts X Y O E h1T c else 0) nc.toNat := (isum_p (f := fun c => if 0 ≤ c ∧ c < nc then cts X Y O E h1T c else 0) (fun k => by
    show 0 ≤ (if 0 ≤ k ∧ k < nc then cts X Y O E h1T k else 0)
    split
    · rename_i q; have := cts_p X Y O E (hc k q.1 q.2).2.1; omega
    · omega) nc.toNat).2 0 (by omega) (by omega)
  have h2 := cts_p X Y O E (hc 0 (by omega) h0).2.1
  rw [isum_congr (g := fun c => if 0 ≤ c ∧ c < nc then cts X Y O E h1T c else 0) nc.toNat (fun k q1 q2 => by show _ = (if 0 ≤ k ∧ k < nc then cts X Y O E h1T k else 0); rw [if_pos (by omega)])]
  have h3 : (if (0 : Int) ≤ 0 ∧ 0 < nc then cts X Y O E h1T 0 else 0) = cts X Y O E h1T 0 := if_pos (by omega)
  rw [h3] at h1
  omega

set_option maxHeartbeats 4000000 in
set_option maxRecDepth 100000 in
/-- extent -/
theorem m_extent (l : Launch) (dC : Nat → ClassId) (dI : Nat → Nat → Nat) (ad : Nat → Nat) (cs : Nat → ClassId) (sz : Nat) (ft : Int) (par : Bool) (np nc rs npc hi lo : Int) (X Y : Int → Int) (O : Int → Bool) (E RX RY : Int → Int) (RO : Int → Bool) (PC : Int → Int) (CV : Int → Bool) (w : Int) (h1 : 0 ≤ nc ∧ nc ≤ 64) (h2 : ctOk nc E) (h3 : 0 ≤ clo nc E ∧ clo nc E ≤ 512) (h4 : ∀ k : Int, 0 ≤ k → k < clo nc E → (-8192 ≤ X k ∧ X k ≤ 8191) ∧ (-8192 ≤ Y k ∧ Y k ≤ 8191)) (hw0 : -2147483648 ≤ w ∧ w ≤ 2147483647) : Met l yM_extent wM_extent ({ frames := 3, cells := 0, slots := 0, locals := 70 }) (va_Pc [.ref (ad 0), .int (iI w)] (fun U => U.heap.size = sz ∧ va_P (dC, dI) vwCl (mW ad cs ft par np nc rs npc hi lo X Y O E RX RY RO PC CV) U.heap ∧ va_K (dC, dI) vwCl (mT cs) U ∧ va_D (fun _ => True) (mW ad cs ft par np nc rs npc hi lo X Y O E RX RY RO PC CV))) (va_Qi (fun (r : Int32) (u : Int × Int × Int × Int × Int × (Int → Int) × (Int → Int) × (Int → Bool) × (Int → Int) × (Int → Bool)) => u.1 = fE w nc ∧ (fE w nc = 0 → ∃ v : Int, r = iI v ∧ tot X Y O E (hlt w v) nc = 0 ∧ 0 < tot X Y O E (heq w v) nc ∧ (-8192 ≤ v ∧ v ≤ 8192))) (fun (u : Int × Int × Int × Int × Int × (Int → Int) × (Int → Int) × (Int → Bool) × (Int → Int) × (Int → Bool)) t9 => va_P (dC, dI) vwCl (mW ad cs u.1 par np nc u.2.1 u.2.2.1 u.2.2.2.1 u.2.2.2.2.1 X Y O E u.2.2.2.2.2.1 u.2.2.2.2.2.2.1 u.2.2.2.2.2.2.2.1 u.2.2.2.2.2.2.2.2.1 u.2.2.2.2.2.2.2.2.2) t9.heap ∧ va_K (dC, dI) vwCl (mT cs) t9 ∧ va_D (va_A (mW ad cs ft par np nc rs npc hi lo X Y O E RX RY RO PC CV) sz) (mW ad cs u.1 par np nc u.2.1 u.2.2.1 u.2.2.2.1 u.2.2.2.2.1 X Y O E u.2.2.2.2.2.1 u.2.2.2.2.2.2.1 u.2.2.2.2.2.2.2.1 u.2.2.2.2.2.2.2.2.1 u.2.2.2.2.2.2.2.2.2)) (va_A (mW ad cs ft par np nc rs npc hi lo X Y O E RX RY RO PC CV) sz)) 0 0 (va_A (mW ad cs ft par np nc rs npc hi lo X Y O E RX RY RO PC CV) sz) := by
  refine Met.ofW (cc := cM_extent) (maxL := 8) (ret := (some .int)) (by decide) rfl ?_
  intro p e s m args below meth c s₁ B hml hv
  obtain ⟨hargs, hsz, hP, hK, hD0⟩ := hv
  have hx := B.exec
  have hb := B.bytes
  have hr := B.returns
  have hts := atoms_spec (ws := wM_extent) B.pre
  have hown : s.vm.findClass RM = some m.cls := findClass_of_methodNamed B.named
  have hlocks := B.notSynchronized
  subst hsz
  have hD := hD0.self (sz := s.heap.size)
  generalize hAe : va_A (mW ad cs ft par np nc rs npc hi lo X Y O E RX RY RO PC CV) s.heap.size = A at hD ⊢
  have hA : ∀ q : Nat, s.heap.size ≤ q → A q := fun q h => by rw [← hAe]; exact Or.inr h
  have hS0 : va_S A s.heap s.heap [] := va_S.rf
  refine x_name (fun R Q H locs hR hQ hH hlo => ?_)
  rw [← hH] at hP
  have hS : va_S A s.heap H locs := by rw [hH, hlo]; exact hS0
  refine x_entry hargs (Nat.le_of_ble_eq_true rfl) (fun ls hl => ?_)
  have hl : lv_has ls 8 [(0, .ref (ad 0)), (1, .int (iI w))] := hl
  have hP : va_P (dC, dI) vwCl (mW ad cs ft par np nc rs npc hi lo X Y O E RX RY RO PC CV) H := hP
  refine lv_aload_n hx hb dM_extent_0 rfl (lv_at hl 0 rfl) ?_
  have cut_26_1 : ∀ (fc : Int) (ls : Array Slot), (fc = fE w nc) → lv_has ls 8 [(0, .ref (ad 0)), (1, .int (iI w))] → W p l e R s m args below meth c H locs 0 0 Q (F0 m 26 ls [.int (iI fc), .ref (ad 0)]) := by
    intro fc ls hfc hl
    have b1 : 0 ≤ fc ∧ fc ≤ 2 := by (rw [hfc]; unfold fE; repeat' split) <;> omega
    have hFc := xw_free hD hS hA
    refine va_calli (va_runV (As := [.int (iI fc)]) (rest := []) ⟨hx, hb, hml, hown, hts⟩ (m_refused l dC dI ad cs H.size ft par np nc rs npc hi lo X Y O E RX RY RO PC CV fc (by omega)) (cwV 1 hts (tb_V mlM_60 imM_refused seM_refused iniM coM_refused) rfl rfl rfl (by decide +kernel) (by subst hR; exact ⟨Nat.le_of_ble_eq_true rfl, Nat.le_of_ble_eq_true rfl⟩)) ⟨fun a9 U9 g9 mk9 q9 => by obtain ⟨q0, q1, qP, qK, qD⟩ := q9; exact ⟨q0, q1, qP, va_K.moved (u := U9) (U := U9.calling g9 mk9 a9) (Vm.Alike.refl U9.vm) qK, qD⟩, va_recv hK hP (ci := 3) (q0 := 0) rfl rfl, fun U hU hW => ⟨rfl, by rw [hU], by rw [hU]; exact hP, va_K.moved hW.alike hK, hD.weaken (fun _ _ _ _ => trivial)⟩⟩ rfl rfl hl.1 rfl (lv_room (Nat.le_of_ble_eq_true rfl)) dM_extent_26 ⟨by subst hR; exact Nat.le_of_ble_eq_true rfl, by subst hR; exact Nat.le_of_ble_eq_true rfl⟩) hS (fun q9 _ h9 => hFc q9 h9) hFc (fun r_26 u_26 t9 H1 locs1 ht9 hvm9 hw_26 hB9 hz9 hk9 hS1 => ?_)
    obtain ⟨hP1, hK1, hD1⟩ := hB9
    rw [ht9] at hP1
    have hP : va_P (dC, dI) vwCl (mW ad cs fc par np nc rs npc hi lo X Y O E RX RY RO PC CV) H1 := hP1
    have hD : va_D A (mW ad cs fc par np nc rs npc hi lo X Y O E RX RY RO PC CV) := hD1.weaken (fun _ _ _ h9 => hFc _ h9)
    clear hP1 hD1 hK1 hFc
    have hS := hS1
    clear hS1 hz9 hk9 ht9 hvm9
    revert hP hD hS; generalize H1 = H; generalize locs1 = locs; intro hP hD hS
    obtain ⟨hr_26, hw_26⟩ := hw_26; subst hr_26
    refine xb_if_eq (tgt := 34) hx hb dM_extent_29 (by decide) (fun c_29 => ?_) (fun c_29 => ?_)
    · skip
      have b2 : fE w nc = 0 := by have := of_decide_eq_false c_29; omega
      have b3 : (0 ≤ w ∧ w ≤ 3) ∧ nc ≠ 0 := by (unfold fE at b2; split at b2; omega; split at b2 <;> omega)
      refine lv_aload_n hx hb dM_extent_34 rfl (lv_at hl 0 rfl) ?_
      have hFc := xw_free hD hS hA
      refine va_callv (va_runV (As := []) (rest := []) ⟨hx, hb, hml, hown, hts⟩ (m_makePieces l dC dI ad cs H.size fc par np nc rs npc hi lo X Y O E RX RY RO PC CV h1 h2 h3 h4) (cwV 0 hts (tb_V mlM_139 imM_makePieces seM_makePieces iniM coM_makePieces) rfl rfl rfl (by decide +kernel) (by subst hR; exact ⟨Nat.le_of_ble_eq_true rfl, Nat.le_of_ble_eq_true rfl⟩)) ⟨fun a9 U9 g9 mk9 q9 => by obtain ⟨q0, q1, qP, qK, qD⟩ := q9; exact ⟨q0, q1, qP, va_K.moved (u := U9) (U := U9.calling g9 mk9 a9) (Vm.Alike.refl U9.vm) qK, qD⟩, va_recv hK hP (ci := 3) (q0 := 0) rfl rfl, fun U hU hW => ⟨rfl, by rw [hU], by rw [hU]; exact hP, va_K.moved hW.alike hK, hD.weaken (fun _ _ _ _ => trivial)⟩⟩ rfl rfl hl.1 rfl (lv_room (Nat.le_of_ble_eq_true rfl)) dM_extent_35 ⟨by subst hR; exact Nat.le_of_ble_eq_true rfl, by subst hR; exact Nat.le_of_ble_eq_true rfl⟩) hS (fun q9 _ h9 => hFc q9 h9) hFc (fun u_35 t9 H1 locs1 ht9 hvm9 hw_35 hB9 hz9 hk9 hS1 => ?_)
      obtain ⟨hP1, hK1, hD1⟩ := hB9
      rw [ht9] at hP1
      have hP : va_P (dC, dI) vwCl (mW ad cs fc par np nc u_35.2.2.2.1 u_35.1 hi lo X Y O E u_35.2.2.2.2.1 u_35.2.2.2.2.2.1 u_35.2.2.2.2.2.2 u_35.2.1 u_35.2.2.1) H1 := hP1
      have hD : va_D A (mW ad cs fc par np nc u_35.2.2.2.1 u_35.1 hi lo X Y O E u_35.2.2.2.2.1 u_35.2.2.2.2.2.1 u_35.2.2.2.2.2.2 u_35.2.1 u_35.2.2.1) := hD1.weaken (fun _ _ _ h9 => hFc _ h9)
      clear hP1 hD1 hK1 hFc
      have hS := hS1
      clear hS1 hz9 hk9 ht9 hvm9
      revert hP hD hS; generalize H1 = H; generalize locs1 = locs; intro hP hD hS
      obtain ⟨hnp, hsum, hpok⟩ := hw_35
      have cut_48_2 : ∀ (le : Bool) (ls : Array Slot), (le = decide (w < 2)) → lv_has ls 8 [(0, .ref (ad 0)), (1, .int (iI w))] → W p l e R s m args below meth c H locs 0 0 Q (F0 m 48 ls [.int (iI (bz le))]) := by
        intro le ls hle hl
        refine lv_istore_n (lv' := [(2, .int (iI (bz le))), (0, .ref (ad 0)), (1, .int (iI w))]) hx hb dM_extent_48 rfl hl (by decide) rfl (fun ls hl => ?_)
        refine lv_lconst (v := lI 0) hx hb dM_extent_49 (by decide +kernel) ?_
        refine lv_lstore_n (lv' := [(3, .long (lI 0)), (2, .int (iI (bz le))), (0, .ref (ad 0)), (1, .int (iI w))]) hx hb dM_extent_50 rfl hl (by decide) rfl (fun ls hl => ?_)
        refine xi_iconst hx hb dM_extent_51 ?_
        refine lv_istore (lv' := [(5, .int (iI 0)), (3, .long (lI 0)), (2, .int (iI (bz le))), (0, .ref (ad 0)), (1, .int (iI w))]) hx hb dM_extent_52 hl (by decide) rfl (fun ls hl => ?_)
        have cut_54_3 : ∀ (fu_54 : Nat) (k : Int) (fo : Int) (ls : Array Slot), ((u_35.1 - k).toNat) < fu_54 → (0 ≤ k ∧ k ≤ u_35.1) → (k = 0 ∨ outm u_35.2.1 u_35.2.2.1 w k fo) → (-8192 ≤ fo ∧ fo ≤ 8192) → lv_has ls 8 [(0, .ref (ad 0)), (1, .int (iI w)), (2, .int (iI (bz le))), (3, .long (lI fo)), (5, .int (iI k))] → W p l e R s m args below meth c H locs 0 0 Q (F0 m 54 ls []) := by
          intro fu_54
          induction fu_54 with
          | zero => intro _ _ _ hm; exact absurd hm (Nat.not_lt_zero _)
          | succ fu_54 ih_54 =>
            intro k fo ls hm i1 i2 i3 hl
            refine lv_iload hx hb dM_extent_54 (lv_at hl 4 rfl) ?_
            refine lv_aload_n hx hb dM_extent_56 rfl (lv_at hl 0 rfl) ?_
            refine va_get (D := (dC, dI)) (ci := 3) (v := .int (iI u_35.1)) (C := RM) (T := TM) (N := 17) hx hb hts (fun w9 h9 => List.mem_cons_of_mem _ (inM w9 h9)) hown hK hP 0 rfl rfl 12 (by decide) (hts _ (List.mem_cons_of_mem _ flM_78)) (fun _ h9 => h9) rfl dM_extent_57 ?_
            refine xi_icmp_ge (tgt := 125) hx hb dM_extent_60 (by decide) (by omega) (by omega) (fun c_60 => ?_) (fun c_60 => ?_)
            · skip
              have k9 : k = u_35.1 := by omega
              have n9 : 0 < u_35.1 := by (have q1 := hsum h1T; have q2 := tot_p X Y O E h2 (show 0 < nc by omega); rw [← q1] at q2; have q3 : pcs h1T u_35.2.1 u_35.2.2.1 = fun _ => 1 := rfl; rw [q3, isum_1] at q2; omega)
              have o9 := outm_end (i2.resolve_left (by omega)) i1.1
              rw [k9, hsum, hsum] at o9
              refine lv_lload_n hx hb dM_extent_125 rfl (lv_at hl 3 rfl) ?_
              refine xl_l2i hx hb dM_extent_126 (by omega) ?_
              subst hQ
              exact W.iret (v := (iI fo)) hx hb hr (fun t9 ht9 hW9 => ⟨⟨_, (fc, u_35.2.2.2.1, u_35.1, hi, lo, u_35.2.2.2.2.1, u_35.2.2.2.2.2.1, u_35.2.2.2.2.2.2, u_35.2.1, u_35.2.2.1), rfl, (⟨hfc, fun _ => ⟨fo, rfl, o9.1, o9.2, i3⟩⟩), by rw [ht9]; exact hP, va_K.moved hW9.alike hK, hD⟩, hS.F ht9⟩) hS.2.2 dM_extent_127
            · skip
              have b4 := hpok (6 * k + w % 2) (by omega) (by omega)
              have b5 := hpok (6 * k + w % 2 + 2) (by omega) (by omega)
              have b6 := hpok (6 * k + w % 2 + 4) (by omega) (by omega)
              obtain ⟨bv, hbv⟩ : ∃ z, z = bpc u_35.2.1 u_35.2.2.1 w k := ⟨_, rfl⟩
              have b7 : -8192 ≤ bv ∧ bv ≤ 8192 := by rw [hbv, bpc_eq _ _ b3.1]; exact bnd_bd _ _ b4 b5 b6
              refine lv_aload_n hx hb dM_extent_63 rfl (lv_at hl 0 rfl) ?_
              refine lv_bipush (v := iI 6) hx hb dM_extent_64 (by decide +kernel) ?_
              refine lv_iload hx hb dM_extent_66 (lv_at hl 4 rfl) ?_
              refine xi_mul (z := 6 * k) hx hb dM_extent_68 rfl ?_
              refine lv_iload_n hx hb dM_extent_69 rfl (lv_at hl 1 rfl) ?_
              refine xi_iconst hx hb dM_extent_70 ?_
              refine xi_rem (z := w % 2) hx hb dM_extent_71 (by omega) (by omega) rfl ?_
              refine xi_add (z := (6 * k) + (w % 2)) hx hb dM_extent_72 rfl ?_
              refine lv_aload_n hx hb dM_extent_73 rfl (lv_at hl 0 rfl) ?_
              refine va_get (D := (dC, dI)) (ci := 3) (v := .ref (ad 9)) (C := RM) (T := TM) (N := 17) hx hb hts (fun w9 h9 => List.mem_cons_of_mem _ (inM w9 h9)) hown hK hP 0 rfl rfl 14 (by decide) (hts _ (List.mem_cons_of_mem _ flM_35)) (fun _ h9 => h9) rfl dM_extent_74 ?_
              refine lv_iload hx hb dM_extent_77 (lv_at hl 4 rfl) ?_
              refine xa_zald hx hb hK hP 9 8 rfl rfl (by decide) (by omega) dM_extent_79 ?_
              refine lv_iload_n hx hb dM_extent_80 rfl (lv_at hl 2 rfl) ?_
              refine vp_callSl (W.runV (As := [.int (iI ((6 * k) + (w % 2))), .int (iI (bz (u_35.2.2.1 k))), .int (iI (bz le))]) (rest := []) ⟨hx, hb, hml, hown, hts⟩ (m_bound l dC dI ad cs fc par np nc u_35.2.2.2.1 u_35.1 hi lo X Y O E u_35.2.2.2.2.1 u_35.2.2.2.2.2.1 u_35.2.2.2.2.2.2 u_35.2.1 u_35.2.2.1 (6 * k + w % 2) (u_35.2.1 (6 * k + w % 2)) (u_35.2.1 (6 * k + w % 2 + 2)) (u_35.2.1 (6 * k + w % 2 + 4)) (u_35.2.2.1 k) le rfl rfl rfl b4 b5 b6 (by omega)) (cwV 3 hts (tb_V mlM_162 imM_bound seM_bound iniM coM_bound) rfl rfl rfl (by decide +kernel) (by subst hR; exact ⟨Nat.le_of_ble_eq_true rfl, Nat.le_of_ble_eq_true rfl⟩)) ⟨fun a9 U9 g9 mk9 q9 => by obtain ⟨q0, qP, qK⟩ := q9; exact ⟨q0, qP, va_K.moved (u := U9) (U := U9.calling g9 mk9 a9) (Vm.Alike.refl U9.vm) qK⟩, va_recv hK hP (ci := 3) (q0 := 0) rfl rfl, fun U hU hW => ⟨rfl, by rw [hU]; exact hP, va_K.moved hW.alike hK⟩⟩ rfl rfl hl.1 rfl (lv_room (Nat.le_of_ble_eq_true rfl)) dM_extent_81 ⟨by subst hR; exact Nat.zero_le _, by subst hR; exact Nat.zero_le _⟩) (fun r_81 hw_81 => ?_)
              refine xi_top (y := .long (lI bv)) (by rw [hw_81, hbv, bpc_eq _ _ b3.1, hle]) ?_
              refine lv_lstore (lv' := [(6, .long (lI bv)), (0, .ref (ad 0)), (1, .int (iI w)), (2, .int (iI (bz le))), (3, .long (lI fo)), (5, .int (iI k))]) hx hb dM_extent_84 hl (by decide) rfl (fun ls hl => ?_)
              have cut_118_4 : ∀ (v : Int) (ls : Array Slot), (outm u_35.2.1 u_35.2.2.1 w (k + 1) v) → (-8192 ≤ v ∧ v ≤ 8192) → lv_has ls 8 [(6, .long (lI bv)), (0, .ref (ad 0)), (1, .int (iI w)), (2, .int (iI (bz le))), (3, .long (lI fo)), (5, .int (iI k))] → W p l e R s m args below meth c H locs 0 0 Q (F0 m 118 ls [.long (lI v)]) := by
                intro v ls hv1 hv2 hl
                refine lv_lstore_n (lv' := [(3, .long (lI v)), (6, .long (lI bv)), (0, .ref (ad 0)), (1, .int (iI w)), (2, .int (iI (bz le))), (5, .int (iI k))]) hx hb dM_extent_118 rfl hl (by decide) rfl (fun ls hl => ?_)
                refine xi_iinc (z := k + 1) (lv' := [(5, .int (iI (k + 1))), (3, .long (lI v)), (6, .long (lI bv)), (0, .ref (ad 0)), (1, .int (iI w)), (2, .int (iI (bz le)))]) hx hb dM_extent_119 hl (k := 5) rfl rfl (by decide) rfl (fun ls hl => ?_)
                refine lv_goto (tgt := 54) hx hb dM_extent_122 (by decide) ?_
                exact ih_54 (k + 1) v _ (by omega) (by omega) (Or.inr hv1) (hv2) (lv_sub hl [3, 4, 5, 1, 0] rfl)
              refine lv_iload hx hb dM_extent_86 (lv_at hl 5 rfl) ?_
              refine xi_if_eq (tgt := 112) hx hb dM_extent_88 (by decide) (by omega) (fun c_88 => ?_) (fun c_88 => ?_)
              · skip
                refine lv_lload hx hb dM_extent_112 (lv_at hl 0 rfl) ?_
                refine lv_goto (tgt := 118) hx hb dM_extent_114 (by decide) ?_
                exact cut_118_4 bv _ (by (have e1 := outm_1 (PC := u_35.2.1) (CV := u_35.2.2.1) (w := w); rw [c_88] at hbv ⊢; rw [hbv]; exact e1)) (by omega) (lv_sub hl [0, 1, 2, 3, 4, 5] rfl)
              · skip
                refine lv_iload_n hx hb dM_extent_91 rfl (lv_at hl 3 rfl) ?_
                refine xb_if_eq (tgt := 105) hx hb dM_extent_92 (by decide) (fun c_92 => ?_) (fun c_92 => ?_)
                · skip
                  refine lv_lload hx hb dM_extent_105 (lv_at hl 0 rfl) ?_
                  refine lv_lload_n hx hb dM_extent_107 rfl (lv_at hl 4 rfl) ?_
                  refine xl_le (tgt := 117) hx hb dM_extent_108 dM_extent_109 (by decide) (by omega) (by omega) (fun c_108 => ?_) (fun c_108 => ?_)
                  · skip
                    refine lv_lload_n hx hb dM_extent_117 rfl (lv_at hl 4 rfl) ?_
                    exact cut_118_4 fo _ (outm_b (i2.resolve_left c_88) i1.1 (by unfold btr; rw [← hbv, if_neg (by rw [c_92] at hle; exact of_decide_eq_false hle.symm), decide_eq_false (by omega)])) (by omega) (lv_sub hl [0, 1, 2, 3, 4, 5] rfl)
                  · skip
                    refine lv_lload hx hb dM_extent_112 (lv_at hl 0 rfl) ?_
                    refine lv_goto (tgt := 118) hx hb dM_extent_114 (by decide) ?_
                    exact cut_118_4 bv _ (hbv ▸ outm_a (i2.resolve_left c_88) i1.1 (by unfold btr; rw [← hbv, if_neg (by rw [c_92] at hle; exact of_decide_eq_false hle.symm), decide_eq_true (by omega)])) (by omega) (lv_sub hl [0, 1, 2, 3, 4, 5] rfl)
                · skip
                  refine lv_lload hx hb dM_extent_95 (lv_at hl 0 rfl) ?_
                  refine lv_lload_n hx hb dM_extent_97 rfl (lv_at hl 4 rfl) ?_
                  refine xl_ge (tgt := 117) hx hb dM_extent_98 dM_extent_99 (by decide) (by omega) (by omega) (fun c_98 => ?_) (fun c_98 => ?_)
                  · skip
                    refine lv_lload_n hx hb dM_extent_117 rfl (lv_at hl 4 rfl) ?_
                    exact cut_118_4 fo _ (outm_b (i2.resolve_left c_88) i1.1 (by unfold btr; rw [← hbv, if_pos (by rw [c_92] at hle; exact of_decide_eq_true hle.symm), decide_eq_false (by omega)])) (by omega) (lv_sub hl [0, 1, 2, 3, 4, 5] rfl)
                  · skip
                    refine lv_goto (tgt := 112) hx hb dM_extent_102 (by decide) ?_
                    refine lv_lload hx hb dM_extent_112 (lv_at hl 0 rfl) ?_
                    refine lv_goto (tgt := 118) hx hb dM_extent_114 (by decide) ?_
                    exact cut_118_4 bv _ (hbv ▸ outm_a (i2.resolve_left c_88) i1.1 (by unfold btr; rw [← hbv, if_pos (by rw [c_92] at hle; exact of_decide_eq_true hle.symm), decide_eq_true (by omega)])) (by omega) (lv_sub hl [0, 1, 2, 3, 4, 5] rfl)
        exact cut_54_3 (((u_35.1 - (0 : Int)).toNat) + 1) 0 0 _ (Nat.lt_succ_self _) (by omega) (Or.inl rfl) (by omega) (lv_sub hl [3, 4, 2, 1, 0] rfl)
      refine lv_iload_n hx hb dM_extent_38 rfl (lv_at hl 1 rfl) ?_
      refine xi_iconst hx hb dM_extent_39 ?_
      refine xi_icmp_ge (tgt := 47) hx hb dM_extent_40 (by decide) (by omega) (by omega) (fun c_40 => ?_) (fun c_40 => ?_)
      · skip
        refine xi_iconst hx hb dM_extent_47 ?_
        exact cut_48_2 false _ (dec_f (by omega)) (lv_sub hl [0, 1] rfl)
      · skip
        refine xi_iconst hx hb dM_extent_43 ?_
        refine lv_goto (tgt := 48) hx hb dM_extent_44 (by decide) ?_
        exact cut_48_2 true _ (dec_t (by omega)) (lv_sub hl [0, 1] rfl)
    · skip
      refine xi_iconst hx hb dM_extent_32 ?_
      subst hQ
      exact W.iret (v := (iI 0)) hx hb hr (fun t9 ht9 hW9 => ⟨⟨_, (fc, rs, npc, hi, lo, RX, RY, RO, PC, CV), rfl, (⟨hfc, fun h => absurd h (by have := of_decide_eq_true c_29; omega)⟩), by rw [ht9]; exact hP, va_K.moved hW9.alike hK, hD⟩, hS.F ht9⟩) hS.2.2 dM_extent_33
  refine lv_iload_n hx hb dM_extent_1 rfl (lv_at hl 1 rfl) ?_
  refine xi_if_lt (tgt := 10) hx hb dM_extent_2 (by decide) (by omega) (fun c_2 => ?_) (fun c_2 => ?_)
  · skip
    refine xi_iconst hx hb dM_extent_10 ?_
    refine lv_goto (tgt := 26) hx hb dM_extent_11 (by decide) ?_
    exact cut_26_1 1 _ (by unfold fE; rw [if_pos (by omega)]) (lv_sub hl [0, 1] rfl)
  · skip
    refine lv_iload_n hx hb dM_extent_5 rfl (lv_at hl 1 rfl) ?_
    refine xi_iconst hx hb dM_extent_6 ?_
    refine xi_icmp_le (tgt := 14) hx hb dM_extent_7 (by decide) (by omega) (by omega) (fun c_7 => ?_) (fun c_7 => ?_)
    · skip
      refine lv_aload_n hx hb dM_extent_14 rfl (lv_at hl 0 rfl) ?_
      refine va_get (D := (dC, dI)) (ci := 3) (v := .int (iI nc)) (C := RM) (T := TM) (N := 17) hx hb hts (fun w9 h9 => List.mem_cons_of_mem _ (inM w9 h9)) hown hK hP 0 rfl rfl 6 (by decide) (hts _ (List.mem_cons_of_mem _ flM_53)) (fun _ h9 => h9) rfl dM_extent_15 ?_
      refine xi_if_ne (tgt := 25) hx hb dM_extent_18 (by decide) (by omega) (fun c_18 => ?_) (fun c_18 => ?_)
      · skip
        refine xi_iconst hx hb dM_extent_25 ?_
        exact cut_26_1 0 _ (by unfold fE; rw [if_neg (by omega), if_neg c_18]) (lv_sub hl [0, 1] rfl)
      · skip
        refine xi_iconst hx hb dM_extent_21 ?_
        refine lv_goto (tgt := 26) hx hb dM_extent_22 (by decide) ?_
        exact cut_26_1 2 _ (by unfold fE; rw [if_neg (by omega), if_pos c_18]) (lv_sub hl [0, 1] rfl)
    · skip
      refine xi_iconst hx hb dM_extent_10 ?_
      refine lv_goto (tgt := 26) hx hb dM_extent_11 (by decide) ?_
      exact cut_26_1 1 _ (by unfold fE; rw [if_pos (by omega)]) (lv_sub hl [0, 1] rfl)
set_option maxHeartbeats 4000000 in
set_option maxRecDepth 100000 in
/-- a new reference -/
theorem m_init (l : Launch) (dC : Nat → ClassId) (dI : Nat → Nat → Nat) (sz : Nat) (h0 : Nat) : Met l yM_init wM_init ({ frames := 1, cells := 9, slots := 8256, locals := 12 }) (va_Pc [.ref h0] (fun U => U.heap.size = sz ∧ va_P (dC, dI) vwCl [(h0, .inr (3, [.int (iI 0), .int (iI (bz false)), .int (iI 0), .null, .null, .null, .int (iI 0), .null, .int (iI 0), .null, .null, .null, .int (iI 0), .null, .null, .long (lI 0), .long (lI 0)]))] U.heap ∧ va_K (dC, dI) vwCl [] U ∧ va_D (fun _ => True) [(h0, .inr (3, [.int (iI 0), .int (iI (bz false)), .int (iI 0), .null, .null, .null, .int (iI 0), .null, .int (iI 0), .null, .null, .null, .int (iI 0), .null, .null, .long (lI 0), .long (lI 0)]))])) (va_Qv (fun (u : (Nat → Nat) × (Nat → ClassId)) => u.1 0 = h0) (fun (u : (Nat → Nat) × (Nat → ClassId)) t9 => va_P (dC, dI) vwCl (mW u.1 u.2 0 false 0 0 0 0 0 0 (fun _ => 0) (fun _ => 0) (fun _ => false) (fun _ => 0) (fun _ => 0) (fun _ => 0) (fun _ => false) (fun _ => 0) (fun _ => false)) t9.heap ∧ va_K (dC, dI) vwCl (mT u.2) t9 ∧ va_D (va_A [(h0, .inr (3, [.int (iI 0), .int (iI (bz false)), .int (iI 0), .null, .null, .null, .int (iI 0), .null, .int (iI 0), .null, .null, .null, .int (iI 0), .null, .null, .long (lI 0), .long (lI 0)]))] sz) (mW u.1 u.2 0 false 0 0 0 0 0 0 (fun _ => 0) (fun _ => 0) (fun _ => false) (fun _ => 0) (fun _ => 0) (fun _ => 0) (fun _ => false) (fun _ => 0) (fun _ => false))) (va_A [(h0, .inr (3, [.int (iI 0), .int (iI (bz false)), .int (iI 0), .null, .null, .null, .int (iI 0), .null, .int (iI 0), .null, .null, .null, .int (iI 0), .null, .null, .long (lI 0), .long (lI 0)]))] sz)) 9 8256 (va_A [(h0, .inr (3, [.int (iI 0), .int (iI (bz false)), .int (iI 0), .null, .null, .null, .int (iI 0), .null, .int (iI 0), .null, .null, .null, .int (iI 0), .null, .null, .long (lI 0), .long (lI 0)]))] sz) := by
  refine Met.ofW (cc := cM_init) (maxL := 1) (ret := none) (by decide) rfl ?_
  intro p e s m args below meth c s₁ B hml hv
  obtain ⟨hargs, hsz, hP, hK, hD0⟩ := hv
  have hx := B.exec
  have hb := B.bytes
  have hr := B.returns
  have hts := atoms_spec (ws := wM_init) B.pre
  have hown : s.vm.findClass RM = some m.cls := findClass_of_methodNamed B.named
  have hlocks := B.notSynchronized
  have hin : meth.name = "<init>" := (name_of_methodNamed B.named B.method).1
  subst hsz
  have hD := hD0.self (sz := s.heap.size)
  generalize hAe : va_A [(h0, .inr (3, [.int (iI 0), .int (iI (bz false)), .int (iI 0), .null, .null, .null, .int (iI 0), .null, .int (iI 0), .null, .null, .null, .int (iI 0), .null, .null, .long (lI 0), .long (lI 0)]))] s.heap.size = A at hD ⊢
  have hA : ∀ q : Nat, s.heap.size ≤ q → A q := fun q h => by rw [← hAe]; exact Or.inr h
  have hS0 : va_S A s.heap s.heap [] := va_S.rf
  refine x_name (fun R Q H locs hR hQ hH hlo => ?_)
  rw [← hH] at hP
  have hS : va_S A s.heap H locs := by rw [hH, hlo]; exact hS0
  refine x_entry hargs (Nat.le_of_ble_eq_true rfl) (fun ls hl => ?_)
  have hl : lv_has ls 1 [(0, .ref h0)] := hl
  have hP : va_P (dC, dI) vwCl [(h0, .inr (3, [.int (iI 0), .int (iI (bz false)), .int (iI 0), .null, .null, .null, .int (iI 0), .null, .int (iI 0), .null, .null, .null, .int (iI 0), .null, .null, .long (lI 0), .long (lI 0)]))] H := hP
  refine lv_aload_n hx hb dM_init_0 rfl (lv_at hl 0 rfl) ?_
  refine W.objInit hx hb hown (hts _ (List.mem_cons_of_mem _ mlM_1)) (hts _ (List.mem_cons_of_mem _ imO)) (hts _ (List.mem_cons_of_mem _ coO)) rfl (by rw [hml]; exact hl.1) rfl dM_init_1 (by subst hR; exact Nat.le_of_ble_eq_true rfl) (by subst hR; exact Nat.le_of_ble_eq_true rfl) ?_
  refine W.eq (g2 := F0 m 4 ls []) rfl ?_
  refine lv_aload_n hx hb dM_init_4 rfl (lv_at hl 0 rfl) ?_
  refine lv_sipush (v := iI 512) hx hb dM_init_5 (by decide +kernel) ?_
  refine va_newa (atype := .int) (ty := .int) (a0 := (512, .inl (aI (fun _ => 0)))) (N' := 512) hx hb (hts _ (List.mem_cons_of_mem _ ac_int)) rfl hK hP hD hS hA (fun cA => rfl) (by decide +kernel) (by decide +kernel) (by decide) (by subst hR; exact Nat.le_of_ble_eq_true rfl) (by subst hR; exact Nat.le_of_ble_eq_true rfl) dM_init_8 (fun q_8 cA_8 H hK hP hD hS => ?_)
  have hP : va_P (dC, dI) vwCl [(h0, .inr (3, [.int (iI 0), .int (iI (bz false)), .int (iI 0), .null, .null, .null, .int (iI 0), .null, .int (iI 0), .null, .null, .null, .int (iI 0), .null, .null, .long (lI 0), .long (lI 0)])), (q_8, .inl (cA_8, 512, .inl (aI (fun _ => 0))))] H := hP
  have hD : va_D A [(h0, .inr (3, [.int (iI 0), .int (iI (bz false)), .int (iI 0), .null, .null, .null, .int (iI 0), .null, .int (iI 0), .null, .null, .null, .int (iI 0), .null, .null, .long (lI 0), .long (lI 0)])), (q_8, .inl (cA_8, 512, .inl (aI (fun _ => 0))))] := hD
  have hK : va_K (dC, dI) vwCl [(cA_8, .int)] s := hK
  refine va_putF (D := (dC, dI)) (ci := 3) (v := .ref q_8) (ty := .array .int) (C := RM) (T := TM) (N := 17) hx hb hts (fun w9 h9 => List.mem_cons_of_mem _ (inM w9 h9)) tyM tyM_ok nmM hown hK hP hD hS 0 rfl rfl 3 (by decide) (hts _ (List.mem_cons_of_mem _ flM_7)) (fun _ h9 => h9) rfl hin rfl (by decide +kernel) rfl rfl (Nat.le_of_ble_eq_true rfl) dM_init_10 (fun H locs hP hD hS => ?_)
  have hP : va_P (dC, dI) vwCl [(h0, .inr (3, [.int (iI 0), .int (iI (bz false)), .int (iI 0), .ref q_8, .null, .null, .int (iI 0), .null, .int (iI 0), .null, .null, .null, .int (iI 0), .null, .null, .long (lI 0), .long (lI 0)])), (q_8, .inl (cA_8, 512, .inl (aI (fun _ => 0))))] H := hP
  have hD : va_D A [(h0, .inr (3, [.int (iI 0), .int (iI (bz false)), .int (iI 0), .ref q_8, .null, .null, .int (iI 0), .null, .int (iI 0), .null, .null, .null, .int (iI 0), .null, .null, .long (lI 0), .long (lI 0)])), (q_8, .inl (cA_8, 512, .inl (aI (fun _ => 0))))] := hD
  refine lv_aload_n hx hb dM_init_13 rfl (lv_at hl 0 rfl) ?_
  refine lv_sipush (v := iI 512) hx hb dM_init_14 (by decide +kernel) ?_
  refine va_newa (atype := .int) (ty := .int) (a0 := (512, .inl (aI (fun _ => 0)))) (N' := 512) hx hb (hts _ (List.mem_cons_of_mem _ ac_int)) rfl hK hP hD hS hA (fun cA => rfl) (by decide +kernel) (by decide +kernel) (by decide) (by subst hR; exact Nat.le_of_ble_eq_true rfl) (by subst hR; exact Nat.le_of_ble_eq_true rfl) dM_init_17 (fun q_17 cA_17 H hK hP hD hS => ?_)
  have hP : va_P (dC, dI) vwCl [(h0, .inr (3, [.int (iI 0), .int (iI (bz false)), .int (iI 0), .ref q_8, .null, .null, .int (iI 0), .null, .int (iI 0), .null, .null, .null, .int (iI 0), .null, .null, .long (lI 0), .long (lI 0)])), (q_8, .inl (cA_8, 512, .inl (aI (fun _ => 0)))), (q_17, .inl (cA_17, 512, .inl (aI (fun _ => 0))))] H := hP
  have hD : va_D A [(h0, .inr (3, [.int (iI 0), .int (iI (bz false)), .int (iI 0), .ref q_8, .null, .null, .int (iI 0), .null, .int (iI 0), .null, .null, .null, .int (iI 0), .null, .null, .long (lI 0), .long (lI 0)])), (q_8, .inl (cA_8, 512, .inl (aI (fun _ => 0)))), (q_17, .inl (cA_17, 512, .inl (aI (fun _ => 0))))] := hD
  have hK : va_K (dC, dI) vwCl [(cA_8, .int), (cA_17, .int)] s := hK
  refine va_putF (D := (dC, dI)) (ci := 3) (v := .ref q_17) (ty := .array .int) (C := RM) (T := TM) (N := 17) hx hb hts (fun w9 h9 => List.mem_cons_of_mem _ (inM w9 h9)) tyM tyM_ok nmM hown hK hP hD hS 0 rfl rfl 4 (by decide) (hts _ (List.mem_cons_of_mem _ flM_13)) (fun _ h9 => h9) rfl hin rfl (by decide +kernel) rfl rfl (Nat.le_of_ble_eq_true rfl) dM_init_19 (fun H locs hP hD hS => ?_)
  have hP : va_P (dC, dI) vwCl [(h0, .inr (3, [.int (iI 0), .int (iI (bz false)), .int (iI 0), .ref q_8, .ref q_17, .null, .int (iI 0), .null, .int (iI 0), .null, .null, .null, .int (iI 0), .null, .null, .long (lI 0), .long (lI 0)])), (q_8, .inl (cA_8, 512, .inl (aI (fun _ => 0)))), (q_17, .inl (cA_17, 512, .inl (aI (fun _ => 0))))] H := hP
  have hD : va_D A [(h0, .inr (3, [.int (iI 0), .int (iI (bz false)), .int (iI 0), .ref q_8, .ref q_17, .null, .int (iI 0), .null, .int (iI 0), .null, .null, .null, .int (iI 0), .null, .null, .long (lI 0), .long (lI 0)])), (q_8, .inl (cA_8, 512, .inl (aI (fun _ => 0)))), (q_17, .inl (cA_17, 512, .inl (aI (fun _ => 0))))] := hD
  refine lv_aload_n hx hb dM_init_22 rfl (lv_at hl 0 rfl) ?_
  refine lv_sipush (v := iI 512) hx hb dM_init_23 (by decide +kernel) ?_
  refine va_newa (atype := .boolean) (ty := .boolean) (a0 := (512, .inl (aB (fun _ => false)))) (N' := 512) hx hb (hts _ (List.mem_cons_of_mem _ ac_boolean)) rfl hK hP hD hS hA (fun cA => rfl) (by decide +kernel) (by decide +kernel) (by decide) (by subst hR; exact Nat.le_of_ble_eq_true rfl) (by subst hR; exact Nat.le_of_ble_eq_true rfl) dM_init_26 (fun q_26 cA_26 H hK hP hD hS => ?_)
  have hP : va_P (dC, dI) vwCl [(h0, .inr (3, [.int (iI 0), .int (iI (bz false)), .int (iI 0), .ref q_8, .ref q_17, .null, .int (iI 0), .null, .int (iI 0), .null, .null, .null, .int (iI 0), .null, .null, .long (lI 0), .long (lI 0)])), (q_8, .inl (cA_8, 512, .inl (aI (fun _ => 0)))), (q_17, .inl (cA_17, 512, .inl (aI (fun _ => 0)))), (q_26, .inl (cA_26, 512, .inl (aB (fun _ => false))))] H := hP
  have hD : va_D A [(h0, .inr (3, [.int (iI 0), .int (iI (bz false)), .int (iI 0), .ref q_8, .ref q_17, .null, .int (iI 0), .null, .int (iI 0), .null, .null, .null, .int (iI 0), .null, .null, .long (lI 0), .long (lI 0)])), (q_8, .inl (cA_8, 512, .inl (aI (fun _ => 0)))), (q_17, .inl (cA_17, 512, .inl (aI (fun _ => 0)))), (q_26, .inl (cA_26, 512, .inl (aB (fun _ => false))))] := hD
  have hK : va_K (dC, dI) vwCl [(cA_8, .int), (cA_17, .int), (cA_26, .boolean)] s := hK
  refine va_putF (D := (dC, dI)) (ci := 3) (v := .ref q_26) (ty := .array .boolean) (C := RM) (T := TM) (N := 17) hx hb hts (fun w9 h9 => List.mem_cons_of_mem _ (inM w9 h9)) tyM tyM_ok nmM hown hK hP hD hS 0 rfl rfl 5 (by decide) (hts _ (List.mem_cons_of_mem _ flM_16)) (fun _ h9 => h9) rfl hin rfl (by decide +kernel) rfl rfl (Nat.le_of_ble_eq_true rfl) dM_init_28 (fun H locs hP hD hS => ?_)
  have hP : va_P (dC, dI) vwCl [(h0, .inr (3, [.int (iI 0), .int (iI (bz false)), .int (iI 0), .ref q_8, .ref q_17, .ref q_26, .int (iI 0), .null, .int (iI 0), .null, .null, .null, .int (iI 0), .null, .null, .long (lI 0), .long (lI 0)])), (q_8, .inl (cA_8, 512, .inl (aI (fun _ => 0)))), (q_17, .inl (cA_17, 512, .inl (aI (fun _ => 0)))), (q_26, .inl (cA_26, 512, .inl (aB (fun _ => false))))] H := hP
  have hD : va_D A [(h0, .inr (3, [.int (iI 0), .int (iI (bz false)), .int (iI 0), .ref q_8, .ref q_17, .ref q_26, .int (iI 0), .null, .int (iI 0), .null, .null, .null, .int (iI 0), .null, .null, .long (lI 0), .long (lI 0)])), (q_8, .inl (cA_8, 512, .inl (aI (fun _ => 0)))), (q_17, .inl (cA_17, 512, .inl (aI (fun _ => 0)))), (q_26, .inl (cA_26, 512, .inl (aB (fun _ => false))))] := hD
  refine lv_aload_n hx hb dM_init_31 rfl (lv_at hl 0 rfl) ?_
  refine lv_bipush (v := iI 64) hx hb dM_init_32 (by decide +kernel) ?_
  refine va_newa (atype := .int) (ty := .int) (a0 := (64, .inl (aI (fun _ => 0)))) (N' := 64) hx hb (hts _ (List.mem_cons_of_mem _ ac_int)) rfl hK hP hD hS hA (fun cA => rfl) (by decide +kernel) (by decide +kernel) (by decide) (by subst hR; exact Nat.le_of_ble_eq_true rfl) (by subst hR; exact Nat.le_of_ble_eq_true rfl) dM_init_34 (fun q_34 cA_34 H hK hP hD hS => ?_)
  have hP : va_P (dC, dI) vwCl [(h0, .inr (3, [.int (iI 0), .int (iI (bz false)), .int (iI 0), .ref q_8, .ref q_17, .ref q_26, .int (iI 0), .null, .int (iI 0), .null, .null, .null, .int (iI 0), .null, .null, .long (lI 0), .long (lI 0)])), (q_8, .inl (cA_8, 512, .inl (aI (fun _ => 0)))), (q_17, .inl (cA_17, 512, .inl (aI (fun _ => 0)))), (q_26, .inl (cA_26, 512, .inl (aB (fun _ => false)))), (q_34, .inl (cA_34, 64, .inl (aI (fun _ => 0))))] H := hP
  have hD : va_D A [(h0, .inr (3, [.int (iI 0), .int (iI (bz false)), .int (iI 0), .ref q_8, .ref q_17, .ref q_26, .int (iI 0), .null, .int (iI 0), .null, .null, .null, .int (iI 0), .null, .null, .long (lI 0), .long (lI 0)])), (q_8, .inl (cA_8, 512, .inl (aI (fun _ => 0)))), (q_17, .inl (cA_17, 512, .inl (aI (fun _ => 0)))), (q_26, .inl (cA_26, 512, .inl (aB (fun _ => false)))), (q_34, .inl (cA_34, 64, .inl (aI (fun _ => 0))))] := hD
  have hK : va_K (dC, dI) vwCl [(cA_8, .int), (cA_17, .int), (cA_26, .boolean), (cA_34, .int)] s := hK
  refine va_putF (D := (dC, dI)) (ci := 3) (v := .ref q_34) (ty := .array .int) (C := RM) (T := TM) (N := 17) hx hb hts (fun w9 h9 => List.mem_cons_of_mem _ (inM w9 h9)) tyM tyM_ok nmM hown hK hP hD hS 0 rfl rfl 7 (by decide) (hts _ (List.mem_cons_of_mem _ flM_20)) (fun _ h9 => h9) rfl hin rfl (by decide +kernel) rfl rfl (Nat.le_of_ble_eq_true rfl) dM_init_36 (fun H locs hP hD hS => ?_)
  have hP : va_P (dC, dI) vwCl [(h0, .inr (3, [.int (iI 0), .int (iI (bz false)), .int (iI 0), .ref q_8, .ref q_17, .ref q_26, .int (iI 0), .ref q_34, .int (iI 0), .null, .null, .null, .int (iI 0), .null, .null, .long (lI 0), .long (lI 0)])), (q_8, .inl (cA_8, 512, .inl (aI (fun _ => 0)))), (q_17, .inl (cA_17, 512, .inl (aI (fun _ => 0)))), (q_26, .inl (cA_26, 512, .inl (aB (fun _ => false)))), (q_34, .inl (cA_34, 64, .inl (aI (fun _ => 0))))] H := hP
  have hD : va_D A [(h0, .inr (3, [.int (iI 0), .int (iI (bz false)), .int (iI 0), .ref q_8, .ref q_17, .ref q_26, .int (iI 0), .ref q_34, .int (iI 0), .null, .null, .null, .int (iI 0), .null, .null, .long (lI 0), .long (lI 0)])), (q_8, .inl (cA_8, 512, .inl (aI (fun _ => 0)))), (q_17, .inl (cA_17, 512, .inl (aI (fun _ => 0)))), (q_26, .inl (cA_26, 512, .inl (aB (fun _ => false)))), (q_34, .inl (cA_34, 64, .inl (aI (fun _ => 0))))] := hD
  refine lv_aload_n hx hb dM_init_39 rfl (lv_at hl 0 rfl) ?_
  refine lv_sipush (v := iI 1024) hx hb dM_init_40 (by decide +kernel) ?_
  refine va_newa (atype := .int) (ty := .int) (a0 := (1024, .inl (aI (fun _ => 0)))) (N' := 1024) hx hb (hts _ (List.mem_cons_of_mem _ ac_int)) rfl hK hP hD hS hA (fun cA => rfl) (by decide +kernel) (by decide +kernel) (by decide) (by subst hR; exact Nat.le_of_ble_eq_true rfl) (by subst hR; exact Nat.le_of_ble_eq_true rfl) dM_init_43 (fun q_43 cA_43 H hK hP hD hS => ?_)
  have hP : va_P (dC, dI) vwCl [(h0, .inr (3, [.int (iI 0), .int (iI (bz false)), .int (iI 0), .ref q_8, .ref q_17, .ref q_26, .int (iI 0), .ref q_34, .int (iI 0), .null, .null, .null, .int (iI 0), .null, .null, .long (lI 0), .long (lI 0)])), (q_8, .inl (cA_8, 512, .inl (aI (fun _ => 0)))), (q_17, .inl (cA_17, 512, .inl (aI (fun _ => 0)))), (q_26, .inl (cA_26, 512, .inl (aB (fun _ => false)))), (q_34, .inl (cA_34, 64, .inl (aI (fun _ => 0)))), (q_43, .inl (cA_43, 1024, .inl (aI (fun _ => 0))))] H := hP
  have hD : va_D A [(h0, .inr (3, [.int (iI 0), .int (iI (bz false)), .int (iI 0), .ref q_8, .ref q_17, .ref q_26, .int (iI 0), .ref q_34, .int (iI 0), .null, .null, .null, .int (iI 0), .null, .null, .long (lI 0), .long (lI 0)])), (q_8, .inl (cA_8, 512, .inl (aI (fun _ => 0)))), (q_17, .inl (cA_17, 512, .inl (aI (fun _ => 0)))), (q_26, .inl (cA_26, 512, .inl (aB (fun _ => false)))), (q_34, .inl (cA_34, 64, .inl (aI (fun _ => 0)))), (q_43, .inl (cA_43, 1024, .inl (aI (fun _ => 0))))] := hD
  have hK : va_K (dC, dI) vwCl [(cA_8, .int), (cA_17, .int), (cA_26, .boolean), (cA_34, .int), (cA_43, .int)] s := hK
  refine va_putF (D := (dC, dI)) (ci := 3) (v := .ref q_43) (ty := .array .int) (C := RM) (T := TM) (N := 17) hx hb hts (fun w9 h9 => List.mem_cons_of_mem _ (inM w9 h9)) tyM tyM_ok nmM hown hK hP hD hS 0 rfl rfl 9 (by decide) (hts _ (List.mem_cons_of_mem _ flM_23)) (fun _ h9 => h9) rfl hin rfl (by decide +kernel) rfl rfl (Nat.le_of_ble_eq_true rfl) dM_init_45 (fun H locs hP hD hS => ?_)
  have hP : va_P (dC, dI) vwCl [(h0, .inr (3, [.int (iI 0), .int (iI (bz false)), .int (iI 0), .ref q_8, .ref q_17, .ref q_26, .int (iI 0), .ref q_34, .int (iI 0), .ref q_43, .null, .null, .int (iI 0), .null, .null, .long (lI 0), .long (lI 0)])), (q_8, .inl (cA_8, 512, .inl (aI (fun _ => 0)))), (q_17, .inl (cA_17, 512, .inl (aI (fun _ => 0)))), (q_26, .inl (cA_26, 512, .inl (aB (fun _ => false)))), (q_34, .inl (cA_34, 64, .inl (aI (fun _ => 0)))), (q_43, .inl (cA_43, 1024, .inl (aI (fun _ => 0))))] H := hP
  have hD : va_D A [(h0, .inr (3, [.int (iI 0), .int (iI (bz false)), .int (iI 0), .ref q_8, .ref q_17, .ref q_26, .int (iI 0), .ref q_34, .int (iI 0), .ref q_43, .null, .null, .int (iI 0), .null, .null, .long (lI 0), .long (lI 0)])), (q_8, .inl (cA_8, 512, .inl (aI (fun _ => 0)))), (q_17, .inl (cA_17, 512, .inl (aI (fun _ => 0)))), (q_26, .inl (cA_26, 512, .inl (aB (fun _ => false)))), (q_34, .inl (cA_34, 64, .inl (aI (fun _ => 0)))), (q_43, .inl (cA_43, 1024, .inl (aI (fun _ => 0))))] := hD
  refine lv_aload_n hx hb dM_init_48 rfl (lv_at hl 0 rfl) ?_
  refine lv_sipush (v := iI 1024) hx hb dM_init_49 (by decide +kernel) ?_
  refine va_newa (atype := .int) (ty := .int) (a0 := (1024, .inl (aI (fun _ => 0)))) (N' := 1024) hx hb (hts _ (List.mem_cons_of_mem _ ac_int)) rfl hK hP hD hS hA (fun cA => rfl) (by decide +kernel) (by decide +kernel) (by decide) (by subst hR; exact Nat.le_of_ble_eq_true rfl) (by subst hR; exact Nat.le_of_ble_eq_true rfl) dM_init_52 (fun q_52 cA_52 H hK hP hD hS => ?_)
  have hP : va_P (dC, dI) vwCl [(h0, .inr (3, [.int (iI 0), .int (iI (bz false)), .int (iI 0), .ref q_8, .ref q_17, .ref q_26, .int (iI 0), .ref q_34, .int (iI 0), .ref q_43, .null, .null, .int (iI 0), .null, .null, .long (lI 0), .long (lI 0)])), (q_8, .inl (cA_8, 512, .inl (aI (fun _ => 0)))), (q_17, .inl (cA_17, 512, .inl (aI (fun _ => 0)))), (q_26, .inl (cA_26, 512, .inl (aB (fun _ => false)))), (q_34, .inl (cA_34, 64, .inl (aI (fun _ => 0)))), (q_43, .inl (cA_43, 1024, .inl (aI (fun _ => 0)))), (q_52, .inl (cA_52, 1024, .inl (aI (fun _ => 0))))] H := hP
  have hD : va_D A [(h0, .inr (3, [.int (iI 0), .int (iI (bz false)), .int (iI 0), .ref q_8, .ref q_17, .ref q_26, .int (iI 0), .ref q_34, .int (iI 0), .ref q_43, .null, .null, .int (iI 0), .null, .null, .long (lI 0), .long (lI 0)])), (q_8, .inl (cA_8, 512, .inl (aI (fun _ => 0)))), (q_17, .inl (cA_17, 512, .inl (aI (fun _ => 0)))), (q_26, .inl (cA_26, 512, .inl (aB (fun _ => false)))), (q_34, .inl (cA_34, 64, .inl (aI (fun _ => 0)))), (q_43, .inl (cA_43, 1024, .inl (aI (fun _ => 0)))), (q_52, .inl (cA_52, 1024, .inl (aI (fun _ => 0))))] := hD
  have hK : va_K (dC, dI) vwCl [(cA_8, .int), (cA_17, .int), (cA_26, .boolean), (cA_34, .int), (cA_43, .int), (cA_52, .int)] s := hK
  refine va_putF (D := (dC, dI)) (ci := 3) (v := .ref q_52) (ty := .array .int) (C := RM) (T := TM) (N := 17) hx hb hts (fun w9 h9 => List.mem_cons_of_mem _ (inM w9 h9)) tyM tyM_ok nmM hown hK hP hD hS 0 rfl rfl 10 (by decide) (hts _ (List.mem_cons_of_mem _ flM_26)) (fun _ h9 => h9) rfl hin rfl (by decide +kernel) rfl rfl (Nat.le_of_ble_eq_true rfl) dM_init_54 (fun H locs hP hD hS => ?_)
  have hP : va_P (dC, dI) vwCl [(h0, .inr (3, [.int (iI 0), .int (iI (bz false)), .int (iI 0), .ref q_8, .ref q_17, .ref q_26, .int (iI 0), .ref q_34, .int (iI 0), .ref q_43, .ref q_52, .null, .int (iI 0), .null, .null, .long (lI 0), .long (lI 0)])), (q_8, .inl (cA_8, 512, .inl (aI (fun _ => 0)))), (q_17, .inl (cA_17, 512, .inl (aI (fun _ => 0)))), (q_26, .inl (cA_26, 512, .inl (aB (fun _ => false)))), (q_34, .inl (cA_34, 64, .inl (aI (fun _ => 0)))), (q_43, .inl (cA_43, 1024, .inl (aI (fun _ => 0)))), (q_52, .inl (cA_52, 1024, .inl (aI (fun _ => 0))))] H := hP
  have hD : va_D A [(h0, .inr (3, [.int (iI 0), .int (iI (bz false)), .int (iI 0), .ref q_8, .ref q_17, .ref q_26, .int (iI 0), .ref q_34, .int (iI 0), .ref q_43, .ref q_52, .null, .int (iI 0), .null, .null, .long (lI 0), .long (lI 0)])), (q_8, .inl (cA_8, 512, .inl (aI (fun _ => 0)))), (q_17, .inl (cA_17, 512, .inl (aI (fun _ => 0)))), (q_26, .inl (cA_26, 512, .inl (aB (fun _ => false)))), (q_34, .inl (cA_34, 64, .inl (aI (fun _ => 0)))), (q_43, .inl (cA_43, 1024, .inl (aI (fun _ => 0)))), (q_52, .inl (cA_52, 1024, .inl (aI (fun _ => 0))))] := hD
  refine lv_aload_n hx hb dM_init_57 rfl (lv_at hl 0 rfl) ?_
  refine lv_sipush (v := iI 1024) hx hb dM_init_58 (by decide +kernel) ?_
  refine va_newa (atype := .boolean) (ty := .boolean) (a0 := (1024, .inl (aB (fun _ => false)))) (N' := 1024) hx hb (hts _ (List.mem_cons_of_mem _ ac_boolean)) rfl hK hP hD hS hA (fun cA => rfl) (by decide +kernel) (by decide +kernel) (by decide) (by subst hR; exact Nat.le_of_ble_eq_true rfl) (by subst hR; exact Nat.le_of_ble_eq_true rfl) dM_init_61 (fun q_61 cA_61 H hK hP hD hS => ?_)
  have hP : va_P (dC, dI) vwCl [(h0, .inr (3, [.int (iI 0), .int (iI (bz false)), .int (iI 0), .ref q_8, .ref q_17, .ref q_26, .int (iI 0), .ref q_34, .int (iI 0), .ref q_43, .ref q_52, .null, .int (iI 0), .null, .null, .long (lI 0), .long (lI 0)])), (q_8, .inl (cA_8, 512, .inl (aI (fun _ => 0)))), (q_17, .inl (cA_17, 512, .inl (aI (fun _ => 0)))), (q_26, .inl (cA_26, 512, .inl (aB (fun _ => false)))), (q_34, .inl (cA_34, 64, .inl (aI (fun _ => 0)))), (q_43, .inl (cA_43, 1024, .inl (aI (fun _ => 0)))), (q_52, .inl (cA_52, 1024, .inl (aI (fun _ => 0)))), (q_61, .inl (cA_61, 1024, .inl (aB (fun _ => false))))] H := hP
  have hD : va_D A [(h0, .inr (3, [.int (iI 0), .int (iI (bz false)), .int (iI 0), .ref q_8, .ref q_17, .ref q_26, .int (iI 0), .ref q_34, .int (iI 0), .ref q_43, .ref q_52, .null, .int (iI 0), .null, .null, .long (lI 0), .long (lI 0)])), (q_8, .inl (cA_8, 512, .inl (aI (fun _ => 0)))), (q_17, .inl (cA_17, 512, .inl (aI (fun _ => 0)))), (q_26, .inl (cA_26, 512, .inl (aB (fun _ => false)))), (q_34, .inl (cA_34, 64, .inl (aI (fun _ => 0)))), (q_43, .inl (cA_43, 1024, .inl (aI (fun _ => 0)))), (q_52, .inl (cA_52, 1024, .inl (aI (fun _ => 0)))), (q_61, .inl (cA_61, 1024, .inl (aB (fun _ => false))))] := hD
  have hK : va_K (dC, dI) vwCl [(cA_8, .int), (cA_17, .int), (cA_26, .boolean), (cA_34, .int), (cA_43, .int), (cA_52, .int), (cA_61, .boolean)] s := hK
  refine va_putF (D := (dC, dI)) (ci := 3) (v := .ref q_61) (ty := .array .boolean) (C := RM) (T := TM) (N := 17) hx hb hts (fun w9 h9 => List.mem_cons_of_mem _ (inM w9 h9)) tyM tyM_ok nmM hown hK hP hD hS 0 rfl rfl 11 (by decide) (hts _ (List.mem_cons_of_mem _ flM_29)) (fun _ h9 => h9) rfl hin rfl (by decide +kernel) rfl rfl (Nat.le_of_ble_eq_true rfl) dM_init_63 (fun H locs hP hD hS => ?_)
  have hP : va_P (dC, dI) vwCl [(h0, .inr (3, [.int (iI 0), .int (iI (bz false)), .int (iI 0), .ref q_8, .ref q_17, .ref q_26, .int (iI 0), .ref q_34, .int (iI 0), .ref q_43, .ref q_52, .ref q_61, .int (iI 0), .null, .null, .long (lI 0), .long (lI 0)])), (q_8, .inl (cA_8, 512, .inl (aI (fun _ => 0)))), (q_17, .inl (cA_17, 512, .inl (aI (fun _ => 0)))), (q_26, .inl (cA_26, 512, .inl (aB (fun _ => false)))), (q_34, .inl (cA_34, 64, .inl (aI (fun _ => 0)))), (q_43, .inl (cA_43, 1024, .inl (aI (fun _ => 0)))), (q_52, .inl (cA_52, 1024, .inl (aI (fun _ => 0)))), (q_61, .inl (cA_61, 1024, .inl (aB (fun _ => false))))] H := hP
  have hD : va_D A [(h0, .inr (3, [.int (iI 0), .int (iI (bz false)), .int (iI 0), .ref q_8, .ref q_17, .ref q_26, .int (iI 0), .ref q_34, .int (iI 0), .ref q_43, .ref q_52, .ref q_61, .int (iI 0), .null, .null, .long (lI 0), .long (lI 0)])), (q_8, .inl (cA_8, 512, .inl (aI (fun _ => 0)))), (q_17, .inl (cA_17, 512, .inl (aI (fun _ => 0)))), (q_26, .inl (cA_26, 512, .inl (aB (fun _ => false)))), (q_34, .inl (cA_34, 64, .inl (aI (fun _ => 0)))), (q_43, .inl (cA_43, 1024, .inl (aI (fun _ => 0)))), (q_52, .inl (cA_52, 1024, .inl (aI (fun _ => 0)))), (q_61, .inl (cA_61, 1024, .inl (aB (fun _ => false))))] := hD
  refine lv_aload_n hx hb dM_init_66 rfl (lv_at hl 0 rfl) ?_
  refine lv_sipush (v := iI 3072) hx hb dM_init_67 (by decide +kernel) ?_
  refine va_newa (atype := .int) (ty := .int) (a0 := (3072, .inl (aI (fun _ => 0)))) (N' := 3072) hx hb (hts _ (List.mem_cons_of_mem _ ac_int)) rfl hK hP hD hS hA (fun cA => rfl) (by decide +kernel) (by decide +kernel) (by decide) (by subst hR; exact Nat.le_of_ble_eq_true rfl) (by subst hR; exact Nat.le_of_ble_eq_true rfl) dM_init_70 (fun q_70 cA_70 H hK hP hD hS => ?_)
  have hP : va_P (dC, dI) vwCl [(h0, .inr (3, [.int (iI 0), .int (iI (bz false)), .int (iI 0), .ref q_8, .ref q_17, .ref q_26, .int (iI 0), .ref q_34, .int (iI 0), .ref q_43, .ref q_52, .ref q_61, .int (iI 0), .null, .null, .long (lI 0), .long (lI 0)])), (q_8, .inl (cA_8, 512, .inl (aI (fun _ => 0)))), (q_17, .inl (cA_17, 512, .inl (aI (fun _ => 0)))), (q_26, .inl (cA_26, 512, .inl (aB (fun _ => false)))), (q_34, .inl (cA_34, 64, .inl (aI (fun _ => 0)))), (q_43, .inl (cA_43, 1024, .inl (aI (fun _ => 0)))), (q_52, .inl (cA_52, 1024, .inl (aI (fun _ => 0)))), (q_61, .inl (cA_61, 1024, .inl (aB (fun _ => false)))), (q_70, .inl (cA_70, 3072, .inl (aI (fun _ => 0))))] H := hP
  have hD : va_D A [(h0, .inr (3, [.int (iI 0), .int (iI (bz false)), .int (iI 0), .ref q_8, .ref q_17, .ref q_26, .int (iI 0), .ref q_34, .int (iI 0), .ref q_43, .ref q_52, .ref q_61, .int (iI 0), .null, .null, .long (lI 0), .long (lI 0)])), (q_8, .inl (cA_8, 512, .inl (aI (fun _ => 0)))), (q_17, .inl (cA_17, 512, .inl (aI (fun _ => 0)))), (q_26, .inl (cA_26, 512, .inl (aB (fun _ => false)))), (q_34, .inl (cA_34, 64, .inl (aI (fun _ => 0)))), (q_43, .inl (cA_43, 1024, .inl (aI (fun _ => 0)))), (q_52, .inl (cA_52, 1024, .inl (aI (fun _ => 0)))), (q_61, .inl (cA_61, 1024, .inl (aB (fun _ => false)))), (q_70, .inl (cA_70, 3072, .inl (aI (fun _ => 0))))] := hD
  have hK : va_K (dC, dI) vwCl [(cA_8, .int), (cA_17, .int), (cA_26, .boolean), (cA_34, .int), (cA_43, .int), (cA_52, .int), (cA_61, .boolean), (cA_70, .int)] s := hK
  refine va_putF (D := (dC, dI)) (ci := 3) (v := .ref q_70) (ty := .array .int) (C := RM) (T := TM) (N := 17) hx hb hts (fun w9 h9 => List.mem_cons_of_mem _ (inM w9 h9)) tyM tyM_ok nmM hown hK hP hD hS 0 rfl rfl 13 (by decide) (hts _ (List.mem_cons_of_mem _ flM_32)) (fun _ h9 => h9) rfl hin rfl (by decide +kernel) rfl rfl (Nat.le_of_ble_eq_true rfl) dM_init_72 (fun H locs hP hD hS => ?_)
  have hP : va_P (dC, dI) vwCl [(h0, .inr (3, [.int (iI 0), .int (iI (bz false)), .int (iI 0), .ref q_8, .ref q_17, .ref q_26, .int (iI 0), .ref q_34, .int (iI 0), .ref q_43, .ref q_52, .ref q_61, .int (iI 0), .ref q_70, .null, .long (lI 0), .long (lI 0)])), (q_8, .inl (cA_8, 512, .inl (aI (fun _ => 0)))), (q_17, .inl (cA_17, 512, .inl (aI (fun _ => 0)))), (q_26, .inl (cA_26, 512, .inl (aB (fun _ => false)))), (q_34, .inl (cA_34, 64, .inl (aI (fun _ => 0)))), (q_43, .inl (cA_43, 1024, .inl (aI (fun _ => 0)))), (q_52, .inl (cA_52, 1024, .inl (aI (fun _ => 0)))), (q_61, .inl (cA_61, 1024, .inl (aB (fun _ => false)))), (q_70, .inl (cA_70, 3072, .inl (aI (fun _ => 0))))] H := hP
  have hD : va_D A [(h0, .inr (3, [.int (iI 0), .int (iI (bz false)), .int (iI 0), .ref q_8, .ref q_17, .ref q_26, .int (iI 0), .ref q_34, .int (iI 0), .ref q_43, .ref q_52, .ref q_61, .int (iI 0), .ref q_70, .null, .long (lI 0), .long (lI 0)])), (q_8, .inl (cA_8, 512, .inl (aI (fun _ => 0)))), (q_17, .inl (cA_17, 512, .inl (aI (fun _ => 0)))), (q_26, .inl (cA_26, 512, .inl (aB (fun _ => false)))), (q_34, .inl (cA_34, 64, .inl (aI (fun _ => 0)))), (q_43, .inl (cA_43, 1024, .inl (aI (fun _ => 0)))), (q_52, .inl (cA_52, 1024, .inl (aI (fun _ => 0)))), (q_61, .inl (cA_61, 1024, .inl (aB (fun _ => false)))), (q_70, .inl (cA_70, 3072, .inl (aI (fun _ => 0))))] := hD
  refine lv_aload_n hx hb dM_init_75 rfl (lv_at hl 0 rfl) ?_
  refine lv_sipush (v := iI 512) hx hb dM_init_76 (by decide +kernel) ?_
  refine va_newa (atype := .boolean) (ty := .boolean) (a0 := (512, .inl (aB (fun _ => false)))) (N' := 512) hx hb (hts _ (List.mem_cons_of_mem _ ac_boolean)) rfl hK hP hD hS hA (fun cA => rfl) (by decide +kernel) (by decide +kernel) (by decide) (by subst hR; exact Nat.le_of_ble_eq_true rfl) (by subst hR; exact Nat.le_of_ble_eq_true rfl) dM_init_79 (fun q_79 cA_79 H hK hP hD hS => ?_)
  have hP : va_P (dC, dI) vwCl [(h0, .inr (3, [.int (iI 0), .int (iI (bz false)), .int (iI 0), .ref q_8, .ref q_17, .ref q_26, .int (iI 0), .ref q_34, .int (iI 0), .ref q_43, .ref q_52, .ref q_61, .int (iI 0), .ref q_70, .null, .long (lI 0), .long (lI 0)])), (q_8, .inl (cA_8, 512, .inl (aI (fun _ => 0)))), (q_17, .inl (cA_17, 512, .inl (aI (fun _ => 0)))), (q_26, .inl (cA_26, 512, .inl (aB (fun _ => false)))), (q_34, .inl (cA_34, 64, .inl (aI (fun _ => 0)))), (q_43, .inl (cA_43, 1024, .inl (aI (fun _ => 0)))), (q_52, .inl (cA_52, 1024, .inl (aI (fun _ => 0)))), (q_61, .inl (cA_61, 1024, .inl (aB (fun _ => false)))), (q_70, .inl (cA_70, 3072, .inl (aI (fun _ => 0)))), (q_79, .inl (cA_79, 512, .inl (aB (fun _ => false))))] H := hP
  have hD : va_D A [(h0, .inr (3, [.int (iI 0), .int (iI (bz false)), .int (iI 0), .ref q_8, .ref q_17, .ref q_26, .int (iI 0), .ref q_34, .int (iI 0), .ref q_43, .ref q_52, .ref q_61, .int (iI 0), .ref q_70, .null, .long (lI 0), .long (lI 0)])), (q_8, .inl (cA_8, 512, .inl (aI (fun _ => 0)))), (q_17, .inl (cA_17, 512, .inl (aI (fun _ => 0)))), (q_26, .inl (cA_26, 512, .inl (aB (fun _ => false)))), (q_34, .inl (cA_34, 64, .inl (aI (fun _ => 0)))), (q_43, .inl (cA_43, 1024, .inl (aI (fun _ => 0)))), (q_52, .inl (cA_52, 1024, .inl (aI (fun _ => 0)))), (q_61, .inl (cA_61, 1024, .inl (aB (fun _ => false)))), (q_70, .inl (cA_70, 3072, .inl (aI (fun _ => 0)))), (q_79, .inl (cA_79, 512, .inl (aB (fun _ => false))))] := hD
  have hK : va_K (dC, dI) vwCl [(cA_8, .int), (cA_17, .int), (cA_26, .boolean), (cA_34, .int), (cA_43, .int), (cA_52, .int), (cA_61, .boolean), (cA_70, .int), (cA_79, .boolean)] s := hK
  refine va_putF (D := (dC, dI)) (ci := 3) (v := .ref q_79) (ty := .array .boolean) (C := RM) (T := TM) (N := 17) hx hb hts (fun w9 h9 => List.mem_cons_of_mem _ (inM w9 h9)) tyM tyM_ok nmM hown hK hP hD hS 0 rfl rfl 14 (by decide) (hts _ (List.mem_cons_of_mem _ flM_35)) (fun _ h9 => h9) rfl hin rfl (by decide +kernel) rfl rfl (Nat.le_of_ble_eq_true rfl) dM_init_81 (fun H locs hP hD hS => ?_)
  have hP : va_P (dC, dI) vwCl [(h0, .inr (3, [.int (iI 0), .int (iI (bz false)), .int (iI 0), .ref q_8, .ref q_17, .ref q_26, .int (iI 0), .ref q_34, .int (iI 0), .ref q_43, .ref q_52, .ref q_61, .int (iI 0), .ref q_70, .ref q_79, .long (lI 0), .long (lI 0)])), (q_8, .inl (cA_8, 512, .inl (aI (fun _ => 0)))), (q_17, .inl (cA_17, 512, .inl (aI (fun _ => 0)))), (q_26, .inl (cA_26, 512, .inl (aB (fun _ => false)))), (q_34, .inl (cA_34, 64, .inl (aI (fun _ => 0)))), (q_43, .inl (cA_43, 1024, .inl (aI (fun _ => 0)))), (q_52, .inl (cA_52, 1024, .inl (aI (fun _ => 0)))), (q_61, .inl (cA_61, 1024, .inl (aB (fun _ => false)))), (q_70, .inl (cA_70, 3072, .inl (aI (fun _ => 0)))), (q_79, .inl (cA_79, 512, .inl (aB (fun _ => false))))] H := hP
  have hD : va_D A [(h0, .inr (3, [.int (iI 0), .int (iI (bz false)), .int (iI 0), .ref q_8, .ref q_17, .ref q_26, .int (iI 0), .ref q_34, .int (iI 0), .ref q_43, .ref q_52, .ref q_61, .int (iI 0), .ref q_70, .ref q_79, .long (lI 0), .long (lI 0)])), (q_8, .inl (cA_8, 512, .inl (aI (fun _ => 0)))), (q_17, .inl (cA_17, 512, .inl (aI (fun _ => 0)))), (q_26, .inl (cA_26, 512, .inl (aB (fun _ => false)))), (q_34, .inl (cA_34, 64, .inl (aI (fun _ => 0)))), (q_43, .inl (cA_43, 1024, .inl (aI (fun _ => 0)))), (q_52, .inl (cA_52, 1024, .inl (aI (fun _ => 0)))), (q_61, .inl (cA_61, 1024, .inl (aB (fun _ => false)))), (q_70, .inl (cA_70, 3072, .inl (aI (fun _ => 0)))), (q_79, .inl (cA_79, 512, .inl (aB (fun _ => false))))] := hD
  subst hQ
  refine W.widen (k := 9) (n := 8256) (by omega) (by omega) ?_
  exact W.vret hx hb hr (fun t9 ht9 hW9 => ⟨⟨((fun i => match i with | 0 => h0 | 1 => q_8 | 2 => q_17 | 3 => q_26 | 4 => q_34 | 5 => q_43 | 6 => q_52 | 7 => q_61 | 8 => q_70 | _ => q_79), (fun i => match i with | 0 => cA_8 | 1 => cA_17 | 2 => cA_26 | 3 => cA_34 | 4 => cA_43 | 5 => cA_52 | 6 => cA_61 | 7 => cA_70 | _ => cA_79)), rfl, rfl, by rw [ht9]; exact hP, va_K.moved hW9.alike hK, hD⟩, hS.F ht9⟩) hS.2.2 dM_init_84
