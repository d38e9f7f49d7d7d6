/-! the reference: points, contours, rings -/
def okc (z : Int) : Prop := -8192 ≤ z ∧ z ≤ 8191
def clo (nc : Int) (E : Int → Int) : Int := if nc = 0 then 0 else E (nc - 1)
def fA (x y np : Int) : Int := if (-8192 ≤ x ∧ x ≤ 8191) ∧ (-8192 ≤ y ∧ y ≤ 8191) then (if np = 512 then 2 else 0) else 1
theorem fA_in (x y np : Int) : 0 ≤ fA x y np ∧ fA x y np ≤ 2 := by unfold fA; repeat' split
                                                                   all_goals omega
def fC (np nc : Int) (E : Int → Int) : Int := if np - clo nc E = 0 ∨ nc = 64 then 1 else 0
theorem fC_in (np nc : Int) (E : Int → Int) : 0 ≤ fC np nc E ∧ fC np nc E ≤ 1 := by unfold fC; split <;> omega
def mvok (X Y : Int → Int) (dx dy : Int) : Nat → Bool | 0 => true | n + 1 => mvok X Y dx dy n && decide ((-8192 ≤ X (n : Int) + dx ∧ X (n : Int) + dx ≤ 8191) ∧ (-8192 ≤ Y (n : Int) + dy ∧ Y (n : Int) + dy ≤ 8191))
theorem mvok_s (X Y : Int → Int) (dx dy : Int) {z : Int} (hz : 0 ≤ z) : mvok X Y dx dy (z + 1).toNat = (mvok X Y dx dy z.toNat && decide ((-8192 ≤ X z + dx ∧ X z + dx ≤ 8191) ∧ (-8192 ≤ Y z + dy ∧ Y z + dy ≤ 8191))) := by
  have h1 : (z + 1).toNat = z.toNat + 1 := by omega
  rw [h1]
  show (mvok X Y dx dy z.toNat && decide ((-8192 ≤ X ((z.toNat : Nat) : Int) + dx ∧ X ((z.toNat : Nat) : Int) + dx ≤ 8191) ∧ (-8192 ≤ Y ((z.toNat : Nat) : Int) + dy ∧ Y ((z.toNat : Nat) : Int) + dy ≤ 8191))) = _
  rw [Int.toNat_of_nonneg hz]
def fM (X Y : Int → Int) (dx dy np : Int) : Int := if mvok X Y dx dy np.toNat = true then 0 else 1
def mvF (X : Int → Int) (dx np : Int) : Int → Int := fun k => if 0 ≤ k ∧ k < np then X k + dx else X k
theorem mvF_0 (X : Int → Int) (dx : Int) : mvF X dx 0 = X := by funext k; unfold mvF; rw [if_neg (by omega)]
theorem mvF_s (X : Int → Int) (dx : Int) {z : Int} (hz : 0 ≤ z) : up (mvF X dx z) z (mvF X dx z z + dx) = mvF X dx (z + 1) := by
  funext k
  unfold up mvF
  by_cases h : k = z
  · subst h; rw [if_pos rfl, if_neg (by omega), if_pos (by omega)]
  · rw [if_neg h]
    by_cases h2 : 0 ≤ k ∧ k < z
    · rw [if_pos h2, if_pos (by omega)]
    · rw [if_neg h2, if_neg (by omega)]
theorem mvF_at (X : Int → Int) (dx z : Int) : mvF X dx z z = X z := by unfold mvF; rw [if_neg (by omega)]
def nx (a b i : Int) : Int := if i + 1 < b then i + 1 else a
def mid (O : Int → Bool) (a b i : Int) : Bool := !O i && !O (nx a b i)
def rp (O : Int → Bool) (a b : Int) : Nat → Int | 0 => 0 | n + 1 => rp O a b n + (if mid O a b (a + (n : Int)) = true then 2 else 1)
def rpos (O : Int → Bool) (a b i : Int) : Int := rp O a b (i - a).toNat
theorem rpos_a (O : Int → Bool) (a b : Int) : rpos O a b a = 0 := by unfold rpos; rw [show a - a = 0 by omega]; rfl
theorem rpos_s (O : Int → Bool) (a b : Int) {i : Int} (h : a ≤ i) : rpos O a b (i + 1) = rpos O a b i + (if mid O a b i = true then 2 else 1) := by
  unfold rpos
  have h1 : (i + 1 - a).toNat = (i - a).toNat + 1 := by omega
  rw [h1]
  show rp O a b (i - a).toNat + (if mid O a b (a + ((i - a).toNat : Int)) = true then 2 else 1) = _
  rw [show a + ((i - a).toNat : Int) = i by omega]
theorem rpos_lt (O : Int → Bool) (a b : Int) {i j : Int} (h : a ≤ i) (hij : i < j) : rpos O a b i + (if mid O a b i = true then 2 else 1) ≤ rpos O a b j := by
  obtain ⟨n, hn⟩ : ∃ n : Nat, j = i + 1 + n := ⟨(j - i - 1).toNat, by omega⟩
  subst hn
  induction n with
  | zero => rw [show i + 1 + ((0 : Nat) : Int) = i + 1 by omega, rpos_s O a b h]; exact Int.le_refl _
  | succ n ih =>
    have h1 := ih (by omega)
    have h2 := rpos_s O a b (i := i + 1 + (n : Int)) (by omega)
    rw [show i + 1 + ((n + 1 : Nat) : Int) = i + 1 + (n : Int) + 1 by omega, h2]
    split <;> split at h1 <;> omega
theorem rpos_bd (O : Int → Bool) (a b : Int) {i : Int} (h : a ≤ i) : i - a ≤ rpos O a b i ∧ rpos O a b i ≤ 2 * (i - a) := by
  obtain ⟨n, hn⟩ : ∃ n : Nat, i = a + n := ⟨(i - a).toNat, by omega⟩
  subst hn
  induction n with
  | zero => rw [show a + ((0 : Nat) : Int) = a by omega, rpos_a]; omega
  | succ n ih =>
    have h1 := ih (by omega)
    have h2 := rpos_s O a b (i := a + (n : Int)) (by omega)
    rw [show a + ((n + 1 : Nat) : Int) = a + (n : Int) + 1 by omega, h2]
    split <;> omega
/-- the ring holds the points from a to i, and those put in between -/
def ringOk (X Y : Int → Int) (O : Int → Bool) (a b : Int) (RX RY : Int → Int) (RO : Int → Bool) (i : Int) : Prop :=
  ∀ j : Int, a ≤ j → j < i → (RX (rpos O a b j) = X j ∧ RY (rpos O a b j) = Y j ∧ RO (rpos O a b j) = O j) ∧ (mid O a b j = true → RX (rpos O a b j + 1) = (X j + X (nx a b j)) / 2 ∧ RY (rpos O a b j + 1) = (Y j + Y (nx a b j)) / 2 ∧ RO (rpos O a b j + 1) = true)
theorem ringOk_1 {X Y : Int → Int} {O : Int → Bool} {a b : Int} {RX RY : Int → Int} {RO : Int → Bool} {i : Int} (hi : a ≤ i) (hm : mid O a b i = false) (h : ringOk X Y O a b RX RY RO i) : ringOk X Y O a b (up RX (rpos O a b i) (X i)) (up RY (rpos O a b i) (Y i)) (up RO (rpos O a b i) (O i)) (i + 1) := by
  intro j h1 h2
  by_cases hj : j = i
  · subst hj
    rw [up_s, up_s, up_s]
    exact ⟨⟨rfl, rfl, rfl⟩, fun q => by rw [hm] at q; cases q⟩
  · obtain ⟨q1, q2⟩ := h j h1 (by omega)
    have l := rpos_lt O a b h1 (show j < i by omega)
    rw [up_n _ _ (by split at l <;> omega), up_n _ _ (by split at l <;> omega), up_n _ _ (by split at l <;> omega)]
    refine ⟨q1, fun q => ?_⟩
    rw [if_pos q] at l
    rw [up_n _ _ (by omega), up_n _ _ (by omega), up_n _ _ (by omega)]
    exact q2 q
theorem ringOk_2 {X Y : Int → Int} {O : Int → Bool} {a b : Int} {RX RY : Int → Int} {RO : Int → Bool} {i : Int} (hi : a ≤ i) (h : ringOk X Y O a b RX RY RO i) : ringOk X Y O a b (up (up RX (rpos O a b i) (X i)) (rpos O a b i + 1) ((X i + X (nx a b i)) / 2)) (up (up RY (rpos O a b i) (Y i)) (rpos O a b i + 1) ((Y i + Y (nx a b i)) / 2)) (up (up RO (rpos O a b i) (O i)) (rpos O a b i + 1) true) (i + 1) := by
  intro j h1 h2
  by_cases hj : j = i
  · subst hj
    have n1 : rpos O a b j ≠ rpos O a b j + 1 := by omega
    exact ⟨⟨by rw [up_n _ _ n1, up_s], by rw [up_n _ _ n1, up_s], by rw [up_n _ _ n1, up_s]⟩, fun _ => ⟨by rw [up_s], by rw [up_s], by rw [up_s]⟩⟩
  · obtain ⟨q1, q2⟩ := h j h1 (by omega)
    have l := rpos_lt O a b h1 (show j < i by omega)
    have l2 : rpos O a b j + 1 ≤ rpos O a b i := by split at l <;> omega
    rw [up_n _ _ (show rpos O a b j ≠ rpos O a b i + 1 by omega), up_n _ _ (show rpos O a b j ≠ rpos O a b i by omega), up_n _ _ (show rpos O a b j ≠ rpos O a b i + 1 by omega), up_n _ _ (show rpos O a b j ≠ rpos O a b i by omega), up_n _ _ (show rpos O a b j ≠ rpos O a b i + 1 by omega), up_n _ _ (show rpos O a b j ≠ rpos O a b i by omega)]
    refine ⟨q1, fun q => ?_⟩
    rw [if_pos q] at l
    rw [up_n _ _ (show rpos O a b j + 1 ≠ rpos O a b i + 1 by omega), up_n _ _ (show rpos O a b j + 1 ≠ rpos O a b i by omega), up_n _ _ (show rpos O a b j + 1 ≠ rpos O a b i + 1 by omega), up_n _ _ (show rpos O a b j + 1 ≠ rpos O a b i by omega), up_n _ _ (show rpos O a b j + 1 ≠ rpos O a b i + 1 by omega), up_n _ _ (show rpos O a b j + 1 ≠ rpos O a b i by omega)]
    exact q2 q
theorem ringOk_0 {X Y : Int → Int} {O : Int → Bool} {a b : Int} {RX RY : Int → Int} {RO : Int → Bool} : ringOk X Y O a b RX RY RO a := fun j h1 h2 => by omega
theorem iI_shr1 {a : Int} (ha : -2147483648 ≤ a ∧ a ≤ 2147483647) : iI a >>> (iI 1 &&& 31) = iI (a / 2) := by
  apply Int32.toInt_inj.mp
  rw [pk_shr _ _ 1 (by decide +kernel), iI_toInt ha, Int.shiftRight_eq_div_pow, iI_toInt (by omega)]
  rfl

set_option maxHeartbeats 4000000 in
set_option maxRecDepth 100000 in
/-- closed -/
theorem m_closed (l : Launch) (dC : Nat → ClassId) (dI : Nat → Nat → Nat) (ad : Nat → Nat) (cs : Nat → ClassId) (ft : Int) (par : Bool) (np nc rs npc hi lo : Int) (X Y : Int → Int) (O : Int → Bool) (E RX RY : Int → Int) (RO : Int → Bool) (PC : Int → Int) (CV : Int → Bool) (h1 : 0 ≤ nc ∧ nc ≤ 64) : Met l yM_closed wM_closed ({ frames := 0, cells := 0, slots := 0, locals := 0 }) (va_Pc [.ref (ad 0)] (fun U => va_P (dC, dI) vwCl (mW ad cs ft par np nc rs npc hi lo X Y O E RX RY RO PC CV) U.heap ∧ va_K (dC, dI) vwCl (mT cs) U)) (vp_Si (fun r => r = iI (clo nc E))) 0 0 (fun _ => False) := by
  refine Met.ofW (cc := cM_closed) (maxL := 1) (ret := (some .int)) (by decide) rfl ?_
  intro p e s m args below meth c s₁ B hml hv
  obtain ⟨hargs, hP, hK⟩ := hv
  have hx := B.exec
  have hb := B.bytes
  have hr := B.returns
  have hts := atoms_spec (ws := wM_closed) B.pre
  have hown : s.vm.findClass RM = some m.cls := findClass_of_methodNamed B.named
  have hlocks := B.notSynchronized
  refine x_name (fun R Q H locs hR hQ hH hlo => ?_)
  rw [← hH] at hP
  refine x_entry hargs (Nat.le_of_ble_eq_true rfl) (fun ls hl => ?_)
  have hl : lv_has ls 1 [(0, .ref (ad 0))] := hl
  have hP : va_P (dC, dI) vwCl (mW ad cs ft par np nc rs npc hi lo X Y O E RX RY RO PC CV) H := hP
  have cut_22_1 : ∀ (v : Int) (ls : Array Slot), (v = clo nc E) → lv_has ls 1 [(0, .ref (ad 0))] → W p l e R s m args below meth c H locs 0 0 Q (F0 m 22 ls [.int (iI v)]) := by
    intro v ls hv hl
    subst hQ
    exact W.iret (v := (iI v)) hx hb hr (fun t9 ht9 hW9 => ⟨_, rfl, (by rw [hv]), ht9.trans hH⟩) (by rw [hlo]; intro q9 h9; cases h9) dM_closed_22
  refine lv_aload_n hx hb dM_closed_0 rfl (lv_at hl 0 rfl) ?_
  refine va_get (D := (dC, dI)) (ci := 3) (v := .int (iI nc)) (C := RM) (T := TM) (N := 17) hx hb hts (fun w9 h9 => List.mem_cons_of_mem _ (inM w9 h9)) hown hK hP 0 rfl rfl 6 (by decide) (hts _ (List.mem_cons_of_mem _ flM_53)) (fun _ h9 => h9) rfl dM_closed_1 ?_
  refine xi_if_ne (tgt := 11) hx hb dM_closed_4 (by decide) (by omega) (fun c_4 => ?_) (fun c_4 => ?_)
  · skip
    refine lv_aload_n hx hb dM_closed_11 rfl (lv_at hl 0 rfl) ?_
    refine va_get (D := (dC, dI)) (ci := 3) (v := .ref (ad 4)) (C := RM) (T := TM) (N := 17) hx hb hts (fun w9 h9 => List.mem_cons_of_mem _ (inM w9 h9)) hown hK hP 0 rfl rfl 7 (by decide) (hts _ (List.mem_cons_of_mem _ flM_20)) (fun _ h9 => h9) rfl dM_closed_12 ?_
    refine lv_aload_n hx hb dM_closed_15 rfl (lv_at hl 0 rfl) ?_
    refine va_get (D := (dC, dI)) (ci := 3) (v := .int (iI nc)) (C := RM) (T := TM) (N := 17) hx hb hts (fun w9 h9 => List.mem_cons_of_mem _ (inM w9 h9)) hown hK hP 0 rfl rfl 6 (by decide) (hts _ (List.mem_cons_of_mem _ flM_53)) (fun _ h9 => h9) rfl dM_closed_16 ?_
    refine xi_iconst hx hb dM_closed_19 ?_
    refine xi_sub (z := nc - 1) hx hb dM_closed_20 rfl ?_
    refine xa_iald hx hb hK hP 4 3 rfl rfl (by decide) (by omega) dM_closed_21 ?_
    exact cut_22_1 (E (nc - 1)) _ (by unfold clo; rw [if_neg c_4]) (lv_sub hl [0] rfl)
  · skip
    refine xi_iconst hx hb dM_closed_7 ?_
    refine lv_goto (tgt := 22) hx hb dM_closed_8 (by decide) ?_
    exact cut_22_1 0 _ (by unfold clo; rw [if_pos c_4]) (lv_sub hl [0] rfl)
set_option maxHeartbeats 4000000 in
set_option maxRecDepth 100000 in
/-- points since -/
theorem m_opened (l : Launch) (dC : Nat → ClassId) (dI : Nat → Nat → Nat) (ad : Nat → Nat) (cs : Nat → ClassId) (ft : Int) (par : Bool) (np nc rs npc hi lo : Int) (X Y : Int → Int) (O : Int → Bool) (E RX RY : Int → Int) (RO : Int → Bool) (PC : Int → Int) (CV : Int → Bool) (h1 : 0 ≤ nc ∧ nc ≤ 64) : Met l yM_open wM_open ({ frames := 1, cells := 0, slots := 0, locals := 20 }) (va_Pc [.ref (ad 0)] (fun U => va_P (dC, dI) vwCl (mW ad cs ft par np nc rs npc hi lo X Y O E RX RY RO PC CV) U.heap ∧ va_K (dC, dI) vwCl (mT cs) U)) (vp_Si (fun r => r = iI (np - clo nc E))) 0 0 (fun _ => False) := by
  refine Met.ofW (cc := cM_open) (maxL := 1) (ret := (some .int)) (by decide) rfl ?_
  intro p e s m args below meth c s₁ B hml hv
  obtain ⟨hargs, hP, hK⟩ := hv
  have hx := B.exec
  have hb := B.bytes
  have hr := B.returns
  have hts := atoms_spec (ws := wM_open) B.pre
  have hown : s.vm.findClass RM = some m.cls := findClass_of_methodNamed B.named
  have hlocks := B.notSynchronized
  refine x_name (fun R Q H locs hR hQ hH hlo => ?_)
  rw [← hH] at hP
  refine x_entry hargs (Nat.le_of_ble_eq_true rfl) (fun ls hl => ?_)
  have hl : lv_has ls 1 [(0, .ref (ad 0))] := hl
  have hP : va_P (dC, dI) vwCl (mW ad cs ft par np nc rs npc hi lo X Y O E RX RY RO PC CV) H := hP
  refine lv_aload_n hx hb dM_open_0 rfl (lv_at hl 0 rfl) ?_
  refine va_get (D := (dC, dI)) (ci := 3) (v := .int (iI np)) (C := RM) (T := TM) (N := 17) hx hb hts (fun w9 h9 => List.mem_cons_of_mem _ (inM w9 h9)) hown hK hP 0 rfl rfl 2 (by decide) (hts _ (List.mem_cons_of_mem _ flM_46)) (fun _ h9 => h9) rfl dM_open_1 ?_
  refine lv_aload_n hx hb dM_open_4 rfl (lv_at hl 0 rfl) ?_
  refine vp_callSi (W.runV (As := []) (rest := [.int (iI np)]) ⟨hx, hb, hml, hown, hts⟩ (m_closed l dC dI ad cs ft par np nc rs npc hi lo X Y O E RX RY RO PC CV h1) (cwV 0 hts (tb_V mlM_49 imM_closed seM_closed iniM coM_closed) rfl rfl rfl (by decide +kernel) (by subst hR; exact ⟨Nat.le_of_ble_eq_true rfl, Nat.le_of_ble_eq_true rfl⟩)) ⟨fun a9 U9 g9 mk9 q9 => by obtain ⟨q0, qP, qK⟩ := q9; exact ⟨q0, qP, va_K.moved (u := U9) (U := U9.calling g9 mk9 a9) (Vm.Alike.refl U9.vm) qK⟩, va_recv hK hP (ci := 3) (q0 := 0) rfl rfl, fun U hU hW => ⟨rfl, by rw [hU]; exact hP, va_K.moved hW.alike hK⟩⟩ rfl rfl hl.1 rfl (lv_room (Nat.le_of_ble_eq_true rfl)) dM_open_5 ⟨by subst hR; exact Nat.zero_le _, by subst hR; exact Nat.zero_le _⟩) (fun r_5 hw_5 => ?_)
  subst hw_5
  refine xi_sub (z := np - (clo nc E)) hx hb dM_open_8 rfl ?_
  subst hQ
  exact W.iret (v := (iI (np - (clo nc E)))) hx hb hr (fun t9 ht9 hW9 => ⟨_, rfl, rfl, ht9.trans hH⟩) (by rw [hlo]; intro q9 h9; cases h9) dM_open_9
set_option maxHeartbeats 4000000 in
set_option maxRecDepth 100000 in
/-- refused -/
theorem m_refused (l : Launch) (dC : Nat → ClassId) (dI : Nat → Nat → Nat) (ad : Nat → Nat) (cs : Nat → ClassId) (sz : Nat) (ft : Int) (par : Bool) (np nc rs npc hi lo : Int) (X Y : Int → Int) (O : Int → Bool) (E RX RY : Int → Int) (RO : Int → Bool) (PC : Int → Int) (CV : Int → Bool) (z : Int) (hz : -2147483648 ≤ z ∧ z ≤ 2147483647) : Met l yM_refused wM_refused ({ frames := 0, cells := 0, slots := 0, locals := 0 }) (va_Pc [.ref (ad 0), .int (iI z)] (fun U => U.heap.size = sz ∧ va_P (dC, dI) vwCl (mW ad cs ft par np nc rs npc hi lo X Y O E RX RY RO PC CV) U.heap ∧ va_K (dC, dI) vwCl (mT cs) U ∧ va_D (fun _ => True) (mW ad cs ft par np nc rs npc hi lo X Y O E RX RY RO PC CV))) (va_Qi (fun (r : Int32) (u : Unit) => r = iI (bz (decide (0 < z))) ∧ True) (fun (u : Unit) t9 => va_P (dC, dI) vwCl (mW ad cs z par np nc rs npc hi lo X Y O E RX RY RO PC CV) t9.heap ∧ va_K (dC, dI) vwCl (mT cs) t9 ∧ va_D (va_A (mW ad cs ft par np nc rs npc hi lo X Y O E RX RY RO PC CV) sz) (mW ad cs z par np nc rs npc hi lo X Y O E RX RY RO PC CV)) (va_A (mW ad cs ft par np nc rs npc hi lo X Y O E RX RY RO PC CV) sz)) 0 0 (va_A (mW ad cs ft par np nc rs npc hi lo X Y O E RX RY RO PC CV) sz) := by
  refine Met.ofW (cc := cM_refused) (maxL := 2) (ret := (some .boolean)) (by decide) rfl ?_
  intro p e s m args below meth c s₁ B hml hv
  obtain ⟨hargs, hsz, hP, hK, hD0⟩ := hv
  have hx := B.exec
  have hb := B.bytes
  have hr := B.returns
  have hts := atoms_spec (ws := wM_refused) B.pre
  have hown : s.vm.findClass RM = some m.cls := findClass_of_methodNamed B.named
  have hlocks := B.notSynchronized
  subst hsz
  have hD := hD0.self (sz := s.heap.size)
  generalize hAe : va_A (mW ad cs ft par np nc rs npc hi lo X Y O E RX RY RO PC CV) s.heap.size = A at hD ⊢
  have hA : ∀ q : Nat, s.heap.size ≤ q → A q := fun q h => by rw [← hAe]; exact Or.inr h
  have hS0 : va_S A s.heap s.heap [] := va_S.rf
  refine x_name (fun R Q H locs hR hQ hH hlo => ?_)
  rw [← hH] at hP
  have hS : va_S A s.heap H locs := by rw [hH, hlo]; exact hS0
  refine x_entry hargs (Nat.le_of_ble_eq_true rfl) (fun ls hl => ?_)
  have hl : lv_has ls 2 [(0, .ref (ad 0)), (1, .int (iI z))] := hl
  have hP : va_P (dC, dI) vwCl (mW ad cs ft par np nc rs npc hi lo X Y O E RX RY RO PC CV) H := hP
  refine lv_aload_n hx hb dM_refused_0 rfl (lv_at hl 0 rfl) ?_
  refine lv_iload_n hx hb dM_refused_1 rfl (lv_at hl 1 rfl) ?_
  refine va_put (D := (dC, dI)) (ci := 3) (v := .int (iI z)) (ty := .int) (C := RM) (T := TM) (N := 17) hx hb hts (fun w9 h9 => List.mem_cons_of_mem _ (inM w9 h9)) tyM tyM_ok nmM hown hK hP hD hS 0 rfl rfl 0 (by decide) (hts _ (List.mem_cons_of_mem _ flM_38)) (fun _ h9 => h9) rfl (by decide +kernel) rfl rfl (Nat.le_of_ble_eq_true rfl) dM_refused_2 (fun H locs hP hD hS => ?_)
  have hP : va_P (dC, dI) vwCl (mW ad cs z par np nc rs npc hi lo X Y O E RX RY RO PC CV) H := hP
  have hD : va_D A (mW ad cs z par np nc rs npc hi lo X Y O E RX RY RO PC CV) := hD
  have cut_14_1 : ∀ (v : Bool) (ls : Array Slot), (v = decide (0 < z)) → lv_has ls 2 [(0, .ref (ad 0)), (1, .int (iI z))] → W p l e R s m args below meth c H locs 0 0 Q (F0 m 14 ls [.int (iI (bz v))]) := by
    intro v ls hv hl
    subst hQ
    exact W.zret (v := (iI (bz v))) hx hb hr (xi_narZ2 _) (fun t9 ht9 hW9 => ⟨⟨_, (), rfl, (⟨by rw [hv], trivial⟩), by rw [ht9]; exact hP, va_K.moved hW9.alike hK, hD⟩, hS.F ht9⟩) hS.2.2 dM_refused_14
  refine lv_iload_n hx hb dM_refused_5 rfl (lv_at hl 1 rfl) ?_
  refine xi_if_le (tgt := 13) hx hb dM_refused_6 (by decide) (by omega) (fun c_6 => ?_) (fun c_6 => ?_)
  · skip
    refine xi_iconst hx hb dM_refused_13 ?_
    exact cut_14_1 false _ (dec_f (by omega)) (lv_sub hl [0, 1] rfl)
  · skip
    refine xi_iconst hx hb dM_refused_9 ?_
    refine lv_goto (tgt := 14) hx hb dM_refused_10 (by decide) ?_
    exact cut_14_1 true _ (dec_t (by omega)) (lv_sub hl [0, 1] rfl)
set_option maxHeartbeats 4000000 in
set_option maxRecDepth 100000 in
/-- thrown -/
theorem m_thrown (l : Launch) (dC : Nat → ClassId) (dI : Nat → Nat → Nat) (ad : Nat → Nat) (cs : Nat → ClassId) (ft : Int) (par : Bool) (np nc rs npc hi lo : Int) (X Y : Int → Int) (O : Int → Bool) (E RX RY : Int → Int) (RO : Int → Bool) (PC : Int → Int) (CV : Int → Bool) : Met l yM_thrown wM_thrown ({ frames := 0, cells := 0, slots := 0, locals := 0 }) (va_Pc [.ref (ad 0)] (fun U => va_P (dC, dI) vwCl (mW ad cs ft par np nc rs npc hi lo X Y O E RX RY RO PC CV) U.heap ∧ va_K (dC, dI) vwCl (mT cs) U)) (vp_Si (fun r => r = iI ft)) 0 0 (fun _ => False) := by
  refine Met.ofW (cc := cM_thrown) (maxL := 1) (ret := (some .int)) (by decide) rfl ?_
  intro p e s m args below meth c s₁ B hml hv
  obtain ⟨hargs, hP, hK⟩ := hv
  have hx := B.exec
  have hb := B.bytes
  have hr := B.returns
  have hts := atoms_spec (ws := wM_thrown) B.pre
  have hown : s.vm.findClass RM = some m.cls := findClass_of_methodNamed B.named
  have hlocks := B.notSynchronized
  refine x_name (fun R Q H locs hR hQ hH hlo => ?_)
  rw [← hH] at hP
  refine x_entry hargs (Nat.le_of_ble_eq_true rfl) (fun ls hl => ?_)
  have hl : lv_has ls 1 [(0, .ref (ad 0))] := hl
  have hP : va_P (dC, dI) vwCl (mW ad cs ft par np nc rs npc hi lo X Y O E RX RY RO PC CV) H := hP
  refine lv_aload_n hx hb dM_thrown_0 rfl (lv_at hl 0 rfl) ?_
  refine va_get (D := (dC, dI)) (ci := 3) (v := .int (iI ft)) (C := RM) (T := TM) (N := 17) hx hb hts (fun w9 h9 => List.mem_cons_of_mem _ (inM w9 h9)) hown hK hP 0 rfl rfl 0 (by decide) (hts _ (List.mem_cons_of_mem _ flM_38)) (fun _ h9 => h9) rfl dM_thrown_1 ?_
  subst hQ
  exact W.iret (v := (iI ft)) hx hb hr (fun t9 ht9 hW9 => ⟨_, rfl, rfl, ht9.trans hH⟩) (by rw [hlo]; intro q9 h9; cases h9) dM_thrown_4
set_option maxHeartbeats 4000000 in
set_option maxRecDepth 100000 in
/-- add -/
theorem m_add (l : Launch) (dC : Nat → ClassId) (dI : Nat → Nat → Nat) (ad : Nat → Nat) (cs : Nat → ClassId) (sz : Nat) (ft : Int) (par : Bool) (np nc rs npc hi lo : Int) (X Y : Int → Int) (O : Int → Bool) (E RX RY : Int → Int) (RO : Int → Bool) (PC : Int → Int) (CV : Int → Bool) (x y : Int) (on : Bool) (h1 : 0 ≤ nc ∧ nc ≤ 64) (h2 : 0 ≤ np ∧ np ≤ 512) (hx0 : -2147483648 ≤ x ∧ x ≤ 2147483647) (hy0 : -2147483648 ≤ y ∧ y ≤ 2147483647) : Met l yM_add wM_add ({ frames := 2, cells := 0, slots := 0, locals := 40 }) (va_Pc [.ref (ad 0), .int (iI x), .int (iI y), .int (iI (bz on))] (fun U => U.heap.size = sz ∧ va_P (dC, dI) vwCl (mW ad cs ft par np nc rs npc hi lo X Y O E RX RY RO PC CV) U.heap ∧ va_K (dC, dI) vwCl (mT cs) U ∧ va_D (fun _ => True) (mW ad cs ft par np nc rs npc hi lo X Y O E RX RY RO PC CV))) (va_Qi (fun (r : Int32) (u : Int × Int × (Int → Int) × (Int → Int) × (Int → Bool)) => u.1 = fA x y np ∧ (fA x y np = 0 → r = iI (np + 1 - clo nc E) ∧ u.2 = (np + 1, up X np x, up Y np y, up O np on)) ∧ (fA x y np ≠ 0 → u.2 = (np, X, Y, O))) (fun (u : Int × Int × (Int → Int) × (Int → Int) × (Int → Bool)) t9 => va_P (dC, dI) vwCl (mW ad cs u.1 par u.2.1 nc rs npc hi lo u.2.2.1 u.2.2.2.1 u.2.2.2.2 E RX RY RO PC CV) t9.heap ∧ va_K (dC, dI) vwCl (mT cs) t9 ∧ va_D (va_A (mW ad cs ft par np nc rs npc hi lo X Y O E RX RY RO PC CV) sz) (mW ad cs u.1 par u.2.1 nc rs npc hi lo u.2.2.1 u.2.2.2.1 u.2.2.2.2 E RX RY RO PC CV)) (va_A (mW ad cs ft par np nc rs npc hi lo X Y O E RX RY RO PC CV) sz)) 0 0 (va_A (mW ad cs ft par np nc rs npc hi lo X Y O E RX RY RO PC CV) sz) := by
  refine Met.ofW (cc := cM_add) (maxL := 4) (ret := (some .int)) (by decide) rfl ?_
  intro p e s m args below meth c s₁ B hml hv
  obtain ⟨hargs, hsz, hP, hK, hD0⟩ := hv
  have hx := B.exec
  have hb := B.bytes
  have hr := B.returns
  have hts := atoms_spec (ws := wM_add) B.pre
  have hown : s.vm.findClass RM = some m.cls := findClass_of_methodNamed B.named
  have hlocks := B.notSynchronized
  subst hsz
  have hD := hD0.self (sz := s.heap.size)
  generalize hAe : va_A (mW ad cs ft par np nc rs npc hi lo X Y O E RX RY RO PC CV) s.heap.size = A at hD ⊢
  have hA : ∀ q : Nat, s.heap.size ≤ q → A q := fun q h => by rw [← hAe]; exact Or.inr h
  have hS0 : va_S A s.heap s.heap [] := va_S.rf
  refine x_name (fun R Q H locs hR hQ hH hlo => ?_)
  rw [← hH] at hP
  have hS : va_S A s.heap H locs := by rw [hH, hlo]; exact hS0
  refine x_entry hargs (Nat.le_of_ble_eq_true rfl) (fun ls hl => ?_)
  have hl : lv_has ls 4 [(0, .ref (ad 0)), (1, .int (iI x)), (2, .int (iI y)), (3, .int (iI (bz on)))] := hl
  have hP : va_P (dC, dI) vwCl (mW ad cs ft par np nc rs npc hi lo X Y O E RX RY RO PC CV) H := hP
  refine lv_aload_n hx hb dM_add_0 rfl (lv_at hl 0 rfl) ?_
  have cut_36_1 : ∀ (fc : Int) (ls : Array Slot), (fc = fA x y np) → lv_has ls 4 [(0, .ref (ad 0)), (1, .int (iI x)), (2, .int (iI y)), (3, .int (iI (bz on)))] → W p l e R s m args below meth c H locs 0 0 Q (F0 m 36 ls [.int (iI fc), .ref (ad 0)]) := by
    intro fc ls hfc hl
    have b1 := fA_in x y np
    rw [← hfc] at b1
    have hFc := xw_free hD hS hA
    refine va_calli (va_runV (As := [.int (iI fc)]) (rest := []) ⟨hx, hb, hml, hown, hts⟩ (m_refused l dC dI ad cs H.size ft par np nc rs npc hi lo X Y O E RX RY RO PC CV fc (by omega)) (cwV 1 hts (tb_V mlM_60 imM_refused seM_refused iniM coM_refused) rfl rfl rfl (by decide +kernel) (by subst hR; exact ⟨Nat.le_of_ble_eq_true rfl, Nat.le_of_ble_eq_true rfl⟩)) ⟨fun a9 U9 g9 mk9 q9 => by obtain ⟨q0, q1, qP, qK, qD⟩ := q9; exact ⟨q0, q1, qP, va_K.moved (u := U9) (U := U9.calling g9 mk9 a9) (Vm.Alike.refl U9.vm) qK, qD⟩, va_recv hK hP (ci := 3) (q0 := 0) rfl rfl, fun U hU hW => ⟨rfl, by rw [hU], by rw [hU]; exact hP, va_K.moved hW.alike hK, hD.weaken (fun _ _ _ _ => trivial)⟩⟩ rfl rfl hl.1 rfl (lv_room (Nat.le_of_ble_eq_true rfl)) dM_add_36 ⟨by subst hR; exact Nat.le_of_ble_eq_true rfl, by subst hR; exact Nat.le_of_ble_eq_true rfl⟩) hS (fun q9 _ h9 => hFc q9 h9) hFc (fun r_36 u_36 t9 H1 locs1 ht9 hvm9 hw_36 hB9 hz9 hk9 hS1 => ?_)
    obtain ⟨hP1, hK1, hD1⟩ := hB9
    rw [ht9] at hP1
    have hP : va_P (dC, dI) vwCl (mW ad cs fc par np nc rs npc hi lo X Y O E RX RY RO PC CV) H1 := hP1
    have hD : va_D A (mW ad cs fc par np nc rs npc hi lo X Y O E RX RY RO PC CV) := hD1.weaken (fun _ _ _ h9 => hFc _ h9)
    clear hP1 hD1 hK1 hFc
    have hS := hS1
    clear hS1 hz9 hk9 ht9 hvm9
    revert hP hD hS; generalize H1 = H; generalize locs1 = locs; intro hP hD hS
    obtain ⟨hr_36, hw_36⟩ := hw_36; subst hr_36
    refine xb_if_eq (tgt := 44) hx hb dM_add_39 (by decide) (fun c_39 => ?_) (fun c_39 => ?_)
    · skip
      have b2 : np ≠ 512 := fun h => by (have h3 := of_decide_eq_false c_39; have h4 : fA x y np = 0 := by omega); unfold fA at h4; rw [if_pos h] at h4; split at h4 <;> omega
      refine lv_aload_n hx hb dM_add_44 rfl (lv_at hl 0 rfl) ?_
      refine va_get (D := (dC, dI)) (ci := 3) (v := .ref (ad 1)) (C := RM) (T := TM) (N := 17) hx hb hts (fun w9 h9 => List.mem_cons_of_mem _ (inM w9 h9)) hown hK hP 0 rfl rfl 3 (by decide) (hts _ (List.mem_cons_of_mem _ flM_7)) (fun _ h9 => h9) rfl dM_add_45 ?_
      refine lv_aload_n hx hb dM_add_48 rfl (lv_at hl 0 rfl) ?_
      refine va_get (D := (dC, dI)) (ci := 3) (v := .int (iI np)) (C := RM) (T := TM) (N := 17) hx hb hts (fun w9 h9 => List.mem_cons_of_mem _ (inM w9 h9)) hown hK hP 0 rfl rfl 2 (by decide) (hts _ (List.mem_cons_of_mem _ flM_46)) (fun _ h9 => h9) rfl dM_add_49 ?_
      refine lv_iload_n hx hb dM_add_52 rfl (lv_at hl 1 rfl) ?_
      refine xa_iast (z := np) (v := x) hx hb hK hP hD hS 1 0 rfl rfl (by decide) (by omega) dM_add_53 (fun H locs hP hD hS => ?_)
      have hP : va_P (dC, dI) vwCl (mW ad cs fc par np nc rs npc hi lo (up X np x) Y O E RX RY RO PC CV) H := hP
      have hD : va_D A (mW ad cs fc par np nc rs npc hi lo (up X np x) Y O E RX RY RO PC CV) := hD
      refine lv_aload_n hx hb dM_add_54 rfl (lv_at hl 0 rfl) ?_
      refine va_get (D := (dC, dI)) (ci := 3) (v := .ref (ad 2)) (C := RM) (T := TM) (N := 17) hx hb hts (fun w9 h9 => List.mem_cons_of_mem _ (inM w9 h9)) hown hK hP 0 rfl rfl 4 (by decide) (hts _ (List.mem_cons_of_mem _ flM_13)) (fun _ h9 => h9) rfl dM_add_55 ?_
      refine lv_aload_n hx hb dM_add_58 rfl (lv_at hl 0 rfl) ?_
      refine va_get (D := (dC, dI)) (ci := 3) (v := .int (iI np)) (C := RM) (T := TM) (N := 17) hx hb hts (fun w9 h9 => List.mem_cons_of_mem _ (inM w9 h9)) hown hK hP 0 rfl rfl 2 (by decide) (hts _ (List.mem_cons_of_mem _ flM_46)) (fun _ h9 => h9) rfl dM_add_59 ?_
      refine lv_iload_n hx hb dM_add_62 rfl (lv_at hl 2 rfl) ?_
      refine xa_iast (z := np) (v := y) hx hb hK hP hD hS 2 1 rfl rfl (by decide) (by omega) dM_add_63 (fun H locs hP hD hS => ?_)
      have hP : va_P (dC, dI) vwCl (mW ad cs fc par np nc rs npc hi lo (up X np x) (up Y np y) O E RX RY RO PC CV) H := hP
      have hD : va_D A (mW ad cs fc par np nc rs npc hi lo (up X np x) (up Y np y) O E RX RY RO PC CV) := hD
      refine lv_aload_n hx hb dM_add_64 rfl (lv_at hl 0 rfl) ?_
      refine va_get (D := (dC, dI)) (ci := 3) (v := .ref (ad 3)) (C := RM) (T := TM) (N := 17) hx hb hts (fun w9 h9 => List.mem_cons_of_mem _ (inM w9 h9)) hown hK hP 0 rfl rfl 5 (by decide) (hts _ (List.mem_cons_of_mem _ flM_16)) (fun _ h9 => h9) rfl dM_add_65 ?_
      refine lv_aload_n hx hb dM_add_68 rfl (lv_at hl 0 rfl) ?_
      refine va_get (D := (dC, dI)) (ci := 3) (v := .int (iI np)) (C := RM) (T := TM) (N := 17) hx hb hts (fun w9 h9 => List.mem_cons_of_mem _ (inM w9 h9)) hown hK hP 0 rfl rfl 2 (by decide) (hts _ (List.mem_cons_of_mem _ flM_46)) (fun _ h9 => h9) rfl dM_add_69 ?_
      refine lv_iload_n hx hb dM_add_72 rfl (lv_at hl 3 rfl) ?_
      refine xa_zast (z := np) (v := on) hx hb hK hP hD hS 3 2 rfl rfl (by decide) (by omega) dM_add_73 (fun H locs hP hD hS => ?_)
      have hP : va_P (dC, dI) vwCl (mW ad cs fc par np nc rs npc hi lo (up X np x) (up Y np y) (up O np on) E RX RY RO PC CV) H := hP
      have hD : va_D A (mW ad cs fc par np nc rs npc hi lo (up X np x) (up Y np y) (up O np on) E RX RY RO PC CV) := hD
      refine lv_aload_n hx hb dM_add_74 rfl (lv_at hl 0 rfl) ?_
      refine lv_dup hx hb dM_add_75 rfl ?_
      refine va_get (D := (dC, dI)) (ci := 3) (v := .int (iI np)) (C := RM) (T := TM) (N := 17) hx hb hts (fun w9 h9 => List.mem_cons_of_mem _ (inM w9 h9)) hown hK hP 0 rfl rfl 2 (by decide) (hts _ (List.mem_cons_of_mem _ flM_46)) (fun _ h9 => h9) rfl dM_add_76 ?_
      refine xi_iconst hx hb dM_add_79 ?_
      refine xi_add (z := np + 1) hx hb dM_add_80 rfl ?_
      refine va_put (D := (dC, dI)) (ci := 3) (v := .int (iI (np + 1))) (ty := .int) (C := RM) (T := TM) (N := 17) hx hb hts (fun w9 h9 => List.mem_cons_of_mem _ (inM w9 h9)) tyM tyM_ok nmM hown hK hP hD hS 0 rfl rfl 2 (by decide) (hts _ (List.mem_cons_of_mem _ flM_46)) (fun _ h9 => h9) rfl (by decide +kernel) rfl rfl (Nat.le_of_ble_eq_true rfl) dM_add_81 (fun H locs hP hD hS => ?_)
      have hP : va_P (dC, dI) vwCl (mW ad cs fc par (np + 1) nc rs npc hi lo (up X np x) (up Y np y) (up O np on) E RX RY RO PC CV) H := hP
      have hD : va_D A (mW ad cs fc par (np + 1) nc rs npc hi lo (up X np x) (up Y np y) (up O np on) E RX RY RO PC CV) := hD
      refine lv_aload_n hx hb dM_add_84 rfl (lv_at hl 0 rfl) ?_
      refine vp_callSi (W.runV (As := []) (rest := []) ⟨hx, hb, hml, hown, hts⟩ (m_opened l dC dI ad cs fc par (np + 1) nc rs npc hi lo (up X np x) (up Y np y) (up O np on) E RX RY RO PC CV h1) (cwV 0 hts (tb_V mlM_64 imM_open seM_open iniM coM_open) rfl rfl rfl (by decide +kernel) (by subst hR; exact ⟨Nat.le_of_ble_eq_true rfl, Nat.le_of_ble_eq_true rfl⟩)) ⟨fun a9 U9 g9 mk9 q9 => by obtain ⟨q0, qP, qK⟩ := q9; exact ⟨q0, qP, va_K.moved (u := U9) (U := U9.calling g9 mk9 a9) (Vm.Alike.refl U9.vm) qK⟩, va_recv hK hP (ci := 3) (q0 := 0) rfl rfl, fun U hU hW => ⟨rfl, by rw [hU]; exact hP, va_K.moved hW.alike hK⟩⟩ rfl rfl hl.1 rfl (lv_room (Nat.le_of_ble_eq_true rfl)) dM_add_85 ⟨by subst hR; exact Nat.zero_le _, by subst hR; exact Nat.zero_le _⟩) (fun r_85 hw_85 => ?_)
      subst hw_85
      subst hQ
      exact W.iret (v := (iI (np + 1 - clo nc E))) hx hb hr (fun t9 ht9 hW9 => ⟨⟨_, (fc, np + 1, up X np x, up Y np y, up O np on), rfl, (⟨hfc, fun _ => ⟨rfl, rfl⟩, fun h => absurd (show fA x y np = 0 by have := of_decide_eq_false c_39; omega) h⟩), by rw [ht9]; exact hP, va_K.moved hW9.alike hK, hD⟩, hS.F ht9⟩) hS.2.2 dM_add_88
    · skip
      refine xi_iconst hx hb dM_add_42 ?_
      subst hQ
      exact W.iret (v := (iI 0)) hx hb hr (fun t9 ht9 hW9 => ⟨⟨_, (fc, np, X, Y, O), rfl, (⟨hfc, fun h => absurd h (by have := of_decide_eq_true c_39; omega), fun _ => rfl⟩), by rw [ht9]; exact hP, va_K.moved hW9.alike hK, hD⟩, hS.F ht9⟩) hS.2.2 dM_add_43
  refine lv_iload_n hx hb dM_add_1 rfl (lv_at hl 1 rfl) ?_
  refine xl_i2l hx hb dM_add_2 (by omega) ?_
  refine vp_callSi (W.runS (As := [.long (lI x)]) (rest := [.ref (ad 0)]) ⟨hx, hb, hml, hown, hts⟩ (m_isCoordinate l dC dI x (by omega)) (va_cwS 1 hts (tb_S mlM_56 smM_isCoordinate iniM coM_isCoordinate) rfl rfl rfl (by decide +kernel) (by subst hR; exact ⟨Nat.le_of_ble_eq_true rfl, Nat.le_of_ble_eq_true rfl⟩)) ⟨fun a9 U9 g9 mk9 q9 => q9, fun U hU hW => ⟨rfl, trivial⟩⟩ rfl rfl hl.1 rfl (lv_room (Nat.le_of_ble_eq_true rfl)) dM_add_3 ⟨by subst hR; exact Nat.zero_le _, by subst hR; exact Nat.zero_le _⟩) (fun r_3 hw_3 => ?_)
  subst hw_3
  refine xb_if_eq (tgt := 17) hx hb dM_add_6 (by decide) (fun c_6 => ?_) (fun c_6 => ?_)
  · skip
    refine xi_iconst hx hb dM_add_17 ?_
    refine lv_goto (tgt := 36) hx hb dM_add_18 (by decide) ?_
    exact cut_36_1 1 _ (by unfold fA; rw [if_neg (fun h => by exact absurd h.1 (of_decide_eq_false c_6))]) (lv_sub hl [0, 1, 2, 3] rfl)
  · skip
    refine lv_iload_n hx hb dM_add_9 rfl (lv_at hl 2 rfl) ?_
    refine xl_i2l hx hb dM_add_10 (by omega) ?_
    refine vp_callSi (W.runS (As := [.long (lI y)]) (rest := [.ref (ad 0)]) ⟨hx, hb, hml, hown, hts⟩ (m_isCoordinate l dC dI y (by omega)) (va_cwS 1 hts (tb_S mlM_56 smM_isCoordinate iniM coM_isCoordinate) rfl rfl rfl (by decide +kernel) (by subst hR; exact ⟨Nat.le_of_ble_eq_true rfl, Nat.le_of_ble_eq_true rfl⟩)) ⟨fun a9 U9 g9 mk9 q9 => q9, fun U hU hW => ⟨rfl, trivial⟩⟩ rfl rfl hl.1 rfl (lv_room (Nat.le_of_ble_eq_true rfl)) dM_add_11 ⟨by subst hR; exact Nat.zero_le _, by subst hR; exact Nat.zero_le _⟩) (fun r_11 hw_11 => ?_)
    subst hw_11
    refine xb_if_ne (tgt := 21) hx hb dM_add_14 (by decide) (fun c_14 => ?_) (fun c_14 => ?_)
    · skip
      refine lv_aload_n hx hb dM_add_21 rfl (lv_at hl 0 rfl) ?_
      refine va_get (D := (dC, dI)) (ci := 3) (v := .int (iI np)) (C := RM) (T := TM) (N := 17) hx hb hts (fun w9 h9 => List.mem_cons_of_mem _ (inM w9 h9)) hown hK hP 0 rfl rfl 2 (by decide) (hts _ (List.mem_cons_of_mem _ flM_46)) (fun _ h9 => h9) rfl dM_add_22 ?_
      refine lv_sipush (v := iI 512) hx hb dM_add_25 (by decide +kernel) ?_
      refine xi_icmp_ne (tgt := 35) hx hb dM_add_28 (by decide) (by omega) (by omega) (fun c_28 => ?_) (fun c_28 => ?_)
      · skip
        refine xi_iconst hx hb dM_add_35 ?_
        exact cut_36_1 0 _ (by unfold fA; rw [if_pos ⟨of_decide_eq_true c_6, of_decide_eq_true c_14⟩, if_neg c_28]) (lv_sub hl [0, 1, 2, 3] rfl)
      · skip
        refine xi_iconst hx hb dM_add_31 ?_
        refine lv_goto (tgt := 36) hx hb dM_add_32 (by decide) ?_
        exact cut_36_1 2 _ (by unfold fA; rw [if_pos ⟨of_decide_eq_true c_6, of_decide_eq_true c_14⟩, if_pos c_28]) (lv_sub hl [0, 1, 2, 3] rfl)
    · skip
      refine xi_iconst hx hb dM_add_17 ?_
      refine lv_goto (tgt := 36) hx hb dM_add_18 (by decide) ?_
      exact cut_36_1 1 _ (by unfold fA; rw [if_neg (fun h => by exact absurd h.2 (of_decide_eq_false c_14))]) (lv_sub hl [0, 1, 2, 3] rfl)
set_option maxHeartbeats 4000000 in
set_option maxRecDepth 100000 in
/-- close -/
theorem m_close (l : Launch) (dC : Nat → ClassId) (dI : Nat → Nat → Nat) (ad : Nat → Nat) (cs : Nat → ClassId) (sz : Nat) (ft : Int) (par : Bool) (np nc rs npc hi lo : Int) (X Y : Int → Int) (O : Int → Bool) (E RX RY : Int → Int) (RO : Int → Bool) (PC : Int → Int) (CV : Int → Bool) (h1 : 0 ≤ nc ∧ nc ≤ 64) (h2 : 0 ≤ np ∧ np ≤ 512) (h3 : 0 ≤ clo nc E ∧ clo nc E ≤ np) : Met l yM_close wM_close ({ frames := 2, cells := 0, slots := 0, locals := 40 }) (va_Pc [.ref (ad 0)] (fun U => U.heap.size = sz ∧ va_P (dC, dI) vwCl (mW ad cs ft par np nc rs npc hi lo X Y O E RX RY RO PC CV) U.heap ∧ va_K (dC, dI) vwCl (mT cs) U ∧ va_D (fun _ => True) (mW ad cs ft par np nc rs npc hi lo X Y O E RX RY RO PC CV))) (va_Qi (fun (r : Int32) (u : Int × Int × (Int → Int)) => u.1 = fC np nc E ∧ (fC np nc E = 0 → r = iI (nc + 1) ∧ u.2 = (nc + 1, up E nc np)) ∧ (fC np nc E ≠ 0 → u.2 = (nc, E))) (fun (u : Int × Int × (Int → Int)) t9 => va_P (dC, dI) vwCl (mW ad cs u.1 par np u.2.1 rs npc hi lo X Y O u.2.2 RX RY RO PC CV) t9.heap ∧ va_K (dC, dI) vwCl (mT cs) t9 ∧ va_D (va_A (mW ad cs ft par np nc rs npc hi lo X Y O E RX RY RO PC CV) sz) (mW ad cs u.1 par np u.2.1 rs npc hi lo X Y O u.2.2 RX RY RO PC CV)) (va_A (mW ad cs ft par np nc rs npc hi lo X Y O E RX RY RO PC CV) sz)) 0 0 (va_A (mW ad cs ft par np nc rs npc hi lo X Y O E RX RY RO PC CV) sz) := by
  refine Met.ofW (cc := cM_close) (maxL := 1) (ret := (some .int)) (by decide) rfl ?_
  intro p e s m args below meth c s₁ B hml hv
  obtain ⟨hargs, hsz, hP, hK, hD0⟩ := hv
  have hx := B.exec
  have hb := B.bytes
  have hr := B.returns
  have hts := atoms_spec (ws := wM_close) B.pre
  have hown : s.vm.findClass RM = some m.cls := findClass_of_methodNamed B.named
  have hlocks := B.notSynchronized
  subst hsz
  have hD := hD0.self (sz := s.heap.size)
  generalize hAe : va_A (mW ad cs ft par np nc rs npc hi lo X Y O E RX RY RO PC CV) s.heap.size = A at hD ⊢
  have hA : ∀ q : Nat, s.heap.size ≤ q → A q := fun q h => by rw [← hAe]; exact Or.inr h
  have hS0 : va_S A s.heap s.heap [] := va_S.rf
  refine x_name (fun R Q H locs hR hQ hH hlo => ?_)
  rw [← hH] at hP
  have hS : va_S A s.heap H locs := by rw [hH, hlo]; exact hS0
  refine x_entry hargs (Nat.le_of_ble_eq_true rfl) (fun ls hl => ?_)
  have hl : lv_has ls 1 [(0, .ref (ad 0))] := hl
  have hP : va_P (dC, dI) vwCl (mW ad cs ft par np nc rs npc hi lo X Y O E RX RY RO PC CV) H := hP
  refine lv_aload_n hx hb dM_close_0 rfl (lv_at hl 0 rfl) ?_
  have cut_22_1 : ∀ (fc : Int) (ls : Array Slot), (fc = fC np nc E) → lv_has ls 1 [(0, .ref (ad 0))] → W p l e R s m args below meth c H locs 0 0 Q (F0 m 22 ls [.int (iI fc), .ref (ad 0)]) := by
    intro fc ls hfc hl
    have b1 := fC_in np nc E
    rw [← hfc] at b1
    have hFc := xw_free hD hS hA
    refine va_calli (va_runV (As := [.int (iI fc)]) (rest := []) ⟨hx, hb, hml, hown, hts⟩ (m_refused l dC dI ad cs H.size ft par np nc rs npc hi lo X Y O E RX RY RO PC CV fc (by omega)) (cwV 1 hts (tb_V mlM_60 imM_refused seM_refused iniM coM_refused) rfl rfl rfl (by decide +kernel) (by subst hR; exact ⟨Nat.le_of_ble_eq_true rfl, Nat.le_of_ble_eq_true rfl⟩)) ⟨fun a9 U9 g9 mk9 q9 => by obtain ⟨q0, q1, qP, qK, qD⟩ := q9; exact ⟨q0, q1, qP, va_K.moved (u := U9) (U := U9.calling g9 mk9 a9) (Vm.Alike.refl U9.vm) qK, qD⟩, va_recv hK hP (ci := 3) (q0 := 0) rfl rfl, fun U hU hW => ⟨rfl, by rw [hU], by rw [hU]; exact hP, va_K.moved hW.alike hK, hD.weaken (fun _ _ _ _ => trivial)⟩⟩ rfl rfl hl.1 rfl (lv_room (Nat.le_of_ble_eq_true rfl)) dM_close_22 ⟨by subst hR; exact Nat.le_of_ble_eq_true rfl, by subst hR; exact Nat.le_of_ble_eq_true rfl⟩) hS (fun q9 _ h9 => hFc q9 h9) hFc (fun r_22 u_22 t9 H1 locs1 ht9 hvm9 hw_22 hB9 hz9 hk9 hS1 => ?_)
    obtain ⟨hP1, hK1, hD1⟩ := hB9
    rw [ht9] at hP1
    have hP : va_P (dC, dI) vwCl (mW ad cs fc par np nc rs npc hi lo X Y O E RX RY RO PC CV) H1 := hP1
    have hD : va_D A (mW ad cs fc par np nc rs npc hi lo X Y O E RX RY RO PC CV) := hD1.weaken (fun _ _ _ h9 => hFc _ h9)
    clear hP1 hD1 hK1 hFc
    have hS := hS1
    clear hS1 hz9 hk9 ht9 hvm9
    revert hP hD hS; generalize H1 = H; generalize locs1 = locs; intro hP hD hS
    obtain ⟨hr_22, hw_22⟩ := hw_22; subst hr_22
    refine xb_if_eq (tgt := 30) hx hb dM_close_25 (by decide) (fun c_25 => ?_) (fun c_25 => ?_)
    · skip
      have b2 : nc ≠ 64 := fun h => by (have h5 := of_decide_eq_false c_25; have h4 : fC np nc E = 0 := by omega); unfold fC at h4; rw [if_pos (Or.inr h)] at h4; omega
      refine lv_aload_n hx hb dM_close_30 rfl (lv_at hl 0 rfl) ?_
      refine va_get (D := (dC, dI)) (ci := 3) (v := .ref (ad 4)) (C := RM) (T := TM) (N := 17) hx hb hts (fun w9 h9 => List.mem_cons_of_mem _ (inM w9 h9)) hown hK hP 0 rfl rfl 7 (by decide) (hts _ (List.mem_cons_of_mem _ flM_20)) (fun _ h9 => h9) rfl dM_close_31 ?_
      refine lv_aload_n hx hb dM_close_34 rfl (lv_at hl 0 rfl) ?_
      refine va_get (D := (dC, dI)) (ci := 3) (v := .int (iI nc)) (C := RM) (T := TM) (N := 17) hx hb hts (fun w9 h9 => List.mem_cons_of_mem _ (inM w9 h9)) hown hK hP 0 rfl rfl 6 (by decide) (hts _ (List.mem_cons_of_mem _ flM_53)) (fun _ h9 => h9) rfl dM_close_35 ?_
      refine lv_aload_n hx hb dM_close_38 rfl (lv_at hl 0 rfl) ?_
      refine va_get (D := (dC, dI)) (ci := 3) (v := .int (iI np)) (C := RM) (T := TM) (N := 17) hx hb hts (fun w9 h9 => List.mem_cons_of_mem _ (inM w9 h9)) hown hK hP 0 rfl rfl 2 (by decide) (hts _ (List.mem_cons_of_mem _ flM_46)) (fun _ h9 => h9) rfl dM_close_39 ?_
      refine xa_iast (z := nc) (v := np) hx hb hK hP hD hS 4 3 rfl rfl (by decide) (by omega) dM_close_42 (fun H locs hP hD hS => ?_)
      have hP : va_P (dC, dI) vwCl (mW ad cs fc par np nc rs npc hi lo X Y O (up E nc np) RX RY RO PC CV) H := hP
      have hD : va_D A (mW ad cs fc par np nc rs npc hi lo X Y O (up E nc np) RX RY RO PC CV) := hD
      refine lv_aload_n hx hb dM_close_43 rfl (lv_at hl 0 rfl) ?_
      refine lv_dup hx hb dM_close_44 rfl ?_
      refine va_get (D := (dC, dI)) (ci := 3) (v := .int (iI nc)) (C := RM) (T := TM) (N := 17) hx hb hts (fun w9 h9 => List.mem_cons_of_mem _ (inM w9 h9)) hown hK hP 0 rfl rfl 6 (by decide) (hts _ (List.mem_cons_of_mem _ flM_53)) (fun _ h9 => h9) rfl dM_close_45 ?_
      refine xi_iconst hx hb dM_close_48 ?_
      refine xi_add (z := nc + 1) hx hb dM_close_49 rfl ?_
      refine va_put (D := (dC, dI)) (ci := 3) (v := .int (iI (nc + 1))) (ty := .int) (C := RM) (T := TM) (N := 17) hx hb hts (fun w9 h9 => List.mem_cons_of_mem _ (inM w9 h9)) tyM tyM_ok nmM hown hK hP hD hS 0 rfl rfl 6 (by decide) (hts _ (List.mem_cons_of_mem _ flM_53)) (fun _ h9 => h9) rfl (by decide +kernel) rfl rfl (Nat.le_of_ble_eq_true rfl) dM_close_50 (fun H locs hP hD hS => ?_)
      have hP : va_P (dC, dI) vwCl (mW ad cs fc par np (nc + 1) rs npc hi lo X Y O (up E nc np) RX RY RO PC CV) H := hP
      have hD : va_D A (mW ad cs fc par np (nc + 1) rs npc hi lo X Y O (up E nc np) RX RY RO PC CV) := hD
      refine lv_aload_n hx hb dM_close_53 rfl (lv_at hl 0 rfl) ?_
      refine va_get (D := (dC, dI)) (ci := 3) (v := .int (iI (nc + 1))) (C := RM) (T := TM) (N := 17) hx hb hts (fun w9 h9 => List.mem_cons_of_mem _ (inM w9 h9)) hown hK hP 0 rfl rfl 6 (by decide) (hts _ (List.mem_cons_of_mem _ flM_53)) (fun _ h9 => h9) rfl dM_close_54 ?_
      subst hQ
      exact W.iret (v := (iI (nc + 1))) hx hb hr (fun t9 ht9 hW9 => ⟨⟨_, (fc, nc + 1, up E nc np), rfl, (⟨hfc, fun _ => ⟨rfl, rfl⟩, fun h => absurd (show fC np nc E = 0 by have := of_decide_eq_false c_25; omega) h⟩), by rw [ht9]; exact hP, va_K.moved hW9.alike hK, hD⟩, hS.F ht9⟩) hS.2.2 dM_close_57
    · skip
      refine xi_iconst hx hb dM_close_28 ?_
      subst hQ
      exact W.iret (v := (iI 0)) hx hb hr (fun t9 ht9 hW9 => ⟨⟨_, (fc, nc, E), rfl, (⟨hfc, fun h => absurd h (by have := of_decide_eq_true c_25; omega), fun _ => rfl⟩), by rw [ht9]; exact hP, va_K.moved hW9.alike hK, hD⟩, hS.F ht9⟩) hS.2.2 dM_close_29
  refine lv_aload_n hx hb dM_close_1 rfl (lv_at hl 0 rfl) ?_
  refine vp_callSi (W.runV (As := []) (rest := [.ref (ad 0)]) ⟨hx, hb, hml, hown, hts⟩ (m_opened l dC dI ad cs ft par np nc rs npc hi lo X Y O E RX RY RO PC CV h1) (cwV 0 hts (tb_V mlM_64 imM_open seM_open iniM coM_open) rfl rfl rfl (by decide +kernel) (by subst hR; exact ⟨Nat.le_of_ble_eq_true rfl, Nat.le_of_ble_eq_true rfl⟩)) ⟨fun a9 U9 g9 mk9 q9 => by obtain ⟨q0, qP, qK⟩ := q9; exact ⟨q0, qP, va_K.moved (u := U9) (U := U9.calling g9 mk9 a9) (Vm.Alike.refl U9.vm) qK⟩, va_recv hK hP (ci := 3) (q0 := 0) rfl rfl, fun U hU hW => ⟨rfl, by rw [hU]; exact hP, va_K.moved hW.alike hK⟩⟩ rfl rfl hl.1 rfl (lv_room (Nat.le_of_ble_eq_true rfl)) dM_close_2 ⟨by subst hR; exact Nat.zero_le _, by subst hR; exact Nat.zero_le _⟩) (fun r_2 hw_2 => ?_)
  subst hw_2
  refine xi_if_eq (tgt := 17) hx hb dM_close_5 (by decide) (by omega) (fun c_5 => ?_) (fun c_5 => ?_)
  · skip
    refine xi_iconst hx hb dM_close_17 ?_
    refine lv_goto (tgt := 22) hx hb dM_close_18 (by decide) ?_
    exact cut_22_1 1 _ (by unfold fC; rw [if_pos (by omega)]) (lv_sub hl [0] rfl)
  · skip
    refine lv_aload_n hx hb dM_close_8 rfl (lv_at hl 0 rfl) ?_
    refine va_get (D := (dC, dI)) (ci := 3) (v := .int (iI nc)) (C := RM) (T := TM) (N := 17) hx hb hts (fun w9 h9 => List.mem_cons_of_mem _ (inM w9 h9)) hown hK hP 0 rfl rfl 6 (by decide) (hts _ (List.mem_cons_of_mem _ flM_53)) (fun _ h9 => h9) rfl dM_close_9 ?_
    refine lv_bipush (v := iI 64) hx hb dM_close_12 (by decide +kernel) ?_
    refine xi_icmp_ne (tgt := 21) hx hb dM_close_14 (by decide) (by omega) (by omega) (fun c_14 => ?_) (fun c_14 => ?_)
    · skip
      refine xi_iconst hx hb dM_close_21 ?_
      exact cut_22_1 0 _ (by unfold fC; rw [if_neg (by omega)]) (lv_sub hl [0] rfl)
    · skip
      refine xi_iconst hx hb dM_close_17 ?_
      refine lv_goto (tgt := 22) hx hb dM_close_18 (by decide) ?_
      exact cut_22_1 1 _ (by unfold fC; rw [if_pos (by omega)]) (lv_sub hl [0] rfl)
set_option maxHeartbeats 4000000 in
set_option maxRecDepth 100000 in
/-- drop -/
theorem m_drop (l : Launch) (dC : Nat → ClassId) (dI : Nat → Nat → Nat) (ad : Nat → Nat) (cs : Nat → ClassId) (sz : Nat) (ft : Int) (par : Bool) (np nc rs npc hi lo : Int) (X Y : Int → Int) (O : Int → Bool) (E RX RY : Int → Int) (RO : Int → Bool) (PC : Int → Int) (CV : Int → Bool) (h1 : 0 ≤ nc ∧ nc ≤ 64) : Met l yM_drop wM_drop ({ frames := 2, cells := 0, slots := 0, locals := 40 }) (va_Pc [.ref (ad 0)] (fun U => U.heap.size = sz ∧ va_P (dC, dI) vwCl (mW ad cs ft par np nc rs npc hi lo X Y O E RX RY RO PC CV) U.heap ∧ va_K (dC, dI) vwCl (mT cs) U ∧ va_D (fun _ => True) (mW ad cs ft par np nc rs npc hi lo X Y O E RX RY RO PC CV))) (va_Qi (fun (r : Int32) (u : Unit) => r = iI (np - clo nc E) ∧ True) (fun (u : Unit) t9 => va_P (dC, dI) vwCl (mW ad cs 0 par (clo nc E) nc rs npc hi lo X Y O E RX RY RO PC CV) t9.heap ∧ va_K (dC, dI) vwCl (mT cs) t9 ∧ va_D (va_A (mW ad cs ft par np nc rs npc hi lo X Y O E RX RY RO PC CV) sz) (mW ad cs 0 par (clo nc E) nc rs npc hi lo X Y O E RX RY RO PC CV)) (va_A (mW ad cs ft par np nc rs npc hi lo X Y O E RX RY RO PC CV) sz)) 0 0 (va_A (mW ad cs ft par np nc rs npc hi lo X Y O E RX RY RO PC CV) sz) := by
  refine Met.ofW (cc := cM_drop) (maxL := 2) (ret := (some .int)) (by decide) rfl ?_
  intro p e s m args below meth c s₁ B hml hv
  obtain ⟨hargs, hsz, hP, hK, hD0⟩ := hv
  have hx := B.exec
  have hb := B.bytes
  have hr := B.returns
  have hts := atoms_spec (ws := wM_drop) B.pre
  have hown : s.vm.findClass RM = some m.cls := findClass_of_methodNamed B.named
  have hlocks := B.notSynchronized
  subst hsz
  have hD := hD0.self (sz := s.heap.size)
  generalize hAe : va_A (mW ad cs ft par np nc rs npc hi lo X Y O E RX RY RO PC CV) s.heap.size = A at hD ⊢
  have hA : ∀ q : Nat, s.heap.size ≤ q → A q := fun q h => by rw [← hAe]; exact Or.inr h
  have hS0 : va_S A s.heap s.heap [] := va_S.rf
  refine x_name (fun R Q H locs hR hQ hH hlo => ?_)
  rw [← hH] at hP
  have hS : va_S A s.heap H locs := by rw [hH, hlo]; exact hS0
  refine x_entry hargs (Nat.le_of_ble_eq_true rfl) (fun ls hl => ?_)
  have hl : lv_has ls 2 [(0, .ref (ad 0))] := hl
  have hP : va_P (dC, dI) vwCl (mW ad cs ft par np nc rs npc hi lo X Y O E RX RY RO PC CV) H := hP
  refine lv_aload_n hx hb dM_drop_0 rfl (lv_at hl 0 rfl) ?_
  refine xi_iconst hx hb dM_drop_1 ?_
  refine va_put (D := (dC, dI)) (ci := 3) (v := .int (iI 0)) (ty := .int) (C := RM) (T := TM) (N := 17) hx hb hts (fun w9 h9 => List.mem_cons_of_mem _ (inM w9 h9)) tyM tyM_ok nmM hown hK hP hD hS 0 rfl rfl 0 (by decide) (hts _ (List.mem_cons_of_mem _ flM_38)) (fun _ h9 => h9) rfl (by decide +kernel) rfl rfl (Nat.le_of_ble_eq_true rfl) dM_drop_2 (fun H locs hP hD hS => ?_)
  have hP : va_P (dC, dI) vwCl (mW ad cs 0 par np nc rs npc hi lo X Y O E RX RY RO PC CV) H := hP
  have hD : va_D A (mW ad cs 0 par np nc rs npc hi lo X Y O E RX RY RO PC CV) := hD
  refine lv_aload_n hx hb dM_drop_5 rfl (lv_at hl 0 rfl) ?_
  refine vp_callSi (W.runV (As := []) (rest := []) ⟨hx, hb, hml, hown, hts⟩ (m_opened l dC dI ad cs 0 par np nc rs npc hi lo X Y O E RX RY RO PC CV h1) (cwV 0 hts (tb_V mlM_64 imM_open seM_open iniM coM_open) rfl rfl rfl (by decide +kernel) (by subst hR; exact ⟨Nat.le_of_ble_eq_true rfl, Nat.le_of_ble_eq_true rfl⟩)) ⟨fun a9 U9 g9 mk9 q9 => by obtain ⟨q0, qP, qK⟩ := q9; exact ⟨q0, qP, va_K.moved (u := U9) (U := U9.calling g9 mk9 a9) (Vm.Alike.refl U9.vm) qK⟩, va_recv hK hP (ci := 3) (q0 := 0) rfl rfl, fun U hU hW => ⟨rfl, by rw [hU]; exact hP, va_K.moved hW.alike hK⟩⟩ rfl rfl hl.1 rfl (lv_room (Nat.le_of_ble_eq_true rfl)) dM_drop_6 ⟨by subst hR; exact Nat.zero_le _, by subst hR; exact Nat.zero_le _⟩) (fun r_6 hw_6 => ?_)
  subst hw_6
  refine lv_istore_n (lv' := [(1, .int (iI (np - clo nc E))), (0, .ref (ad 0))]) hx hb dM_drop_9 rfl hl (by decide) rfl (fun ls hl => ?_)
  refine lv_aload_n hx hb dM_drop_10 rfl (lv_at hl 1 rfl) ?_
  refine lv_aload_n hx hb dM_drop_11 rfl (lv_at hl 1 rfl) ?_
  refine vp_callSi (W.runV (As := []) (rest := [.ref (ad 0)]) ⟨hx, hb, hml, hown, hts⟩ (m_closed l dC dI ad cs 0 par np nc rs npc hi lo X Y O E RX RY RO PC CV h1) (cwV 0 hts (tb_V mlM_49 imM_closed seM_closed iniM coM_closed) rfl rfl rfl (by decide +kernel) (by subst hR; exact ⟨Nat.le_of_ble_eq_true rfl, Nat.le_of_ble_eq_true rfl⟩)) ⟨fun a9 U9 g9 mk9 q9 => by obtain ⟨q0, qP, qK⟩ := q9; exact ⟨q0, qP, va_K.moved (u := U9) (U := U9.calling g9 mk9 a9) (Vm.Alike.refl U9.vm) qK⟩, va_recv hK hP (ci := 3) (q0 := 0) rfl rfl, fun U hU hW => ⟨rfl, by rw [hU]; exact hP, va_K.moved hW.alike hK⟩⟩ rfl rfl hl.1 rfl (lv_room (Nat.le_of_ble_eq_true rfl)) dM_drop_12 ⟨by subst hR; exact Nat.zero_le _, by subst hR; exact Nat.zero_le _⟩) (fun r_12 hw_12 => ?_)
  subst hw_12
  refine va_put (D := (dC, dI)) (ci := 3) (v := .int (iI (clo nc E))) (ty := .int) (C := RM) (T := TM) (N := 17) hx hb hts (fun w9 h9 => List.mem_cons_of_mem _ (inM w9 h9)) tyM tyM_ok nmM hown hK hP hD hS 0 rfl rfl 2 (by decide) (hts _ (List.mem_cons_of_mem _ flM_46)) (fun _ h9 => h9) rfl (by decide +kernel) rfl rfl (Nat.le_of_ble_eq_true rfl) dM_drop_15 (fun H locs hP hD hS => ?_)
  have hP : va_P (dC, dI) vwCl (mW ad cs 0 par (clo nc E) nc rs npc hi lo X Y O E RX RY RO PC CV) H := hP
  have hD : va_D A (mW ad cs 0 par (clo nc E) nc rs npc hi lo X Y O E RX RY RO PC CV) := hD
  refine lv_iload_n hx hb dM_drop_18 rfl (lv_at hl 0 rfl) ?_
  subst hQ
  exact W.iret (v := (iI (np - clo nc E))) hx hb hr (fun t9 ht9 hW9 => ⟨⟨_, (), rfl, (⟨rfl, trivial⟩), by rw [ht9]; exact hP, va_K.moved hW9.alike hK, hD⟩, hS.F ht9⟩) hS.2.2 dM_drop_19
set_option maxHeartbeats 4000000 in
set_option maxRecDepth 100000 in
/-- clear -/
theorem m_clear (l : Launch) (dC : Nat → ClassId) (dI : Nat → Nat → Nat) (ad : Nat → Nat) (cs : Nat → ClassId) (sz : Nat) (ft : Int) (par : Bool) (np nc rs npc hi lo : Int) (X Y : Int → Int) (O : Int → Bool) (E RX RY : Int → Int) (RO : Int → Bool) (PC : Int → Int) (CV : Int → Bool) : Met l yM_clear wM_clear ({ frames := 0, cells := 0, slots := 0, locals := 0 }) (va_Pc [.ref (ad 0)] (fun U => U.heap.size = sz ∧ va_P (dC, dI) vwCl (mW ad cs ft par np nc rs npc hi lo X Y O E RX RY RO PC CV) U.heap ∧ va_K (dC, dI) vwCl (mT cs) U ∧ va_D (fun _ => True) (mW ad cs ft par np nc rs npc hi lo X Y O E RX RY RO PC CV))) (va_Qi (fun (r : Int32) (u : Unit) => r = iI nc ∧ True) (fun (u : Unit) t9 => va_P (dC, dI) vwCl (mW ad cs 0 par 0 0 rs npc hi lo X Y O E RX RY RO PC CV) t9.heap ∧ va_K (dC, dI) vwCl (mT cs) t9 ∧ va_D (va_A (mW ad cs ft par np nc rs npc hi lo X Y O E RX RY RO PC CV) sz) (mW ad cs 0 par 0 0 rs npc hi lo X Y O E RX RY RO PC CV)) (va_A (mW ad cs ft par np nc rs npc hi lo X Y O E RX RY RO PC CV) sz)) 0 0 (va_A (mW ad cs ft par np nc rs npc hi lo X Y O E RX RY RO PC CV) sz) := by
  refine Met.ofW (cc := cM_clear) (maxL := 2) (ret := (some .int)) (by decide) rfl ?_
  intro p e s m args below meth c s₁ B hml hv
  obtain ⟨hargs, hsz, hP, hK, hD0⟩ := hv
  have hx := B.exec
  have hb := B.bytes
  have hr := B.returns
  have hts := atoms_spec (ws := wM_clear) B.pre
  have hown : s.vm.findClass RM = some m.cls := findClass_of_methodNamed B.named
  have hlocks := B.notSynchronized
  subst hsz
  have hD := hD0.self (sz := s.heap.size)
  generalize hAe : va_A (mW ad cs ft par np nc rs npc hi lo X Y O E RX RY RO PC CV) s.heap.size = A at hD ⊢
  have hA : ∀ q : Nat, s.heap.size ≤ q → A q := fun q h => by rw [← hAe]; exact Or.inr h
  have hS0 : va_S A s.heap s.heap [] := va_S.rf
  refine x_name (fun R Q H locs hR hQ hH hlo => ?_)
  rw [← hH] at hP
  have hS : va_S A s.heap H locs := by rw [hH, hlo]; exact hS0
  refine x_entry hargs (Nat.le_of_ble_eq_true rfl) (fun ls hl => ?_)
  have hl : lv_has ls 2 [(0, .ref (ad 0))] := hl
  have hP : va_P (dC, dI) vwCl (mW ad cs ft par np nc rs npc hi lo X Y O E RX RY RO PC CV) H := hP
  refine lv_aload_n hx hb dM_clear_0 rfl (lv_at hl 0 rfl) ?_
  refine xi_iconst hx hb dM_clear_1 ?_
  refine va_put (D := (dC, dI)) (ci := 3) (v := .int (iI 0)) (ty := .int) (C := RM) (T := TM) (N := 17) hx hb hts (fun w9 h9 => List.mem_cons_of_mem _ (inM w9 h9)) tyM tyM_ok nmM hown hK hP hD hS 0 rfl rfl 0 (by decide) (hts _ (List.mem_cons_of_mem _ flM_38)) (fun _ h9 => h9) rfl (by decide +kernel) rfl rfl (Nat.le_of_ble_eq_true rfl) dM_clear_2 (fun H locs hP hD hS => ?_)
  have hP : va_P (dC, dI) vwCl (mW ad cs 0 par np nc rs npc hi lo X Y O E RX RY RO PC CV) H := hP
  have hD : va_D A (mW ad cs 0 par np nc rs npc hi lo X Y O E RX RY RO PC CV) := hD
  refine lv_aload_n hx hb dM_clear_5 rfl (lv_at hl 0 rfl) ?_
  refine va_get (D := (dC, dI)) (ci := 3) (v := .int (iI nc)) (C := RM) (T := TM) (N := 17) hx hb hts (fun w9 h9 => List.mem_cons_of_mem _ (inM w9 h9)) hown hK hP 0 rfl rfl 6 (by decide) (hts _ (List.mem_cons_of_mem _ flM_53)) (fun _ h9 => h9) rfl dM_clear_6 ?_
  refine lv_istore_n (lv' := [(1, .int (iI nc)), (0, .ref (ad 0))]) hx hb dM_clear_9 rfl hl (by decide) rfl (fun ls hl => ?_)
  refine lv_aload_n hx hb dM_clear_10 rfl (lv_at hl 1 rfl) ?_
  refine xi_iconst hx hb dM_clear_11 ?_
  refine va_put (D := (dC, dI)) (ci := 3) (v := .int (iI 0)) (ty := .int) (C := RM) (T := TM) (N := 17) hx hb hts (fun w9 h9 => List.mem_cons_of_mem _ (inM w9 h9)) tyM tyM_ok nmM hown hK hP hD hS 0 rfl rfl 6 (by decide) (hts _ (List.mem_cons_of_mem _ flM_53)) (fun _ h9 => h9) rfl (by decide +kernel) rfl rfl (Nat.le_of_ble_eq_true rfl) dM_clear_12 (fun H locs hP hD hS => ?_)
  have hP : va_P (dC, dI) vwCl (mW ad cs 0 par np 0 rs npc hi lo X Y O E RX RY RO PC CV) H := hP
  have hD : va_D A (mW ad cs 0 par np 0 rs npc hi lo X Y O E RX RY RO PC CV) := hD
  refine lv_aload_n hx hb dM_clear_15 rfl (lv_at hl 1 rfl) ?_
  refine xi_iconst hx hb dM_clear_16 ?_
  refine va_put (D := (dC, dI)) (ci := 3) (v := .int (iI 0)) (ty := .int) (C := RM) (T := TM) (N := 17) hx hb hts (fun w9 h9 => List.mem_cons_of_mem _ (inM w9 h9)) tyM tyM_ok nmM hown hK hP hD hS 0 rfl rfl 2 (by decide) (hts _ (List.mem_cons_of_mem _ flM_46)) (fun _ h9 => h9) rfl (by decide +kernel) rfl rfl (Nat.le_of_ble_eq_true rfl) dM_clear_17 (fun H locs hP hD hS => ?_)
  have hP : va_P (dC, dI) vwCl (mW ad cs 0 par 0 0 rs npc hi lo X Y O E RX RY RO PC CV) H := hP
  have hD : va_D A (mW ad cs 0 par 0 0 rs npc hi lo X Y O E RX RY RO PC CV) := hD
  refine lv_iload_n hx hb dM_clear_20 rfl (lv_at hl 0 rfl) ?_
  subst hQ
  exact W.iret (v := (iI nc)) hx hb hr (fun t9 ht9 hW9 => ⟨⟨_, (), rfl, (⟨rfl, trivial⟩), by rw [ht9]; exact hP, va_K.moved hW9.alike hK, hD⟩, hS.F ht9⟩) hS.2.2 dM_clear_21
set_option maxHeartbeats 4000000 in
set_option maxRecDepth 100000 in
/-- parity -/
theorem m_parity (l : Launch) (dC : Nat → ClassId) (dI : Nat → Nat → Nat) (ad : Nat → Nat) (cs : Nat → ClassId) (sz : Nat) (ft : Int) (par : Bool) (np nc rs npc hi lo : Int) (X Y : Int → Int) (O : Int → Bool) (E RX RY : Int → Int) (RO : Int → Bool) (PC : Int → Int) (CV : Int → Bool) (is : Bool) : Met l yM_parity wM_parity ({ frames := 0, cells := 0, slots := 0, locals := 0 }) (va_Pc [.ref (ad 0), .int (iI (bz is))] (fun U => U.heap.size = sz ∧ va_P (dC, dI) vwCl (mW ad cs ft par np nc rs npc hi lo X Y O E RX RY RO PC CV) U.heap ∧ va_K (dC, dI) vwCl (mT cs) U ∧ va_D (fun _ => True) (mW ad cs ft par np nc rs npc hi lo X Y O E RX RY RO PC CV))) (va_Qi (fun (r : Int32) (u : Unit) => r = iI (bz par) ∧ True) (fun (u : Unit) t9 => va_P (dC, dI) vwCl (mW ad cs 0 is np nc rs npc hi lo X Y O E RX RY RO PC CV) t9.heap ∧ va_K (dC, dI) vwCl (mT cs) t9 ∧ va_D (va_A (mW ad cs ft par np nc rs npc hi lo X Y O E RX RY RO PC CV) sz) (mW ad cs 0 is np nc rs npc hi lo X Y O E RX RY RO PC CV)) (va_A (mW ad cs ft par np nc rs npc hi lo X Y O E RX RY RO PC CV) sz)) 0 0 (va_A (mW ad cs ft par np nc rs npc hi lo X Y O E RX RY RO PC CV) sz) := by
  refine Met.ofW (cc := cM_parity) (maxL := 3) (ret := (some .boolean)) (by decide) rfl ?_
  intro p e s m args below meth c s₁ B hml hv
  obtain ⟨hargs, hsz, hP, hK, hD0⟩ := hv
  have hx := B.exec
  have hb := B.bytes
  have hr := B.returns
  have hts := atoms_spec (ws := wM_parity) B.pre
  have hown : s.vm.findClass RM = some m.cls := findClass_of_methodNamed B.named
  have hlocks := B.notSynchronized
  subst hsz
  have hD := hD0.self (sz := s.heap.size)
  generalize hAe : va_A (mW ad cs ft par np nc rs npc hi lo X Y O E RX RY RO PC CV) s.heap.size = A at hD ⊢
  have hA : ∀ q : Nat, s.heap.size ≤ q → A q := fun q h => by rw [← hAe]; exact Or.inr h
  have hS0 : va_S A s.heap s.heap [] := va_S.rf
  refine x_name (fun R Q H locs hR hQ hH hlo => ?_)
  rw [← hH] at hP
  have hS : va_S A s.heap H locs := by rw [hH, hlo]; exact hS0
  refine x_entry hargs (Nat.le_of_ble_eq_true rfl) (fun ls hl => ?_)
  have hl : lv_has ls 3 [(0, .ref (ad 0)), (1, .int (iI (bz is)))] := hl
  have hP : va_P (dC, dI) vwCl (mW ad cs ft par np nc rs npc hi lo X Y O E RX RY RO PC CV) H := hP
  refine lv_aload_n hx hb dM_parity_0 rfl (lv_at hl 0 rfl) ?_
  refine xi_iconst hx hb dM_parity_1 ?_
  refine va_put (D := (dC, dI)) (ci := 3) (v := .int (iI 0)) (ty := .int) (C := RM) (T := TM) (N := 17) hx hb hts (fun w9 h9 => List.mem_cons_of_mem _ (inM w9 h9)) tyM tyM_ok nmM hown hK hP hD hS 0 rfl rfl 0 (by decide) (hts _ (List.mem_cons_of_mem _ flM_38)) (fun _ h9 => h9) rfl (by decide +kernel) rfl rfl (Nat.le_of_ble_eq_true rfl) dM_parity_2 (fun H locs hP hD hS => ?_)
  have hP : va_P (dC, dI) vwCl (mW ad cs 0 par np nc rs npc hi lo X Y O E RX RY RO PC CV) H := hP
  have hD : va_D A (mW ad cs 0 par np nc rs npc hi lo X Y O E RX RY RO PC CV) := hD
  refine lv_aload_n hx hb dM_parity_5 rfl (lv_at hl 0 rfl) ?_
  refine va_get (D := (dC, dI)) (ci := 3) (v := .int (iI (bz par))) (C := RM) (T := TM) (N := 17) hx hb hts (fun w9 h9 => List.mem_cons_of_mem _ (inM w9 h9)) hown hK hP 0 rfl rfl 1 (by decide) (hts _ (List.mem_cons_of_mem _ flM_67)) (fun _ h9 => h9) rfl dM_parity_6 ?_
  refine lv_istore_n (lv' := [(2, .int (iI (bz par))), (0, .ref (ad 0)), (1, .int (iI (bz is)))]) hx hb dM_parity_9 rfl hl (by decide) rfl (fun ls hl => ?_)
  refine lv_aload_n hx hb dM_parity_10 rfl (lv_at hl 1 rfl) ?_
  refine lv_iload_n hx hb dM_parity_11 rfl (lv_at hl 2 rfl) ?_
  refine va_put (D := (dC, dI)) (ci := 3) (v := .int (iI (bz is))) (ty := .boolean) (C := RM) (T := TM) (N := 17) hx hb hts (fun w9 h9 => List.mem_cons_of_mem _ (inM w9 h9)) tyM tyM_ok nmM hown hK hP hD hS 0 rfl rfl 1 (by decide) (hts _ (List.mem_cons_of_mem _ flM_67)) (fun _ h9 => h9) rfl (by decide +kernel) (xi_narZ2 _) (xi_fitZ _) (Nat.le_of_ble_eq_true rfl) dM_parity_12 (fun H locs hP hD hS => ?_)
  have hP : va_P (dC, dI) vwCl (mW ad cs 0 is np nc rs npc hi lo X Y O E RX RY RO PC CV) H := hP
  have hD : va_D A (mW ad cs 0 is np nc rs npc hi lo X Y O E RX RY RO PC CV) := hD
  refine lv_iload_n hx hb dM_parity_15 rfl (lv_at hl 0 rfl) ?_
  subst hQ
  exact W.zret (v := (iI (bz par))) hx hb hr (xi_narZ2 _) (fun t9 ht9 hW9 => ⟨⟨_, (), rfl, (⟨rfl, trivial⟩), by rw [ht9]; exact hP, va_K.moved hW9.alike hK, hD⟩, hS.F ht9⟩) hS.2.2 dM_parity_16
set_option maxHeartbeats 4000000 in
set_option maxRecDepth 100000 in
/-- move -/
theorem m_move (l : Launch) (dC : Nat → ClassId) (dI : Nat → Nat → Nat) (ad : Nat → Nat) (cs : Nat → ClassId) (sz : Nat) (ft : Int) (par : Bool) (np nc rs npc hi lo : Int) (X Y : Int → Int) (O : Int → Bool) (E RX RY : Int → Int) (RO : Int → Bool) (PC : Int → Int) (CV : Int → Bool) (dx dy : Int) (h2 : 0 ≤ np ∧ np ≤ 512) (h3 : ∀ k : Int, 0 ≤ k → k < np → (-8192 ≤ X k ∧ X k ≤ 8191) ∧ (-8192 ≤ Y k ∧ Y k ≤ 8191)) (hx0 : -2147483648 ≤ dx ∧ dx ≤ 2147483647) (hy0 : -2147483648 ≤ dy ∧ dy ≤ 2147483647) : Met l yM_move wM_move ({ frames := 1, cells := 0, slots := 0, locals := 21 }) (va_Pc [.ref (ad 0), .int (iI dx), .int (iI dy)] (fun U => U.heap.size = sz ∧ va_P (dC, dI) vwCl (mW ad cs ft par np nc rs npc hi lo X Y O E RX RY RO PC CV) U.heap ∧ va_K (dC, dI) vwCl (mT cs) U ∧ va_D (fun _ => True) (mW ad cs ft par np nc rs npc hi lo X Y O E RX RY RO PC CV))) (va_Qv (fun (u : Int × (Int → Int) × (Int → Int)) => u.1 = fM X Y dx dy np ∧ (fM X Y dx dy np = 0 → u.2 = (mvF X dx np, mvF Y dy np)) ∧ (fM X Y dx dy np ≠ 0 → u.2 = (X, Y))) (fun (u : Int × (Int → Int) × (Int → Int)) t9 => va_P (dC, dI) vwCl (mW ad cs u.1 par np nc rs npc hi lo u.2.1 u.2.2 O E RX RY RO PC CV) t9.heap ∧ va_K (dC, dI) vwCl (mT cs) t9 ∧ va_D (va_A (mW ad cs ft par np nc rs npc hi lo X Y O E RX RY RO PC CV) sz) (mW ad cs u.1 par np nc rs npc hi lo u.2.1 u.2.2 O E RX RY RO PC CV)) (va_A (mW ad cs ft par np nc rs npc hi lo X Y O E RX RY RO PC CV) sz)) 0 0 (va_A (mW ad cs ft par np nc rs npc hi lo X Y O E RX RY RO PC CV) sz) := by
  refine Met.ofW (cc := cM_move) (maxL := 5) (ret := none) (by decide) rfl ?_
  intro p e s m args below meth c s₁ B hml hv
  obtain ⟨hargs, hsz, hP, hK, hD0⟩ := hv
  have hx := B.exec
  have hb := B.bytes
  have hr := B.returns
  have hts := atoms_spec (ws := wM_move) B.pre
  have hown : s.vm.findClass RM = some m.cls := findClass_of_methodNamed B.named
  have hlocks := B.notSynchronized
  subst hsz
  have hD := hD0.self (sz := s.heap.size)
  generalize hAe : va_A (mW ad cs ft par np nc rs npc hi lo X Y O E RX RY RO PC CV) s.heap.size = A at hD ⊢
  have hA : ∀ q : Nat, s.heap.size ≤ q → A q := fun q h => by rw [← hAe]; exact Or.inr h
  have hS0 : va_S A s.heap s.heap [] := va_S.rf
  refine x_name (fun R Q H locs hR hQ hH hlo => ?_)
  rw [← hH] at hP
  have hS : va_S A s.heap H locs := by rw [hH, hlo]; exact hS0
  refine x_entry hargs (Nat.le_of_ble_eq_true rfl) (fun ls hl => ?_)
  have hl : lv_has ls 5 [(0, .ref (ad 0)), (1, .int (iI dx)), (2, .int (iI dy))] := hl
  have hP : va_P (dC, dI) vwCl (mW ad cs ft par np nc rs npc hi lo X Y O E RX RY RO PC CV) H := hP
  refine xi_iconst hx hb dM_move_0 ?_
  refine lv_istore_n (lv' := [(3, .int (iI 1)), (0, .ref (ad 0)), (1, .int (iI dx)), (2, .int (iI dy))]) hx hb dM_move_1 rfl hl (by decide) rfl (fun ls hl => ?_)
  refine xi_iconst hx hb dM_move_2 ?_
  refine lv_istore (lv' := [(4, .int (iI 0)), (3, .int (iI 1)), (0, .ref (ad 0)), (1, .int (iI dx)), (2, .int (iI dy))]) hx hb dM_move_3 hl (by decide) rfl (fun ls hl => ?_)
  have cut_5_1 : ∀ (fu_5 : Nat) (k : Int) (sn : Bool) (ls : Array Slot), ((np - k).toNat) < fu_5 → (0 ≤ k ∧ k ≤ np) → (sn = mvok X Y dx dy k.toNat) → lv_has ls 5 [(0, .ref (ad 0)), (1, .int (iI dx)), (2, .int (iI dy)), (3, .int (iI (bz sn))), (4, .int (iI k))] → W p l e R s m args below meth c H locs 0 0 Q (F0 m 5 ls []) := by
    intro fu_5
    induction fu_5 with
    | zero => intro _ _ _ hm; exact absurd hm (Nat.not_lt_zero _)
    | succ fu_5 ih_5 =>
      intro k sn ls hm i1 i2 hl
      refine lv_iload hx hb dM_move_5 (lv_at hl 4 rfl) ?_
      refine lv_aload_n hx hb dM_move_7 rfl (lv_at hl 0 rfl) ?_
      refine va_get (D := (dC, dI)) (ci := 3) (v := .int (iI np)) (C := RM) (T := TM) (N := 17) hx hb hts (fun w9 h9 => List.mem_cons_of_mem _ (inM w9 h9)) hown hK hP 0 rfl rfl 2 (by decide) (hts _ (List.mem_cons_of_mem _ flM_46)) (fun _ h9 => h9) rfl dM_move_8 ?_
      refine xi_icmp_ge (tgt := 64) hx hb dM_move_11 (by decide) (by omega) (by omega) (fun c_11 => ?_) (fun c_11 => ?_)
      · skip
        refine lv_aload_n hx hb dM_move_64 rfl (lv_at hl 0 rfl) ?_
        have cut_74_2 : ∀ (fc : Int) (ls : Array Slot), (fc = fM X Y dx dy np) → lv_has ls 5 [(0, .ref (ad 0)), (1, .int (iI dx)), (2, .int (iI dy)), (3, .int (iI (bz sn))), (4, .int (iI k))] → W p l e R s m args below meth c H locs 0 0 Q (F0 m 74 ls [.int (iI fc), .ref (ad 0)]) := by
          intro fc ls hfc hl
          have b5 : 0 ≤ fc ∧ fc ≤ 1 := by (rw [hfc]; unfold fM; split <;> omega)
          have hFc := xw_free hD hS hA
          refine va_calli (va_runV (As := [.int (iI fc)]) (rest := []) ⟨hx, hb, hml, hown, hts⟩ (m_refused l dC dI ad cs H.size ft par np nc rs npc hi lo X Y O E RX RY RO PC CV fc (by omega)) (cwV 1 hts (tb_V mlM_60 imM_refused seM_refused iniM coM_refused) rfl rfl rfl (by decide +kernel) (by subst hR; exact ⟨Nat.le_of_ble_eq_true rfl, Nat.le_of_ble_eq_true rfl⟩)) ⟨fun a9 U9 g9 mk9 q9 => by obtain ⟨q0, q1, qP, qK, qD⟩ := q9; exact ⟨q0, q1, qP, va_K.moved (u := U9) (U := U9.calling g9 mk9 a9) (Vm.Alike.refl U9.vm) qK, qD⟩, va_recv hK hP (ci := 3) (q0 := 0) rfl rfl, fun U hU hW => ⟨rfl, by rw [hU], by rw [hU]; exact hP, va_K.moved hW.alike hK, hD.weaken (fun _ _ _ _ => trivial)⟩⟩ rfl rfl hl.1 rfl (lv_room (Nat.le_of_ble_eq_true rfl)) dM_move_74 ⟨by subst hR; exact Nat.le_of_ble_eq_true rfl, by subst hR; exact Nat.le_of_ble_eq_true rfl⟩) hS (fun q9 _ h9 => hFc q9 h9) hFc (fun r_74 u_74 t9 H1 locs1 ht9 hvm9 hw_74 hB9 hz9 hk9 hS1 => ?_)
          obtain ⟨hP1, hK1, hD1⟩ := hB9
          rw [ht9] at hP1
          have hP : va_P (dC, dI) vwCl (mW ad cs fc par np nc rs npc hi lo X Y O E RX RY RO PC CV) H1 := hP1
          have hD : va_D A (mW ad cs fc par np nc rs npc hi lo X Y O E RX RY RO PC CV) := hD1.weaken (fun _ _ _ h9 => hFc _ h9)
          clear hP1 hD1 hK1 hFc
          have hS := hS1
          clear hS1 hz9 hk9 ht9 hvm9
          revert hP hD hS; generalize H1 = H; generalize locs1 = locs; intro hP hD hS
          obtain ⟨hr_74, hw_74⟩ := hw_74; subst hr_74
          refine xb_if_eq (tgt := 81) hx hb dM_move_77 (by decide) (fun c_77 => ?_) (fun c_77 => ?_)
          · skip
            refine xi_iconst hx hb dM_move_81 ?_
            refine lv_istore (lv' := [(4, .int (iI 0)), (0, .ref (ad 0)), (1, .int (iI dx)), (2, .int (iI dy)), (3, .int (iI (bz sn)))]) hx hb dM_move_82 hl (by decide) rfl (fun ls hl => ?_)
            have cut_84_3 : ∀ (fu_84 : Nat) (k2 : Int) (H : Heap) (locs : List Loc) (ls : Array Slot), ((np - k2).toNat) < fu_84 → (0 ≤ k2 ∧ k2 ≤ np) → va_P (dC, dI) vwCl (mW ad cs fc par np nc rs npc hi lo (mvF X dx k2) (mvF Y dy k2) O E RX RY RO PC CV) H → va_D A (mW ad cs fc par np nc rs npc hi lo (mvF X dx k2) (mvF Y dy k2) O E RX RY RO PC CV) → va_S A s.heap H locs → lv_has ls 5 [(0, .ref (ad 0)), (1, .int (iI dx)), (2, .int (iI dy)), (4, .int (iI k2))] → W p l e R s m args below meth c H locs 0 0 Q (F0 m 84 ls []) := by
              intro fu_84
              induction fu_84 with
              | zero => intro _ _ _ _ hm; exact absurd hm (Nat.not_lt_zero _)
              | succ fu_84 ih_84 =>
                intro k2 H locs ls hm i3 hP hD hS hl
                refine lv_iload hx hb dM_move_84 (lv_at hl 3 rfl) ?_
                refine lv_aload_n hx hb dM_move_86 rfl (lv_at hl 0 rfl) ?_
                refine va_get (D := (dC, dI)) (ci := 3) (v := .int (iI np)) (C := RM) (T := TM) (N := 17) hx hb hts (fun w9 h9 => List.mem_cons_of_mem _ (inM w9 h9)) hown hK hP 0 rfl rfl 2 (by decide) (hts _ (List.mem_cons_of_mem _ flM_46)) (fun _ h9 => h9) rfl dM_move_87 ?_
                refine xi_icmp_ge (tgt := 131) hx hb dM_move_90 (by decide) (by omega) (by omega) (fun c_90 => ?_) (fun c_90 => ?_)
                · skip
                  rw [show k2 = np by omega] at hP hD
                  subst hQ
                  exact W.vret hx hb hr (fun t9 ht9 hW9 => ⟨⟨(fc, mvF X dx np, mvF Y dy np), rfl, (⟨hfc, fun _ => rfl, fun h => absurd (show fM X Y dx dy np = 0 by have := of_decide_eq_false c_77; omega) h⟩), by rw [ht9]; exact hP, va_K.moved hW9.alike hK, hD⟩, hS.F ht9⟩) hS.2.2 dM_move_131
                · skip
                  refine lv_aload_n hx hb dM_move_93 rfl (lv_at hl 0 rfl) ?_
                  refine va_get (D := (dC, dI)) (ci := 3) (v := .ref (ad 1)) (C := RM) (T := TM) (N := 17) hx hb hts (fun w9 h9 => List.mem_cons_of_mem _ (inM w9 h9)) hown hK hP 0 rfl rfl 3 (by decide) (hts _ (List.mem_cons_of_mem _ flM_7)) (fun _ h9 => h9) rfl dM_move_94 ?_
                  refine lv_iload hx hb dM_move_97 (lv_at hl 3 rfl) ?_
                  refine lv_aload_n hx hb dM_move_99 rfl (lv_at hl 0 rfl) ?_
                  refine va_get (D := (dC, dI)) (ci := 3) (v := .ref (ad 1)) (C := RM) (T := TM) (N := 17) hx hb hts (fun w9 h9 => List.mem_cons_of_mem _ (inM w9 h9)) hown hK hP 0 rfl rfl 3 (by decide) (hts _ (List.mem_cons_of_mem _ flM_7)) (fun _ h9 => h9) rfl dM_move_100 ?_
                  refine lv_iload hx hb dM_move_103 (lv_at hl 3 rfl) ?_
                  refine xa_iald hx hb hK hP 1 0 rfl rfl (by decide) (by omega) dM_move_105 ?_
                  refine lv_iload_n hx hb dM_move_106 rfl (lv_at hl 1 rfl) ?_
                  refine xi_add (z := ((mvF X dx k2) k2) + dx) hx hb dM_move_107 rfl ?_
                  refine xa_iast (z := k2) (v := ((mvF X dx k2) k2) + dx) hx hb hK hP hD hS 1 0 rfl rfl (by decide) (by omega) dM_move_108 (fun H locs hP hD hS => ?_)
                  rw [show up (mvF X dx k2) k2 (((mvF X dx k2) k2) + dx) = mvF X dx (k2 + 1) from (by first | exact mvF_s X dx i3.1 | rfl)] at hP hD
                  have hP : va_P (dC, dI) vwCl (mW ad cs fc par np nc rs npc hi lo (mvF X dx (k2 + 1)) (mvF Y dy k2) O E RX RY RO PC CV) H := hP
                  have hD : va_D A (mW ad cs fc par np nc rs npc hi lo (mvF X dx (k2 + 1)) (mvF Y dy k2) O E RX RY RO PC CV) := hD
                  refine lv_aload_n hx hb dM_move_109 rfl (lv_at hl 0 rfl) ?_
                  refine va_get (D := (dC, dI)) (ci := 3) (v := .ref (ad 2)) (C := RM) (T := TM) (N := 17) hx hb hts (fun w9 h9 => List.mem_cons_of_mem _ (inM w9 h9)) hown hK hP 0 rfl rfl 4 (by decide) (hts _ (List.mem_cons_of_mem _ flM_13)) (fun _ h9 => h9) rfl dM_move_110 ?_
                  refine lv_iload hx hb dM_move_113 (lv_at hl 3 rfl) ?_
                  refine lv_aload_n hx hb dM_move_115 rfl (lv_at hl 0 rfl) ?_
                  refine va_get (D := (dC, dI)) (ci := 3) (v := .ref (ad 2)) (C := RM) (T := TM) (N := 17) hx hb hts (fun w9 h9 => List.mem_cons_of_mem _ (inM w9 h9)) hown hK hP 0 rfl rfl 4 (by decide) (hts _ (List.mem_cons_of_mem _ flM_13)) (fun _ h9 => h9) rfl dM_move_116 ?_
                  refine lv_iload hx hb dM_move_119 (lv_at hl 3 rfl) ?_
                  refine xa_iald hx hb hK hP 2 1 rfl rfl (by decide) (by omega) dM_move_121 ?_
                  refine lv_iload_n hx hb dM_move_122 rfl (lv_at hl 2 rfl) ?_
                  refine xi_add (z := ((mvF Y dy k2) k2) + dy) hx hb dM_move_123 rfl ?_
                  refine xa_iast (z := k2) (v := ((mvF Y dy k2) k2) + dy) hx hb hK hP hD hS 2 1 rfl rfl (by decide) (by omega) dM_move_124 (fun H locs hP hD hS => ?_)
                  rw [show up (mvF Y dy k2) k2 (((mvF Y dy k2) k2) + dy) = mvF Y dy (k2 + 1) from (by first | exact mvF_s Y dy i3.1 | rfl)] at hP hD
                  have hP : va_P (dC, dI) vwCl (mW ad cs fc par np nc rs npc hi lo (mvF X dx (k2 + 1)) (mvF Y dy (k2 + 1)) O E RX RY RO PC CV) H := hP
                  have hD : va_D A (mW ad cs fc par np nc rs npc hi lo (mvF X dx (k2 + 1)) (mvF Y dy (k2 + 1)) O E RX RY RO PC CV) := hD
                  refine xi_iinc (z := k2 + 1) (lv' := [(4, .int (iI (k2 + 1))), (0, .ref (ad 0)), (1, .int (iI dx)), (2, .int (iI dy))]) hx hb dM_move_125 hl (k := 3) rfl rfl (by decide) rfl (fun ls hl => ?_)
                  refine lv_goto (tgt := 84) hx hb dM_move_128 (by decide) ?_
                  exact ih_84 (k2 + 1) _ _ _ (by omega) (by omega) hP hD hS (lv_sub hl [1, 2, 3, 0] rfl)
            have e1 := (mvF_0 X dx).symm
            have e2 := (mvF_0 Y dy).symm
            have hP : va_P (dC, dI) vwCl (mW ad cs fc par np nc rs npc hi lo (mvF X dx 0) (mvF Y dy 0) O E RX RY RO PC CV) H := by rw [mvF_0, mvF_0]; exact hP
            have hD : va_D A (mW ad cs fc par np nc rs npc hi lo (mvF X dx 0) (mvF Y dy 0) O E RX RY RO PC CV) := by rw [mvF_0, mvF_0]; exact hD
            exact cut_84_3 (((np - (0 : Int)).toNat) + 1) 0 _ _ _ (Nat.lt_succ_self _) (by omega) hP hD hS (lv_sub hl [1, 2, 3, 0] rfl)
          · skip
            subst hQ
            exact W.vret hx hb hr (fun t9 ht9 hW9 => ⟨⟨(fc, X, Y), rfl, (⟨hfc, fun h => absurd h (by have := of_decide_eq_true c_77; omega), fun _ => rfl⟩), by rw [ht9]; exact hP, va_K.moved hW9.alike hK, hD⟩, hS.F ht9⟩) hS.2.2 dM_move_80
        refine lv_iload_n hx hb dM_move_65 rfl (lv_at hl 3 rfl) ?_
        refine xb_if_eq (tgt := 73) hx hb dM_move_66 (by decide) (fun c_66 => ?_) (fun c_66 => ?_)
        · skip
          refine xi_iconst hx hb dM_move_73 ?_
          exact cut_74_2 1 _ (by unfold fM; rw [← show k = np by omega, ← i2, if_neg (by rw [c_66]; decide)]) (lv_sub hl [0, 1, 2, 3, 4] rfl)
        · skip
          refine xi_iconst hx hb dM_move_69 ?_
          refine lv_goto (tgt := 74) hx hb dM_move_70 (by decide) ?_
          exact cut_74_2 0 _ (by unfold fM; rw [← show k = np by omega, ← i2, if_pos c_66]) (lv_sub hl [0, 1, 2, 3, 4] rfl)
      · skip
        have cut_57_4 : ∀ (v : Bool) (ls : Array Slot), (v = mvok X Y dx dy (k + 1).toNat) → lv_has ls 5 [(0, .ref (ad 0)), (1, .int (iI dx)), (2, .int (iI dy)), (3, .int (iI (bz sn))), (4, .int (iI k))] → W p l e R s m args below meth c H locs 0 0 Q (F0 m 57 ls [.int (iI (bz v))]) := by
          intro v ls hv hl
          refine lv_istore_n (lv' := [(3, .int (iI (bz v))), (0, .ref (ad 0)), (1, .int (iI dx)), (2, .int (iI dy)), (4, .int (iI k))]) hx hb dM_move_57 rfl hl (by decide) rfl (fun ls hl => ?_)
          refine xi_iinc (z := k + 1) (lv' := [(4, .int (iI (k + 1))), (3, .int (iI (bz v))), (0, .ref (ad 0)), (1, .int (iI dx)), (2, .int (iI dy))]) hx hb dM_move_58 hl (k := 4) rfl rfl (by decide) rfl (fun ls hl => ?_)
          refine lv_goto (tgt := 5) hx hb dM_move_61 (by decide) ?_
          exact ih_5 (k + 1) v _ (by omega) (by omega) (hv) (lv_sub hl [2, 3, 4, 1, 0] rfl)
        have b1 := h3 k i1.1 (by omega)
        refine lv_iload_n hx hb dM_move_14 rfl (lv_at hl 3 rfl) ?_
        refine xb_if_eq (tgt := 56) hx hb dM_move_15 (by decide) (fun c_15 => ?_) (fun c_15 => ?_)
        · skip
          refine xi_iconst hx hb dM_move_56 ?_
          exact cut_57_4 false _ (by rw [mvok_s _ _ _ _ i1.1, ← i2, c_15]; rfl) (lv_sub hl [0, 1, 2, 3, 4] rfl)
        · skip
          refine lv_aload_n hx hb dM_move_18 rfl (lv_at hl 0 rfl) ?_
          refine va_get (D := (dC, dI)) (ci := 3) (v := .ref (ad 1)) (C := RM) (T := TM) (N := 17) hx hb hts (fun w9 h9 => List.mem_cons_of_mem _ (inM w9 h9)) hown hK hP 0 rfl rfl 3 (by decide) (hts _ (List.mem_cons_of_mem _ flM_7)) (fun _ h9 => h9) rfl dM_move_19 ?_
          refine lv_iload hx hb dM_move_22 (lv_at hl 4 rfl) ?_
          refine xa_iald hx hb hK hP 1 0 rfl rfl (by decide) (by omega) dM_move_24 ?_
          refine xl_i2l hx hb dM_move_25 (by omega) ?_
          refine lv_iload_n hx hb dM_move_26 rfl (lv_at hl 1 rfl) ?_
          refine xl_i2l hx hb dM_move_27 (by omega) ?_
          refine xl_add (z := (X k) + dx) hx hb dM_move_28 rfl ?_
          refine vp_callSi (W.runS (As := [.long (lI ((X k) + dx))]) (rest := []) ⟨hx, hb, hml, hown, hts⟩ (m_isCoordinate l dC dI (X k + dx) (by omega)) (va_cwS 1 hts (tb_S mlM_56 smM_isCoordinate iniM coM_isCoordinate) rfl rfl rfl (by decide +kernel) (by subst hR; exact ⟨Nat.le_of_ble_eq_true rfl, Nat.le_of_ble_eq_true rfl⟩)) ⟨fun a9 U9 g9 mk9 q9 => q9, fun U hU hW => ⟨rfl, trivial⟩⟩ rfl rfl hl.1 rfl (lv_room (Nat.le_of_ble_eq_true rfl)) dM_move_29 ⟨by subst hR; exact Nat.zero_le _, by subst hR; exact Nat.zero_le _⟩) (fun r_29 hw_29 => ?_)
          subst hw_29
          refine xb_if_eq (tgt := 56) hx hb dM_move_32 (by decide) (fun c_32 => ?_) (fun c_32 => ?_)
          · skip
            refine xi_iconst hx hb dM_move_56 ?_
            exact cut_57_4 false _ (by rw [mvok_s _ _ _ _ i1.1, decide_eq_false (fun h => absurd h.1 (of_decide_eq_false c_32)), Bool.and_false]) (lv_sub hl [0, 1, 2, 3, 4] rfl)
          · skip
            refine lv_aload_n hx hb dM_move_35 rfl (lv_at hl 0 rfl) ?_
            refine va_get (D := (dC, dI)) (ci := 3) (v := .ref (ad 2)) (C := RM) (T := TM) (N := 17) hx hb hts (fun w9 h9 => List.mem_cons_of_mem _ (inM w9 h9)) hown hK hP 0 rfl rfl 4 (by decide) (hts _ (List.mem_cons_of_mem _ flM_13)) (fun _ h9 => h9) rfl dM_move_36 ?_
            refine lv_iload hx hb dM_move_39 (lv_at hl 4 rfl) ?_
            refine xa_iald hx hb hK hP 2 1 rfl rfl (by decide) (by omega) dM_move_41 ?_
            refine xl_i2l hx hb dM_move_42 (by omega) ?_
            refine lv_iload_n hx hb dM_move_43 rfl (lv_at hl 2 rfl) ?_
            refine xl_i2l hx hb dM_move_44 (by omega) ?_
            refine xl_add (z := (Y k) + dy) hx hb dM_move_45 rfl ?_
            refine vp_callSi (W.runS (As := [.long (lI ((Y k) + dy))]) (rest := []) ⟨hx, hb, hml, hown, hts⟩ (m_isCoordinate l dC dI (Y k + dy) (by omega)) (va_cwS 1 hts (tb_S mlM_56 smM_isCoordinate iniM coM_isCoordinate) rfl rfl rfl (by decide +kernel) (by subst hR; exact ⟨Nat.le_of_ble_eq_true rfl, Nat.le_of_ble_eq_true rfl⟩)) ⟨fun a9 U9 g9 mk9 q9 => q9, fun U hU hW => ⟨rfl, trivial⟩⟩ rfl rfl hl.1 rfl (lv_room (Nat.le_of_ble_eq_true rfl)) dM_move_46 ⟨by subst hR; exact Nat.zero_le _, by subst hR; exact Nat.zero_le _⟩) (fun r_46 hw_46 => ?_)
            subst hw_46
            refine xb_if_eq (tgt := 56) hx hb dM_move_49 (by decide) (fun c_49 => ?_) (fun c_49 => ?_)
            · skip
              refine xi_iconst hx hb dM_move_56 ?_
              exact cut_57_4 false _ (by rw [mvok_s _ _ _ _ i1.1, decide_eq_false (fun h => absurd h.2 (of_decide_eq_false c_49)), Bool.and_false]) (lv_sub hl [0, 1, 2, 3, 4] rfl)
            · skip
              refine xi_iconst hx hb dM_move_52 ?_
              refine lv_goto (tgt := 57) hx hb dM_move_53 (by decide) ?_
              exact cut_57_4 true _ (by rw [mvok_s _ _ _ _ i1.1, ← i2, c_15, decide_eq_true ⟨of_decide_eq_true c_32, of_decide_eq_true c_49⟩]; rfl) (lv_sub hl [0, 1, 2, 3, 4] rfl)
  exact cut_5_1 (((np - (0 : Int)).toNat) + 1) 0 true _ (Nat.lt_succ_self _) (by omega) (rfl) (lv_sub hl [2, 3, 4, 1, 0] rfl)
set_option maxHeartbeats 4000000 in
set_option maxRecDepth 100000 in
/-- putRing -/
theorem m_putRing (l : Launch) (dC : Nat → ClassId) (dI : Nat → Nat → Nat) (ad : Nat → Nat) (cs : Nat → ClassId) (sz : Nat) (ft : Int) (par : Bool) (np nc rs npc hi lo : Int) (X Y : Int → Int) (O : Int → Bool) (E RX RY : Int → Int) (RO : Int → Bool) (PC : Int → Int) (CV : Int → Bool) (x y : Int) (on : Bool) (h1 : 0 ≤ rs ∧ rs < 1024) : Met l yM_putRing wM_putRing ({ frames := 0, cells := 0, slots := 0, locals := 0 }) (va_Pc [.ref (ad 0), .int (iI x), .int (iI y), .int (iI (bz on))] (fun U => U.heap.size = sz ∧ va_P (dC, dI) vwCl (mW ad cs ft par np nc rs npc hi lo X Y O E RX RY RO PC CV) U.heap ∧ va_K (dC, dI) vwCl (mT cs) U ∧ va_D (fun _ => True) (mW ad cs ft par np nc rs npc hi lo X Y O E RX RY RO PC CV))) (va_Qv (fun (u : Unit) => True) (fun (u : Unit) t9 => va_P (dC, dI) vwCl (mW ad cs ft par np nc (rs + 1) npc hi lo X Y O E (up RX rs x) (up RY rs y) (up RO rs on) PC CV) t9.heap ∧ va_K (dC, dI) vwCl (mT cs) t9 ∧ va_D (va_A (mW ad cs ft par np nc rs npc hi lo X Y O E RX RY RO PC CV) sz) (mW ad cs ft par np nc (rs + 1) npc hi lo X Y O E (up RX rs x) (up RY rs y) (up RO rs on) PC CV)) (va_A (mW ad cs ft par np nc rs npc hi lo X Y O E RX RY RO PC CV) sz)) 0 0 (va_A (mW ad cs ft par np nc rs npc hi lo X Y O E RX RY RO PC CV) sz) := by
  refine Met.ofW (cc := cM_putRing) (maxL := 4) (ret := none) (by decide) rfl ?_
  intro p e s m args below meth c s₁ B hml hv
  obtain ⟨hargs, hsz, hP, hK, hD0⟩ := hv
  have hx := B.exec
  have hb := B.bytes
  have hr := B.returns
  have hts := atoms_spec (ws := wM_putRing) B.pre
  have hown : s.vm.findClass RM = some m.cls := findClass_of_methodNamed B.named
  have hlocks := B.notSynchronized
  subst hsz
  have hD := hD0.self (sz := s.heap.size)
  generalize hAe : va_A (mW ad cs ft par np nc rs npc hi lo X Y O E RX RY RO PC CV) s.heap.size = A at hD ⊢
  have hA : ∀ q : Nat, s.heap.size ≤ q → A q := fun q h => by rw [← hAe]; exact Or.inr h
  have hS0 : va_S A s.heap s.heap [] := va_S.rf
  refine x_name (fun R Q H locs hR hQ hH hlo => ?_)
  rw [← hH] at hP
  have hS : va_S A s.heap H locs := by rw [hH, hlo]; exact hS0
  refine x_entry hargs (Nat.le_of_ble_eq_true rfl) (fun ls hl => ?_)
  have hl : lv_has ls 4 [(0, .ref (ad 0)), (1, .int (iI x)), (2, .int (iI y)), (3, .int (iI (bz on)))] := hl
  have hP : va_P (dC, dI) vwCl (mW ad cs ft par np nc rs npc hi lo X Y O E RX RY RO PC CV) H := hP
  refine lv_aload_n hx hb dM_putRing_0 rfl (lv_at hl 0 rfl) ?_
  refine va_get (D := (dC, dI)) (ci := 3) (v := .ref (ad 5)) (C := RM) (T := TM) (N := 17) hx hb hts (fun w9 h9 => List.mem_cons_of_mem _ (inM w9 h9)) hown hK hP 0 rfl rfl 9 (by decide) (hts _ (List.mem_cons_of_mem _ flM_23)) (fun _ h9 => h9) rfl dM_putRing_1 ?_
  refine lv_aload_n hx hb dM_putRing_4 rfl (lv_at hl 0 rfl) ?_
  refine va_get (D := (dC, dI)) (ci := 3) (v := .int (iI rs)) (C := RM) (T := TM) (N := 17) hx hb hts (fun w9 h9 => List.mem_cons_of_mem _ (inM w9 h9)) hown hK hP 0 rfl rfl 8 (by decide) (hts _ (List.mem_cons_of_mem _ flM_71)) (fun _ h9 => h9) rfl dM_putRing_5 ?_
  refine lv_iload_n hx hb dM_putRing_8 rfl (lv_at hl 1 rfl) ?_
  refine xa_iast (z := rs) (v := x) hx hb hK hP hD hS 5 4 rfl rfl (by decide) (by omega) dM_putRing_9 (fun H locs hP hD hS => ?_)
  have hP : va_P (dC, dI) vwCl (mW ad cs ft par np nc rs npc hi lo X Y O E (up RX rs x) RY RO PC CV) H := hP
  have hD : va_D A (mW ad cs ft par np nc rs npc hi lo X Y O E (up RX rs x) RY RO PC CV) := hD
  refine lv_aload_n hx hb dM_putRing_10 rfl (lv_at hl 0 rfl) ?_
  refine va_get (D := (dC, dI)) (ci := 3) (v := .ref (ad 6)) (C := RM) (T := TM) (N := 17) hx hb hts (fun w9 h9 => List.mem_cons_of_mem _ (inM w9 h9)) hown hK hP 0 rfl rfl 10 (by decide) (hts _ (List.mem_cons_of_mem _ flM_26)) (fun _ h9 => h9) rfl dM_putRing_11 ?_
  refine lv_aload_n hx hb dM_putRing_14 rfl (lv_at hl 0 rfl) ?_
  refine va_get (D := (dC, dI)) (ci := 3) (v := .int (iI rs)) (C := RM) (T := TM) (N := 17) hx hb hts (fun w9 h9 => List.mem_cons_of_mem _ (inM w9 h9)) hown hK hP 0 rfl rfl 8 (by decide) (hts _ (List.mem_cons_of_mem _ flM_71)) (fun _ h9 => h9) rfl dM_putRing_15 ?_
  refine lv_iload_n hx hb dM_putRing_18 rfl (lv_at hl 2 rfl) ?_
  refine xa_iast (z := rs) (v := y) hx hb hK hP hD hS 6 5 rfl rfl (by decide) (by omega) dM_putRing_19 (fun H locs hP hD hS => ?_)
  have hP : va_P (dC, dI) vwCl (mW ad cs ft par np nc rs npc hi lo X Y O E (up RX rs x) (up RY rs y) RO PC CV) H := hP
  have hD : va_D A (mW ad cs ft par np nc rs npc hi lo X Y O E (up RX rs x) (up RY rs y) RO PC CV) := hD
  refine lv_aload_n hx hb dM_putRing_20 rfl (lv_at hl 0 rfl) ?_
  refine va_get (D := (dC, dI)) (ci := 3) (v := .ref (ad 7)) (C := RM) (T := TM) (N := 17) hx hb hts (fun w9 h9 => List.mem_cons_of_mem _ (inM w9 h9)) hown hK hP 0 rfl rfl 11 (by decide) (hts _ (List.mem_cons_of_mem _ flM_29)) (fun _ h9 => h9) rfl dM_putRing_21 ?_
  refine lv_aload_n hx hb dM_putRing_24 rfl (lv_at hl 0 rfl) ?_
  refine va_get (D := (dC, dI)) (ci := 3) (v := .int (iI rs)) (C := RM) (T := TM) (N := 17) hx hb hts (fun w9 h9 => List.mem_cons_of_mem _ (inM w9 h9)) hown hK hP 0 rfl rfl 8 (by decide) (hts _ (List.mem_cons_of_mem _ flM_71)) (fun _ h9 => h9) rfl dM_putRing_25 ?_
  refine lv_iload_n hx hb dM_putRing_28 rfl (lv_at hl 3 rfl) ?_
  refine xa_zast (z := rs) (v := on) hx hb hK hP hD hS 7 6 rfl rfl (by decide) (by omega) dM_putRing_29 (fun H locs hP hD hS => ?_)
  have hP : va_P (dC, dI) vwCl (mW ad cs ft par np nc rs npc hi lo X Y O E (up RX rs x) (up RY rs y) (up RO rs on) PC CV) H := hP
  have hD : va_D A (mW ad cs ft par np nc rs npc hi lo X Y O E (up RX rs x) (up RY rs y) (up RO rs on) PC CV) := hD
  refine lv_aload_n hx hb dM_putRing_30 rfl (lv_at hl 0 rfl) ?_
  refine lv_dup hx hb dM_putRing_31 rfl ?_
  refine va_get (D := (dC, dI)) (ci := 3) (v := .int (iI rs)) (C := RM) (T := TM) (N := 17) hx hb hts (fun w9 h9 => List.mem_cons_of_mem _ (inM w9 h9)) hown hK hP 0 rfl rfl 8 (by decide) (hts _ (List.mem_cons_of_mem _ flM_71)) (fun _ h9 => h9) rfl dM_putRing_32 ?_
  refine xi_iconst hx hb dM_putRing_35 ?_
  refine xi_add (z := rs + 1) hx hb dM_putRing_36 rfl ?_
  refine va_put (D := (dC, dI)) (ci := 3) (v := .int (iI (rs + 1))) (ty := .int) (C := RM) (T := TM) (N := 17) hx hb hts (fun w9 h9 => List.mem_cons_of_mem _ (inM w9 h9)) tyM tyM_ok nmM hown hK hP hD hS 0 rfl rfl 8 (by decide) (hts _ (List.mem_cons_of_mem _ flM_71)) (fun _ h9 => h9) rfl (by decide +kernel) rfl rfl (Nat.le_of_ble_eq_true rfl) dM_putRing_37 (fun H locs hP hD hS => ?_)
  have hP : va_P (dC, dI) vwCl (mW ad cs ft par np nc (rs + 1) npc hi lo X Y O E (up RX rs x) (up RY rs y) (up RO rs on) PC CV) H := hP
  have hD : va_D A (mW ad cs ft par np nc (rs + 1) npc hi lo X Y O E (up RX rs x) (up RY rs y) (up RO rs on) PC CV) := hD
  subst hQ
  exact W.vret hx hb hr (fun t9 ht9 hW9 => ⟨⟨(), rfl, (trivial), by rw [ht9]; exact hP, va_K.moved hW9.alike hK, hD⟩, hS.F ht9⟩) hS.2.2 dM_putRing_40
set_option maxHeartbeats 4000000 in
set_option maxRecDepth 100000 in
/-- makeRing -/
theorem m_makeRing (l : Launch) (dC : Nat → ClassId) (dI : Nat → Nat → Nat) (ad : Nat → Nat) (cs : Nat → ClassId) (sz : Nat) (ft : Int) (par : Bool) (np nc rs npc hi lo : Int) (X Y : Int → Int) (O : Int → Bool) (E RX RY : Int → Int) (RO : Int → Bool) (PC : Int → Int) (CV : Int → Bool) (fr to : Int) (h1 : 0 ≤ fr ∧ fr < to ∧ to ≤ 512) (h3 : ∀ k : Int, 0 ≤ k → k < to → (-8192 ≤ X k ∧ X k ≤ 8191) ∧ (-8192 ≤ Y k ∧ Y k ≤ 8191)) : Met l yM_makeRing wM_makeRing ({ frames := 1, cells := 0, slots := 0, locals := 23 }) (va_Pc [.ref (ad 0), .int (iI fr), .int (iI to)] (fun U => U.heap.size = sz ∧ va_P (dC, dI) vwCl (mW ad cs ft par np nc rs npc hi lo X Y O E RX RY RO PC CV) U.heap ∧ va_K (dC, dI) vwCl (mT cs) U ∧ va_D (fun _ => True) (mW ad cs ft par np nc rs npc hi lo X Y O E RX RY RO PC CV))) (va_Qv (fun (u : Int × (Int → Int) × (Int → Int) × (Int → Bool)) => u.1 = rpos O fr to to ∧ ringOk X Y O fr to u.2.1 u.2.2.1 u.2.2.2 to) (fun (u : Int × (Int → Int) × (Int → Int) × (Int → Bool)) t9 => va_P (dC, dI) vwCl (mW ad cs ft par np nc u.1 npc hi lo X Y O E u.2.1 u.2.2.1 u.2.2.2 PC CV) t9.heap ∧ va_K (dC, dI) vwCl (mT cs) t9 ∧ va_D (va_A (mW ad cs ft par np nc rs npc hi lo X Y O E RX RY RO PC CV) sz) (mW ad cs ft par np nc u.1 npc hi lo X Y O E u.2.1 u.2.2.1 u.2.2.2 PC CV)) (va_A (mW ad cs ft par np nc rs npc hi lo X Y O E RX RY RO PC CV) sz)) 0 0 (va_A (mW ad cs ft par np nc rs npc hi lo X Y O E RX RY RO PC CV) sz) := by
  refine Met.ofW (cc := cM_makeRing) (maxL := 5) (ret := none) (by decide) rfl ?_
  intro p e s m args below meth c s₁ B hml hv
  obtain ⟨hargs, hsz, hP, hK, hD0⟩ := hv
  have hx := B.exec
  have hb := B.bytes
  have hr := B.returns
  have hts := atoms_spec (ws := wM_makeRing) B.pre
  have hown : s.vm.findClass RM = some m.cls := findClass_of_methodNamed B.named
  have hlocks := B.notSynchronized
  subst hsz
  have hD := hD0.self (sz := s.heap.size)
  generalize hAe : va_A (mW ad cs ft par np nc rs npc hi lo X Y O E RX RY RO PC CV) s.heap.size = A at hD ⊢
  have hA : ∀ q : Nat, s.heap.size ≤ q → A q := fun q h => by rw [← hAe]; exact Or.inr h
  have hS0 : va_S A s.heap s.heap [] := va_S.rf
  refine x_name (fun R Q H locs hR hQ hH hlo => ?_)
  rw [← hH] at hP
  have hS : va_S A s.heap H locs := by rw [hH, hlo]; exact hS0
  refine x_entry hargs (Nat.le_of_ble_eq_true rfl) (fun ls hl => ?_)
  have hl : lv_has ls 5 [(0, .ref (ad 0)), (1, .int (iI fr)), (2, .int (iI to))] := hl
  have hP : va_P (dC, dI) vwCl (mW ad cs ft par np nc rs npc hi lo X Y O E RX RY RO PC CV) H := hP
  refine lv_aload_n hx hb dM_makeRing_0 rfl (lv_at hl 0 rfl) ?_
  refine xi_iconst hx hb dM_makeRing_1 ?_
  refine va_put (D := (dC, dI)) (ci := 3) (v := .int (iI 0)) (ty := .int) (C := RM) (T := TM) (N := 17) hx hb hts (fun w9 h9 => List.mem_cons_of_mem _ (inM w9 h9)) tyM tyM_ok nmM hown hK hP hD hS 0 rfl rfl 8 (by decide) (hts _ (List.mem_cons_of_mem _ flM_71)) (fun _ h9 => h9) rfl (by decide +kernel) rfl rfl (Nat.le_of_ble_eq_true rfl) dM_makeRing_2 (fun H locs hP hD hS => ?_)
  have hP : va_P (dC, dI) vwCl (mW ad cs ft par np nc 0 npc hi lo X Y O E RX RY RO PC CV) H := hP
  have hD : va_D A (mW ad cs ft par np nc 0 npc hi lo X Y O E RX RY RO PC CV) := hD
  refine lv_iload_n hx hb dM_makeRing_5 rfl (lv_at hl 1 rfl) ?_
  refine lv_istore_n (lv' := [(3, .int (iI fr)), (0, .ref (ad 0)), (1, .int (iI fr)), (2, .int (iI to))]) hx hb dM_makeRing_6 rfl hl (by decide) rfl (fun ls hl => ?_)
  have cut_7_1 : ∀ (fu_7 : Nat) (k : Int) (GX : Int → Int) (GY : Int → Int) (GO : Int → Bool) (H : Heap) (locs : List Loc) (ls : Array Slot), ((to - k).toNat) < fu_7 → (fr ≤ k ∧ k ≤ to) → (ringOk X Y O fr to GX GY GO k) → va_P (dC, dI) vwCl (mW ad cs ft par np nc (rpos O fr to k) npc hi lo X Y O E GX GY GO PC CV) H → va_D A (mW ad cs ft par np nc (rpos O fr to k) npc hi lo X Y O E GX GY GO PC CV) → va_S A s.heap H locs → lv_has ls 5 [(0, .ref (ad 0)), (1, .int (iI fr)), (2, .int (iI to)), (3, .int (iI k))] → W p l e R s m args below meth c H locs 0 0 Q (F0 m 7 ls []) := by
    intro fu_7
    induction fu_7 with
    | zero => intro _ _ _ _ _ _ _ hm; exact absurd hm (Nat.not_lt_zero _)
    | succ fu_7 ih_7 =>
      intro k GX GY GO H locs ls hm i1 i2 hP hD hS hl
      have b1 := rpos_bd O fr to i1.1
      refine lv_iload_n hx hb dM_makeRing_7 rfl (lv_at hl 3 rfl) ?_
      refine lv_iload_n hx hb dM_makeRing_8 rfl (lv_at hl 2 rfl) ?_
      refine xi_icmp_ge (tgt := 112) hx hb dM_makeRing_9 (by decide) (by omega) (by omega) (fun c_9 => ?_) (fun c_9 => ?_)
      · skip
        subst hQ
        exact W.vret hx hb hr (fun t9 ht9 hW9 => ⟨⟨(rpos O fr to k, GX, GY, GO), rfl, (⟨by rw [show k = to by omega], by rw [show k = to by omega] at i2; exact i2⟩), by rw [ht9]; exact hP, va_K.moved hW9.alike hK, hD⟩, hS.F ht9⟩) hS.2.2 dM_makeRing_112
      · skip
        have cut_26_2 : ∀ (nt : Int) (ls : Array Slot), (nt = nx fr to k) → lv_has ls 5 [(0, .ref (ad 0)), (1, .int (iI fr)), (2, .int (iI to)), (3, .int (iI k))] → W p l e R s m args below meth c H locs 0 0 Q (F0 m 26 ls [.int (iI nt)]) := by
          intro nt ls hnt hl
          have b2 : 0 ≤ nt ∧ nt < to := by (rw [hnt]; unfold nx; split <;> omega)
          have b3 := h3 k (by omega) (by omega)
          have b4 := h3 nt b2.1 b2.2
          refine lv_istore (lv' := [(4, .int (iI nt)), (0, .ref (ad 0)), (1, .int (iI fr)), (2, .int (iI to)), (3, .int (iI k))]) hx hb dM_makeRing_26 hl (by decide) rfl (fun ls hl => ?_)
          refine lv_aload_n hx hb dM_makeRing_28 rfl (lv_at hl 1 rfl) ?_
          refine lv_aload_n hx hb dM_makeRing_29 rfl (lv_at hl 1 rfl) ?_
          refine va_get (D := (dC, dI)) (ci := 3) (v := .ref (ad 1)) (C := RM) (T := TM) (N := 17) hx hb hts (fun w9 h9 => List.mem_cons_of_mem _ (inM w9 h9)) hown hK hP 0 rfl rfl 3 (by decide) (hts _ (List.mem_cons_of_mem _ flM_7)) (fun _ h9 => h9) rfl dM_makeRing_30 ?_
          refine lv_iload_n hx hb dM_makeRing_33 rfl (lv_at hl 4 rfl) ?_
          refine xa_iald hx hb hK hP 1 0 rfl rfl (by decide) (by omega) dM_makeRing_34 ?_
          refine lv_aload_n hx hb dM_makeRing_35 rfl (lv_at hl 1 rfl) ?_
          refine va_get (D := (dC, dI)) (ci := 3) (v := .ref (ad 2)) (C := RM) (T := TM) (N := 17) hx hb hts (fun w9 h9 => List.mem_cons_of_mem _ (inM w9 h9)) hown hK hP 0 rfl rfl 4 (by decide) (hts _ (List.mem_cons_of_mem _ flM_13)) (fun _ h9 => h9) rfl dM_makeRing_36 ?_
          refine lv_iload_n hx hb dM_makeRing_39 rfl (lv_at hl 4 rfl) ?_
          refine xa_iald hx hb hK hP 2 1 rfl rfl (by decide) (by omega) dM_makeRing_40 ?_
          refine lv_aload_n hx hb dM_makeRing_41 rfl (lv_at hl 1 rfl) ?_
          refine va_get (D := (dC, dI)) (ci := 3) (v := .ref (ad 3)) (C := RM) (T := TM) (N := 17) hx hb hts (fun w9 h9 => List.mem_cons_of_mem _ (inM w9 h9)) hown hK hP 0 rfl rfl 5 (by decide) (hts _ (List.mem_cons_of_mem _ flM_16)) (fun _ h9 => h9) rfl dM_makeRing_42 ?_
          refine lv_iload_n hx hb dM_makeRing_45 rfl (lv_at hl 4 rfl) ?_
          refine xa_zald hx hb hK hP 3 2 rfl rfl (by decide) (by omega) dM_makeRing_46 ?_
          have hFc := xw_free hD hS hA
          refine va_callv (va_runV (As := [.int (iI (X k)), .int (iI (Y k)), .int (iI (bz (O k)))]) (rest := []) ⟨hx, hb, hml, hown, hts⟩ (m_putRing l dC dI ad cs H.size ft par np nc (rpos O fr to k) npc hi lo X Y O E GX GY GO PC CV (X k) (Y k) (O k) (by omega)) (cwV 3 hts (tb_V mlM_74 imM_putRing seM_putRing iniM coM_putRing) rfl rfl rfl (by decide +kernel) (by subst hR; exact ⟨Nat.le_of_ble_eq_true rfl, Nat.le_of_ble_eq_true rfl⟩)) ⟨fun a9 U9 g9 mk9 q9 => by obtain ⟨q0, q1, qP, qK, qD⟩ := q9; exact ⟨q0, q1, qP, va_K.moved (u := U9) (U := U9.calling g9 mk9 a9) (Vm.Alike.refl U9.vm) qK, qD⟩, va_recv hK hP (ci := 3) (q0 := 0) rfl rfl, fun U hU hW => ⟨rfl, by rw [hU], by rw [hU]; exact hP, va_K.moved hW.alike hK, hD.weaken (fun _ _ _ _ => trivial)⟩⟩ rfl rfl hl.1 rfl (lv_room (Nat.le_of_ble_eq_true rfl)) dM_makeRing_47 ⟨by subst hR; exact Nat.le_of_ble_eq_true rfl, by subst hR; exact Nat.le_of_ble_eq_true rfl⟩) hS (fun q9 _ h9 => hFc q9 h9) hFc (fun u_47 t9 H1 locs1 ht9 hvm9 hw_47 hB9 hz9 hk9 hS1 => ?_)
          obtain ⟨hP1, hK1, hD1⟩ := hB9
          rw [ht9] at hP1
          have hP : va_P (dC, dI) vwCl (mW ad cs ft par np nc ((rpos O fr to k) + 1) npc hi lo X Y O E (up GX (rpos O fr to k) (X k)) (up GY (rpos O fr to k) (Y k)) (up GO (rpos O fr to k) (O k)) PC CV) H1 := hP1
          have hD : va_D A (mW ad cs ft par np nc ((rpos O fr to k) + 1) npc hi lo X Y O E (up GX (rpos O fr to k) (X k)) (up GY (rpos O fr to k) (Y k)) (up GO (rpos O fr to k) (O k)) PC CV) := hD1.weaken (fun _ _ _ h9 => hFc _ h9)
          clear hP1 hD1 hK1 hFc
          have hS := hS1
          clear hS1 hz9 hk9 ht9 hvm9
          revert hP hD hS; generalize H1 = H; generalize locs1 = locs; intro hP hD hS
          refine lv_aload_n hx hb dM_makeRing_50 rfl (lv_at hl 1 rfl) ?_
          refine va_get (D := (dC, dI)) (ci := 3) (v := .ref (ad 3)) (C := RM) (T := TM) (N := 17) hx hb hts (fun w9 h9 => List.mem_cons_of_mem _ (inM w9 h9)) hown hK hP 0 rfl rfl 5 (by decide) (hts _ (List.mem_cons_of_mem _ flM_16)) (fun _ h9 => h9) rfl dM_makeRing_51 ?_
          refine lv_iload_n hx hb dM_makeRing_54 rfl (lv_at hl 4 rfl) ?_
          refine xa_zald hx hb hK hP 3 2 rfl rfl (by decide) (by omega) dM_makeRing_55 ?_
          refine xb_if_ne (tgt := 106) hx hb dM_makeRing_56 (by decide) (fun c_56 => ?_) (fun c_56 => ?_)
          · skip
            refine xi_iinc (z := k + 1) (lv' := [(3, .int (iI (k + 1))), (4, .int (iI nt)), (0, .ref (ad 0)), (1, .int (iI fr)), (2, .int (iI to))]) hx hb dM_makeRing_106 hl (k := 4) rfl rfl (by decide) rfl (fun ls hl => ?_)
            refine lv_goto (tgt := 7) hx hb dM_makeRing_109 (by decide) ?_
            have hm9 : mid O fr to k = false := by unfold mid; rw [c_56]; rfl
            have e9 := rpos_s O fr to i1.1
            rw [hm9] at e9
            rw [if_neg (by decide)] at e9
            have hP : va_P (dC, dI) vwCl (mW ad cs ft par np nc (rpos O fr to (k + 1)) npc hi lo X Y O E (up GX (rpos O fr to k) (X k)) (up GY (rpos O fr to k) (Y k)) (up GO (rpos O fr to k) (O k)) PC CV) H := by rw [e9]; exact hP
            have hD : va_D A (mW ad cs ft par np nc (rpos O fr to (k + 1)) npc hi lo X Y O E (up GX (rpos O fr to k) (X k)) (up GY (rpos O fr to k) (Y k)) (up GO (rpos O fr to k) (O k)) PC CV) := by rw [e9]; exact hD
            exact ih_7 (k + 1) (up GX (rpos O fr to k) (X k)) (up GY (rpos O fr to k) (Y k)) (up GO (rpos O fr to k) (O k)) _ _ _ (by omega) (by omega) (ringOk_1 i1.1 hm9 i2) hP hD hS (lv_sub hl [2, 3, 4, 0] rfl)
          · skip
            refine lv_aload_n hx hb dM_makeRing_59 rfl (lv_at hl 1 rfl) ?_
            refine va_get (D := (dC, dI)) (ci := 3) (v := .ref (ad 3)) (C := RM) (T := TM) (N := 17) hx hb hts (fun w9 h9 => List.mem_cons_of_mem _ (inM w9 h9)) hown hK hP 0 rfl rfl 5 (by decide) (hts _ (List.mem_cons_of_mem _ flM_16)) (fun _ h9 => h9) rfl dM_makeRing_60 ?_
            refine lv_iload hx hb dM_makeRing_63 (lv_at hl 0 rfl) ?_
            refine xa_zald hx hb hK hP 3 2 rfl rfl (by decide) (by omega) dM_makeRing_65 ?_
            refine xb_if_ne (tgt := 106) hx hb dM_makeRing_66 (by decide) (fun c_66 => ?_) (fun c_66 => ?_)
            · skip
              refine xi_iinc (z := k + 1) (lv' := [(3, .int (iI (k + 1))), (4, .int (iI nt)), (0, .ref (ad 0)), (1, .int (iI fr)), (2, .int (iI to))]) hx hb dM_makeRing_106 hl (k := 4) rfl rfl (by decide) rfl (fun ls hl => ?_)
              refine lv_goto (tgt := 7) hx hb dM_makeRing_109 (by decide) ?_
              have hm9 : mid O fr to k = false := by unfold mid; rw [← hnt, c_66, Bool.not_true, Bool.and_false]
              have e9 := rpos_s O fr to i1.1
              rw [hm9] at e9
              rw [if_neg (by decide)] at e9
              have hP : va_P (dC, dI) vwCl (mW ad cs ft par np nc (rpos O fr to (k + 1)) npc hi lo X Y O E (up GX (rpos O fr to k) (X k)) (up GY (rpos O fr to k) (Y k)) (up GO (rpos O fr to k) (O k)) PC CV) H := by rw [e9]; exact hP
              have hD : va_D A (mW ad cs ft par np nc (rpos O fr to (k + 1)) npc hi lo X Y O E (up GX (rpos O fr to k) (X k)) (up GY (rpos O fr to k) (Y k)) (up GO (rpos O fr to k) (O k)) PC CV) := by rw [e9]; exact hD
              exact ih_7 (k + 1) (up GX (rpos O fr to k) (X k)) (up GY (rpos O fr to k) (Y k)) (up GO (rpos O fr to k) (O k)) _ _ _ (by omega) (by omega) (ringOk_1 i1.1 hm9 i2) hP hD hS (lv_sub hl [2, 3, 4, 0] rfl)
            · skip
              refine lv_aload_n hx hb dM_makeRing_69 rfl (lv_at hl 1 rfl) ?_
              refine lv_aload_n hx hb dM_makeRing_70 rfl (lv_at hl 1 rfl) ?_
              refine va_get (D := (dC, dI)) (ci := 3) (v := .ref (ad 1)) (C := RM) (T := TM) (N := 17) hx hb hts (fun w9 h9 => List.mem_cons_of_mem _ (inM w9 h9)) hown hK hP 0 rfl rfl 3 (by decide) (hts _ (List.mem_cons_of_mem _ flM_7)) (fun _ h9 => h9) rfl dM_makeRing_71 ?_
              refine lv_iload_n hx hb dM_makeRing_74 rfl (lv_at hl 4 rfl) ?_
              refine xa_iald hx hb hK hP 1 0 rfl rfl (by decide) (by omega) dM_makeRing_75 ?_
              refine lv_aload_n hx hb dM_makeRing_76 rfl (lv_at hl 1 rfl) ?_
              refine va_get (D := (dC, dI)) (ci := 3) (v := .ref (ad 1)) (C := RM) (T := TM) (N := 17) hx hb hts (fun w9 h9 => List.mem_cons_of_mem _ (inM w9 h9)) hown hK hP 0 rfl rfl 3 (by decide) (hts _ (List.mem_cons_of_mem _ flM_7)) (fun _ h9 => h9) rfl dM_makeRing_77 ?_
              refine lv_iload hx hb dM_makeRing_80 (lv_at hl 0 rfl) ?_
              refine xa_iald hx hb hK hP 1 0 rfl rfl (by decide) (by omega) dM_makeRing_82 ?_
              refine xi_add (z := (X k) + (X nt)) hx hb dM_makeRing_83 rfl ?_
              refine xi_iconst hx hb dM_makeRing_84 ?_
              refine lv_ishr hx hb dM_makeRing_85 ?_
              refine xi_top (y := .int (iI ((X k + X nt) / 2))) (by rw [iI_shr1 (by omega)]) ?_
              refine lv_aload_n hx hb dM_makeRing_86 rfl (lv_at hl 1 rfl) ?_
              refine va_get (D := (dC, dI)) (ci := 3) (v := .ref (ad 2)) (C := RM) (T := TM) (N := 17) hx hb hts (fun w9 h9 => List.mem_cons_of_mem _ (inM w9 h9)) hown hK hP 0 rfl rfl 4 (by decide) (hts _ (List.mem_cons_of_mem _ flM_13)) (fun _ h9 => h9) rfl dM_makeRing_87 ?_
              refine lv_iload_n hx hb dM_makeRing_90 rfl (lv_at hl 4 rfl) ?_
              refine xa_iald hx hb hK hP 2 1 rfl rfl (by decide) (by omega) dM_makeRing_91 ?_
              refine lv_aload_n hx hb dM_makeRing_92 rfl (lv_at hl 1 rfl) ?_
              refine va_get (D := (dC, dI)) (ci := 3) (v := .ref (ad 2)) (C := RM) (T := TM) (N := 17) hx hb hts (fun w9 h9 => List.mem_cons_of_mem _ (inM w9 h9)) hown hK hP 0 rfl rfl 4 (by decide) (hts _ (List.mem_cons_of_mem _ flM_13)) (fun _ h9 => h9) rfl dM_makeRing_93 ?_
              refine lv_iload hx hb dM_makeRing_96 (lv_at hl 0 rfl) ?_
              refine xa_iald hx hb hK hP 2 1 rfl rfl (by decide) (by omega) dM_makeRing_98 ?_
              refine xi_add (z := (Y k) + (Y nt)) hx hb dM_makeRing_99 rfl ?_
              refine xi_iconst hx hb dM_makeRing_100 ?_
              refine lv_ishr hx hb dM_makeRing_101 ?_
              refine xi_top (y := .int (iI ((Y k + Y nt) / 2))) (by rw [iI_shr1 (by omega)]) ?_
              refine xi_iconst hx hb dM_makeRing_102 ?_
              have hFc := xw_free hD hS hA
              refine va_callv (va_runV (As := [.int (iI ((X k + X nt) / 2)), .int (iI ((Y k + Y nt) / 2)), .int (iI 1)]) (rest := []) ⟨hx, hb, hml, hown, hts⟩ (m_putRing l dC dI ad cs H.size ft par np nc ((rpos O fr to k) + 1) npc hi lo X Y O E (up GX (rpos O fr to k) (X k)) (up GY (rpos O fr to k) (Y k)) (up GO (rpos O fr to k) (O k)) PC CV ((X k + X nt) / 2) ((Y k + Y nt) / 2) true (by omega)) (cwV 3 hts (tb_V mlM_74 imM_putRing seM_putRing iniM coM_putRing) rfl rfl rfl (by decide +kernel) (by subst hR; exact ⟨Nat.le_of_ble_eq_true rfl, Nat.le_of_ble_eq_true rfl⟩)) ⟨fun a9 U9 g9 mk9 q9 => by obtain ⟨q0, q1, qP, qK, qD⟩ := q9; exact ⟨q0, q1, qP, va_K.moved (u := U9) (U := U9.calling g9 mk9 a9) (Vm.Alike.refl U9.vm) qK, qD⟩, va_recv hK hP (ci := 3) (q0 := 0) rfl rfl, fun U hU hW => ⟨rfl, by rw [hU], by rw [hU]; exact hP, va_K.moved hW.alike hK, hD.weaken (fun _ _ _ _ => trivial)⟩⟩ rfl rfl hl.1 rfl (lv_room (Nat.le_of_ble_eq_true rfl)) dM_makeRing_103 ⟨by subst hR; exact Nat.le_of_ble_eq_true rfl, by subst hR; exact Nat.le_of_ble_eq_true rfl⟩) hS (fun q9 _ h9 => hFc q9 h9) hFc (fun u_103 t9 H1 locs1 ht9 hvm9 hw_103 hB9 hz9 hk9 hS1 => ?_)
              obtain ⟨hP1, hK1, hD1⟩ := hB9
              rw [ht9] at hP1
              have hP : va_P (dC, dI) vwCl (mW ad cs ft par np nc (((rpos O fr to k) + 1) + 1) npc hi lo X Y O E (up (up GX (rpos O fr to k) (X k)) ((rpos O fr to k) + 1) ((X k + X nt) / 2)) (up (up GY (rpos O fr to k) (Y k)) ((rpos O fr to k) + 1) ((Y k + Y nt) / 2)) (up (up GO (rpos O fr to k) (O k)) ((rpos O fr to k) + 1) true) PC CV) H1 := hP1
              have hD : va_D A (mW ad cs ft par np nc (((rpos O fr to k) + 1) + 1) npc hi lo X Y O E (up (up GX (rpos O fr to k) (X k)) ((rpos O fr to k) + 1) ((X k + X nt) / 2)) (up (up GY (rpos O fr to k) (Y k)) ((rpos O fr to k) + 1) ((Y k + Y nt) / 2)) (up (up GO (rpos O fr to k) (O k)) ((rpos O fr to k) + 1) true) PC CV) := hD1.weaken (fun _ _ _ h9 => hFc _ h9)
              clear hP1 hD1 hK1 hFc
              have hS := hS1
              clear hS1 hz9 hk9 ht9 hvm9
              revert hP hD hS; generalize H1 = H; generalize locs1 = locs; intro hP hD hS
              refine xi_iinc (z := k + 1) (lv' := [(3, .int (iI (k + 1))), (4, .int (iI nt)), (0, .ref (ad 0)), (1, .int (iI fr)), (2, .int (iI to))]) hx hb dM_makeRing_106 hl (k := 4) rfl rfl (by decide) rfl (fun ls hl => ?_)
              refine lv_goto (tgt := 7) hx hb dM_makeRing_109 (by decide) ?_
              have hm9 : mid O fr to k = true := by unfold mid; rw [← hnt, c_56, c_66]; rfl
              have e9 := rpos_s O fr to i1.1
              rw [hm9] at e9
              rw [if_pos rfl] at e9
              rw [hnt] at hP hD
              have hP : va_P (dC, dI) vwCl (mW ad cs ft par np nc (rpos O fr to (k + 1)) npc hi lo X Y O E (up (up GX (rpos O fr to k) (X k)) ((rpos O fr to k) + 1) ((X k + X (nx fr to k)) / 2)) (up (up GY (rpos O fr to k) (Y k)) ((rpos O fr to k) + 1) ((Y k + Y (nx fr to k)) / 2)) (up (up GO (rpos O fr to k) (O k)) ((rpos O fr to k) + 1) true) PC CV) H := by rw [e9, show rpos O fr to k + 2 = rpos O fr to k + 1 + 1 by omega]; exact hP
              have hD : va_D A (mW ad cs ft par np nc (rpos O fr to (k + 1)) npc hi lo X Y O E (up (up GX (rpos O fr to k) (X k)) ((rpos O fr to k) + 1) ((X k + X (nx fr to k)) / 2)) (up (up GY (rpos O fr to k) (Y k)) ((rpos O fr to k) + 1) ((Y k + Y (nx fr to k)) / 2)) (up (up GO (rpos O fr to k) (O k)) ((rpos O fr to k) + 1) true) PC CV) := by rw [e9, show rpos O fr to k + 2 = rpos O fr to k + 1 + 1 by omega]; exact hD
              exact ih_7 (k + 1) (up (up GX (rpos O fr to k) (X k)) ((rpos O fr to k) + 1) ((X k + X (nx fr to k)) / 2)) (up (up GY (rpos O fr to k) (Y k)) ((rpos O fr to k) + 1) ((Y k + Y (nx fr to k)) / 2)) (up (up GO (rpos O fr to k) (O k)) ((rpos O fr to k) + 1) true) _ _ _ (by omega) (by omega) (ringOk_2 i1.1 i2) hP hD hS (lv_sub hl [2, 3, 4, 0] rfl)
        refine lv_iload_n hx hb dM_makeRing_12 rfl (lv_at hl 3 rfl) ?_
        refine xi_iconst hx hb dM_makeRing_13 ?_
        refine xi_add (z := k + 1) hx hb dM_makeRing_14 rfl ?_
        refine lv_iload_n hx hb dM_makeRing_15 rfl (lv_at hl 2 rfl) ?_
        refine xi_icmp_ge (tgt := 25) hx hb dM_makeRing_16 (by decide) (by omega) (by omega) (fun c_16 => ?_) (fun c_16 => ?_)
        · skip
          refine lv_iload_n hx hb dM_makeRing_25 rfl (lv_at hl 1 rfl) ?_
          exact cut_26_2 fr _ (by unfold nx; rw [if_neg (by omega)]) (lv_sub hl [0, 1, 2, 3] rfl)
        · skip
          refine lv_iload_n hx hb dM_makeRing_19 rfl (lv_at hl 3 rfl) ?_
          refine xi_iconst hx hb dM_makeRing_20 ?_
          refine xi_add (z := k + 1) hx hb dM_makeRing_21 rfl ?_
          refine lv_goto (tgt := 26) hx hb dM_makeRing_22 (by decide) ?_
          exact cut_26_2 (k + 1) _ (by unfold nx; rw [if_pos (by omega)]) (lv_sub hl [0, 1, 2, 3] rfl)
  have hP : va_P (dC, dI) vwCl (mW ad cs ft par np nc (rpos O fr to fr) npc hi lo X Y O E RX RY RO PC CV) H := by rw [rpos_a]; exact hP
  have hD : va_D A (mW ad cs ft par np nc (rpos O fr to fr) npc hi lo X Y O E RX RY RO PC CV) := by rw [rpos_a]; exact hD
  exact cut_7_1 (((to - fr).toNat) + 1) fr RX RY RO _ _ _ (Nat.lt_succ_self _) (by omega) (ringOk_0) hP hD hS (lv_sub hl [1, 2, 3, 0] rfl)
