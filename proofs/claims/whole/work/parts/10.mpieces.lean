/-! the reference: its table of pieces -/
theorem xi_rem {p : Program} {l : Launch} {e : Env} {R : Room} {s : State} {m : MethodId} {args : Array Value} {below : List Frame} {meth : Method} {c : Code} {H : Heap} {locs : List Loc} {cells slots : Nat} {Q : State → Prop} {cc : ByteArray} {pc : Nat} {ls : Array Slot} {rest : List Value} (hexec : p.tables.exec = Jvm.exec) (hb : c.code = cc) {a b z : Int} (hdg : decode cc pc = .ok (.irem, 1)) (ha : 0 ≤ a ∧ a ≤ 2147483647) (hb0 : 0 < b ∧ b ≤ 2147483647) (hz : a % b = z)
    (k : W p l e R s m args below meth c H locs cells slots Q (F0 m (pc + 1) ls (.int (iI z) :: rest))) : W p l e R s m args below meth c H locs cells slots Q (F0 m pc ls (.int (iI b) :: .int (iI a) :: rest)) :=
  lv_irem hexec hb hdg (fun h => by have h2 := (iI_eq (b := 0) (by omega) (by omega)).mp h; omega) (by
    rw [iI_div ha hb0, iI_mul, iI_sub]
    have h3 : a - a / b * b = z := by rw [← hz, Int.emod_def, Int.mul_comm]
    rw [h3]; exact k)
abbrev hT : Type := Int → Int → Int → Int → Int → Int → Bool → Int
def pcs (h : hT) (PC : Int → Int) (CV : Int → Bool) : Int → Int := fun k => h (PC (6 * k)) (PC (6 * k + 1)) (PC (6 * k + 2)) (PC (6 * k + 3)) (PC (6 * k + 4)) (PC (6 * k + 5)) (CV k)
abbrev put6 (PC : Int → Int) (n a b c d e f : Int) : Int → Int := up (up (up (up (up (up PC (6 * n) a) (6 * n + 1) b) (6 * n + 2) c) (6 * n + 3) d) (6 * n + 4) e) (6 * n + 5) f
theorem put6_lo (PC : Int → Int) {n k : Int} (a b c d e f : Int) (h : k < 6 * n) : put6 PC n a b c d e f k = PC k := by
  rw [put6, up_n _ _ (by omega), up_n _ _ (by omega), up_n _ _ (by omega), up_n _ _ (by omega), up_n _ _ (by omega), up_n _ _ (by omega)]
theorem put6_at (PC : Int → Int) (n a b c d e f : Int) : put6 PC n a b c d e f (6 * n) = a ∧ put6 PC n a b c d e f (6 * n + 1) = b ∧ put6 PC n a b c d e f (6 * n + 2) = c ∧ put6 PC n a b c d e f (6 * n + 3) = d ∧ put6 PC n a b c d e f (6 * n + 4) = e ∧ put6 PC n a b c d e f (6 * n + 5) = f := by
  refine ⟨?_, ?_, ?_, ?_, ?_, ?_⟩
  · rw [put6, up_n _ _ (by omega), up_n _ _ (by omega), up_n _ _ (by omega), up_n _ _ (by omega), up_n _ _ (by omega), up_s]
  · rw [put6, up_n _ _ (by omega), up_n _ _ (by omega), up_n _ _ (by omega), up_n _ _ (by omega), up_s]
  · rw [put6, up_n _ _ (by omega), up_n _ _ (by omega), up_n _ _ (by omega), up_s]
  · rw [put6, up_n _ _ (by omega), up_n _ _ (by omega), up_s]
  · rw [put6, up_n _ _ (by omega), up_s]
  · rw [put6, up_s]
theorem isum_congr {f g : Int → Int} (n : Nat) (h : ∀ k : Int, 0 ≤ k → k < (n : Int) → f k = g k) : isum f n = isum g n := by
  induction n with
  | zero => rfl
  | succ n ih =>
    show isum f n + f (n : Int) = isum g n + g (n : Int)
    rw [ih (fun k h1 h2 => h k h1 (by omega)), h (n : Int) (by omega) (by omega)]
theorem put6_sum (h : hT) (PC : Int → Int) (CV : Int → Bool) {n : Int} (hn : 0 ≤ n) (a b c d e f : Int) (cv : Bool) : isum (pcs h (put6 PC n a b c d e f) (up CV n cv)) (n + 1).toNat = isum (pcs h PC CV) n.toNat + h a b c d e f cv := by
  rw [isum_s _ hn]
  obtain ⟨e1, e2, e3, e4, e5, e6⟩ := put6_at PC n a b c d e f
  rw [show pcs h (put6 PC n a b c d e f) (up CV n cv) n = h a b c d e f cv by unfold pcs; rw [e1, e2, e3, e4, e5, e6, up_s]]
  rw [isum_congr (f := pcs h (put6 PC n a b c d e f) (up CV n cv)) (g := pcs h PC CV) n.toNat (fun k h1 h2 => by
    unfold pcs
    rw [put6_lo _ _ _ _ _ _ _ (by omega), put6_lo _ _ _ _ _ _ _ (by omega), put6_lo _ _ _ _ _ _ _ (by omega), put6_lo _ _ _ _ _ _ _ (by omega), put6_lo _ _ _ _ _ _ _ (by omega), put6_lo _ _ _ _ _ _ _ (by omega), up_n _ _ (by omega)])]
theorem put6_ok {PC : Int → Int} {n a b c d e f : Int} (hn : 0 ≤ n) (h : pcOk PC n) (ha : okc a) (hb : okc b) (hc : okc c) (hd : okc d) (he : okc e) (hf : okc f) : pcOk (put6 PC n a b c d e f) (n + 1) := by
  intro k h1 h2
  obtain ⟨e1, e2, e3, e4, e5, e6⟩ := put6_at PC n a b c d e f
  rcases (show k < 6 * n ∨ k = 6 * n ∨ k = 6 * n + 1 ∨ k = 6 * n + 2 ∨ k = 6 * n + 3 ∨ k = 6 * n + 4 ∨ k = 6 * n + 5 by omega) with q | q | q | q | q | q | q
  · rw [put6_lo _ _ _ _ _ _ _ q]; exact h k h1 q
  · rw [q, e1]; exact ha
  · rw [q, e2]; exact hb
  · rw [q, e3]; exact hc
  · rw [q, e4]; exact hd
  · rw [q, e5]; exact he
  · rw [q, e6]; exact hf
def stE (E : Int → Int) (c : Int) : Int := if c = 0 then 0 else E (c - 1)
/-- what point i of the contour a .. b - 1 brings, told by the next one -/
def emi (X Y : Int → Int) (O : Int → Bool) (a b : Int) (h : hT) (i : Int) : Int :=
  if O (nx a b i) = true then (if O i = true then h (X i) (Y i) (X i) (Y i) (X (nx a b i)) (Y (nx a b i)) false else 0)
  else h (cen X O (nx a b i) i) (cen Y O (nx a b i) i) (X (nx a b i)) (Y (nx a b i)) (cen X O (nx a b i) (nx a b (nx a b i))) (cen Y O (nx a b i) (nx a b (nx a b i))) true
def cts (X Y : Int → Int) (O : Int → Bool) (E : Int → Int) (h : hT) (c : Int) : Int := isum (fun n => emi X Y O (stE E c) (E c) h (stE E c + n)) (E c - stE E c).toNat
def tot (X Y : Int → Int) (O : Int → Bool) (E : Int → Int) (h : hT) (nc : Int) : Int := isum (cts X Y O E h) nc.toNat
theorem nx_in {a b i : Int} (h1 : a ≤ i) (h2 : i < b) : a ≤ nx a b i ∧ nx a b i < b := by unfold nx; split <;> omega
/-- behind the point i, or behind the one put in behind it, comes the next point; and then what is behind that -/
theorem ring_nx {X Y : Int → Int} {O : Int → Bool} {a b : Int} {RX RY : Int → Int} {RO : Int → Bool} (hr : ringOk X Y O a b RX RY RO b) {i k : Int} {md : Bool} (h1 : a ≤ i) (h2 : i < b) (hk : k = rpos O a b i + bz md) (hm : md = mid O a b i) :
    ∃ t : Int, (k + 1) % rpos O a b b = t ∧ 0 ≤ t ∧ t < rpos O a b b ∧ RX t = X (nx a b i) ∧ RY t = Y (nx a b i) ∧ RO t = O (nx a b i) ∧ (O (nx a b i) = false → ∃ t2 : Int, (k + 2) % rpos O a b b = t2 ∧ 0 ≤ t2 ∧ t2 < rpos O a b b ∧ RX t2 = cen X O (nx a b i) (nx a b (nx a b i)) ∧ RY t2 = cen Y O (nx a b i) (nx a b (nx a b i))) := by
  have key : ∀ i : Int, a ≤ i → i < b → (rpos O a b i + bz (mid O a b i) + 1) % rpos O a b b = rpos O a b (nx a b i) ∧ (rpos O a b i + bz (mid O a b i) + 2) % rpos O a b b = (rpos O a b (nx a b i) + 1) % rpos O a b b ∧ 0 ≤ rpos O a b i ∧ rpos O a b (nx a b i) < rpos O a b b := by
    intro i h1 h2
    have e1 : rpos O a b i + bz (mid O a b i) + 1 = rpos O a b (i + 1) := by
      rw [rpos_s O a b h1]
      cases mid O a b i <;> simp [bz] <;> omega
    have b1 := rpos_bd O a b h1
    have b2 := rpos_bd O a b (show a ≤ b by omega)
    by_cases h3 : i + 1 < b
    · have e2 : nx a b i = i + 1 := if_pos h3
      have l := rpos_lt O a b (show a ≤ i + 1 by omega) h3
      have b3 := rpos_bd O a b (show a ≤ i + 1 by omega)
      have l2 : rpos O a b (i + 1) < rpos O a b b := by split at l <;> omega
      rw [e2, e1, Int.emod_eq_of_lt (by omega) l2, show rpos O a b i + bz (mid O a b i) + 2 = rpos O a b (i + 1) + 1 by omega]
      exact ⟨rfl, rfl, by omega, l2⟩
    · have e2 : nx a b i = a := if_neg h3
      have e3 : i + 1 = b := by omega
      rw [e2, e1, e3, rpos_a, Int.emod_self, show rpos O a b i + bz (mid O a b i) + 2 = 1 + rpos O a b b by (have e5 := e1; rw [e3] at e5; omega), Int.add_emod_right]
      exact ⟨rfl, rfl, by omega, by omega⟩
  obtain ⟨k1, k2, k3, k4⟩ := key i h1 h2
  obtain ⟨n1, n2⟩ := nx_in h1 h2
  obtain ⟨⟨q1, q2, q3⟩, q4⟩ := hr (nx a b i) n1 n2
  rw [hm] at hk
  rw [← hk] at k1 k2
  have b3 := rpos_bd O a b n1
  refine ⟨rpos O a b (nx a b i), k1, by omega, k4, q1, q2, q3, fun ho => ?_⟩
  obtain ⟨m1, m2, m3, m4⟩ := key (nx a b i) n1 n2
  obtain ⟨p1, p2⟩ := nx_in n1 n2
  obtain ⟨⟨r1, r2, r3⟩, -⟩ := hr (nx a b (nx a b i)) p1 p2
  have b4 := rpos_bd O a b p1
  by_cases hq : mid O a b (nx a b i) = true
  · obtain ⟨s1, s2, s3⟩ := q4 hq
    have l := rpos_lt O a b n1 n2
    rw [if_pos hq] at l
    have ho2 : O (nx a b (nx a b i)) = false := by
      unfold mid at hq
      cases hz : O (nx a b (nx a b i)) with
      | false => rfl
      | true => rw [hz] at hq; simp at hq
    refine ⟨rpos O a b (nx a b i) + 1, by rw [k2, Int.emod_eq_of_lt (by omega) (by omega)], by omega, by omega, ?_, ?_⟩
    · rw [s1]; unfold cen; rw [ho2, if_neg (by decide)]
    · rw [s2]; unfold cen; rw [ho2, if_neg (by decide)]
  · have hq' : mid O a b (nx a b i) = false := by simpa using hq
    have ho2 : O (nx a b (nx a b i)) = true := by
      unfold mid at hq'
      rw [ho] at hq'
      simpa using hq'
    rw [hq'] at m1
    refine ⟨rpos O a b (nx a b (nx a b i)), by rw [k2, ← m1]; simp [bz], by omega, m4, ?_, ?_⟩
    · rw [r1]; unfold cen; rw [ho2, if_pos rfl]
    · rw [r2]; unfold cen; rw [ho2, if_pos rfl]
theorem cen_ok {F : Int → Int} {O : Int → Bool} {i j : Int} (hi : -8192 ≤ F i ∧ F i ≤ 8191) (hj : -8192 ≤ F j ∧ F j ≤ 8191) : okc (cen F O i j) := by
  unfold cen okc
  split <;> omega

set_option maxHeartbeats 4000000 in
set_option maxRecDepth 100000 in
/-- putPiece -/
theorem m_putPiece (l : Launch) (dC : Nat → ClassId) (dI : Nat → Nat → Nat) (ad : Nat → Nat) (cs : Nat → ClassId) (sz : Nat) (ft : Int) (par : Bool) (np nc rs npc hi lo : Int) (X Y : Int → Int) (O : Int → Bool) (E RX RY : Int → Int) (RO : Int → Bool) (PC : Int → Int) (CV : Int → Bool) (a b d : Int) (cv : Bool) (h1 : 0 ≤ npc ∧ npc < 512) (h2 : 0 ≤ a ∧ a < 1024) (h3 : 0 ≤ b ∧ b < 1024) (h4 : 0 ≤ d ∧ d < 1024) : Met l yM_putPiece wM_putPiece ({ frames := 0, cells := 0, slots := 0, locals := 0 }) (va_Pc [.ref (ad 0), .int (iI a), .int (iI b), .int (iI d), .int (iI (bz cv))] (fun U => U.heap.size = sz ∧ va_P (dC, dI) vwCl (mW ad cs ft par np nc rs npc hi lo X Y O E RX RY RO PC CV) U.heap ∧ va_K (dC, dI) vwCl (mT cs) U ∧ va_D (fun _ => True) (mW ad cs ft par np nc rs npc hi lo X Y O E RX RY RO PC CV))) (va_Qv (fun (u : Unit) => True) (fun (u : Unit) t9 => va_P (dC, dI) vwCl (mW ad cs ft par np nc rs (npc + 1) hi lo X Y O E RX RY RO (put6 PC npc (RX a) (RY a) (RX b) (RY b) (RX d) (RY d)) (up CV npc cv)) t9.heap ∧ va_K (dC, dI) vwCl (mT cs) t9 ∧ va_D (va_A (mW ad cs ft par np nc rs npc hi lo X Y O E RX RY RO PC CV) sz) (mW ad cs ft par np nc rs (npc + 1) hi lo X Y O E RX RY RO (put6 PC npc (RX a) (RY a) (RX b) (RY b) (RX d) (RY d)) (up CV npc cv))) (va_A (mW ad cs ft par np nc rs npc hi lo X Y O E RX RY RO PC CV) sz)) 0 0 (va_A (mW ad cs ft par np nc rs npc hi lo X Y O E RX RY RO PC CV) sz) := by
  refine Met.ofW (cc := cM_putPiece) (maxL := 6) (ret := none) (by decide) rfl ?_
  intro p e s m args below meth c s₁ B hml hv
  obtain ⟨hargs, hsz, hP, hK, hD0⟩ := hv
  have hx := B.exec
  have hb := B.bytes
  have hr := B.returns
  have hts := atoms_spec (ws := wM_putPiece) B.pre
  have hown : s.vm.findClass RM = some m.cls := findClass_of_methodNamed B.named
  have hlocks := B.notSynchronized
  subst hsz
  have hD := hD0.self (sz := s.heap.size)
  generalize hAe : va_A (mW ad cs ft par np nc rs npc hi lo X Y O E RX RY RO PC CV) s.heap.size = A at hD ⊢
  have hA : ∀ q : Nat, s.heap.size ≤ q → A q := fun q h => by rw [← hAe]; exact Or.inr h
  have hS0 : va_S A s.heap s.heap [] := va_S.rf
  refine x_name (fun R Q H locs hR hQ hH hlo => ?_)
  rw [← hH] at hP
  have hS : va_S A s.heap H locs := by rw [hH, hlo]; exact hS0
  refine x_entry hargs (Nat.le_of_ble_eq_true rfl) (fun ls hl => ?_)
  have hl : lv_has ls 6 [(0, .ref (ad 0)), (1, .int (iI a)), (2, .int (iI b)), (3, .int (iI d)), (4, .int (iI (bz cv)))] := hl
  have hP : va_P (dC, dI) vwCl (mW ad cs ft par np nc rs npc hi lo X Y O E RX RY RO PC CV) H := hP
  refine lv_bipush (v := iI 6) hx hb dM_putPiece_0 (by decide +kernel) ?_
  refine lv_aload_n hx hb dM_putPiece_2 rfl (lv_at hl 0 rfl) ?_
  refine va_get (D := (dC, dI)) (ci := 3) (v := .int (iI npc)) (C := RM) (T := TM) (N := 17) hx hb hts (fun w9 h9 => List.mem_cons_of_mem _ (inM w9 h9)) hown hK hP 0 rfl rfl 12 (by decide) (hts _ (List.mem_cons_of_mem _ flM_78)) (fun _ h9 => h9) rfl dM_putPiece_3 ?_
  refine xi_mul (z := 6 * npc) hx hb dM_putPiece_6 rfl ?_
  refine lv_istore (lv' := [(5, .int (iI (6 * npc))), (0, .ref (ad 0)), (1, .int (iI a)), (2, .int (iI b)), (3, .int (iI d)), (4, .int (iI (bz cv)))]) hx hb dM_putPiece_7 hl (by decide) rfl (fun ls hl => ?_)
  refine lv_aload_n hx hb dM_putPiece_9 rfl (lv_at hl 1 rfl) ?_
  refine va_get (D := (dC, dI)) (ci := 3) (v := .ref (ad 8)) (C := RM) (T := TM) (N := 17) hx hb hts (fun w9 h9 => List.mem_cons_of_mem _ (inM w9 h9)) hown hK hP 0 rfl rfl 13 (by decide) (hts _ (List.mem_cons_of_mem _ flM_32)) (fun _ h9 => h9) rfl dM_putPiece_10 ?_
  refine lv_iload hx hb dM_putPiece_13 (lv_at hl 0 rfl) ?_
  refine lv_aload_n hx hb dM_putPiece_15 rfl (lv_at hl 1 rfl) ?_
  refine va_get (D := (dC, dI)) (ci := 3) (v := .ref (ad 5)) (C := RM) (T := TM) (N := 17) hx hb hts (fun w9 h9 => List.mem_cons_of_mem _ (inM w9 h9)) hown hK hP 0 rfl rfl 9 (by decide) (hts _ (List.mem_cons_of_mem _ flM_23)) (fun _ h9 => h9) rfl dM_putPiece_16 ?_
  refine lv_iload_n hx hb dM_putPiece_19 rfl (lv_at hl 2 rfl) ?_
  refine xa_iald hx hb hK hP 5 4 rfl rfl (by decide) (by omega) dM_putPiece_20 ?_
  refine xa_iast (z := 6 * npc) (v := RX a) hx hb hK hP hD hS 8 7 rfl rfl (by decide) (by omega) dM_putPiece_21 (fun H locs hP hD hS => ?_)
  have hP : va_P (dC, dI) vwCl (mW ad cs ft par np nc rs npc hi lo X Y O E RX RY RO (up PC (6 * npc) (RX a)) CV) H := hP
  have hD : va_D A (mW ad cs ft par np nc rs npc hi lo X Y O E RX RY RO (up PC (6 * npc) (RX a)) CV) := hD
  refine lv_aload_n hx hb dM_putPiece_22 rfl (lv_at hl 1 rfl) ?_
  refine va_get (D := (dC, dI)) (ci := 3) (v := .ref (ad 8)) (C := RM) (T := TM) (N := 17) hx hb hts (fun w9 h9 => List.mem_cons_of_mem _ (inM w9 h9)) hown hK hP 0 rfl rfl 13 (by decide) (hts _ (List.mem_cons_of_mem _ flM_32)) (fun _ h9 => h9) rfl dM_putPiece_23 ?_
  refine lv_iload hx hb dM_putPiece_26 (lv_at hl 0 rfl) ?_
  refine xi_iconst hx hb dM_putPiece_28 ?_
  refine xi_add (z := (6 * npc) + 1) hx hb dM_putPiece_29 rfl ?_
  refine lv_aload_n hx hb dM_putPiece_30 rfl (lv_at hl 1 rfl) ?_
  refine va_get (D := (dC, dI)) (ci := 3) (v := .ref (ad 6)) (C := RM) (T := TM) (N := 17) hx hb hts (fun w9 h9 => List.mem_cons_of_mem _ (inM w9 h9)) hown hK hP 0 rfl rfl 10 (by decide) (hts _ (List.mem_cons_of_mem _ flM_26)) (fun _ h9 => h9) rfl dM_putPiece_31 ?_
  refine lv_iload_n hx hb dM_putPiece_34 rfl (lv_at hl 2 rfl) ?_
  refine xa_iald hx hb hK hP 6 5 rfl rfl (by decide) (by omega) dM_putPiece_35 ?_
  refine xa_iast (z := (6 * npc) + 1) (v := RY a) hx hb hK hP hD hS 8 7 rfl rfl (by decide) (by omega) dM_putPiece_36 (fun H locs hP hD hS => ?_)
  have hP : va_P (dC, dI) vwCl (mW ad cs ft par np nc rs npc hi lo X Y O E RX RY RO (up (up PC (6 * npc) (RX a)) ((6 * npc) + 1) (RY a)) CV) H := hP
  have hD : va_D A (mW ad cs ft par np nc rs npc hi lo X Y O E RX RY RO (up (up PC (6 * npc) (RX a)) ((6 * npc) + 1) (RY a)) CV) := hD
  refine lv_aload_n hx hb dM_putPiece_37 rfl (lv_at hl 1 rfl) ?_
  refine va_get (D := (dC, dI)) (ci := 3) (v := .ref (ad 8)) (C := RM) (T := TM) (N := 17) hx hb hts (fun w9 h9 => List.mem_cons_of_mem _ (inM w9 h9)) hown hK hP 0 rfl rfl 13 (by decide) (hts _ (List.mem_cons_of_mem _ flM_32)) (fun _ h9 => h9) rfl dM_putPiece_38 ?_
  refine lv_iload hx hb dM_putPiece_41 (lv_at hl 0 rfl) ?_
  refine xi_iconst hx hb dM_putPiece_43 ?_
  refine xi_add (z := (6 * npc) + 2) hx hb dM_putPiece_44 rfl ?_
  refine lv_aload_n hx hb dM_putPiece_45 rfl (lv_at hl 1 rfl) ?_
  refine va_get (D := (dC, dI)) (ci := 3) (v := .ref (ad 5)) (C := RM) (T := TM) (N := 17) hx hb hts (fun w9 h9 => List.mem_cons_of_mem _ (inM w9 h9)) hown hK hP 0 rfl rfl 9 (by decide) (hts _ (List.mem_cons_of_mem _ flM_23)) (fun _ h9 => h9) rfl dM_putPiece_46 ?_
  refine lv_iload_n hx hb dM_putPiece_49 rfl (lv_at hl 3 rfl) ?_
  refine xa_iald hx hb hK hP 5 4 rfl rfl (by decide) (by omega) dM_putPiece_50 ?_
  refine xa_iast (z := (6 * npc) + 2) (v := RX b) hx hb hK hP hD hS 8 7 rfl rfl (by decide) (by omega) dM_putPiece_51 (fun H locs hP hD hS => ?_)
  have hP : va_P (dC, dI) vwCl (mW ad cs ft par np nc rs npc hi lo X Y O E RX RY RO (up (up (up PC (6 * npc) (RX a)) ((6 * npc) + 1) (RY a)) ((6 * npc) + 2) (RX b)) CV) H := hP
  have hD : va_D A (mW ad cs ft par np nc rs npc hi lo X Y O E RX RY RO (up (up (up PC (6 * npc) (RX a)) ((6 * npc) + 1) (RY a)) ((6 * npc) + 2) (RX b)) CV) := hD
  refine lv_aload_n hx hb dM_putPiece_52 rfl (lv_at hl 1 rfl) ?_
  refine va_get (D := (dC, dI)) (ci := 3) (v := .ref (ad 8)) (C := RM) (T := TM) (N := 17) hx hb hts (fun w9 h9 => List.mem_cons_of_mem _ (inM w9 h9)) hown hK hP 0 rfl rfl 13 (by decide) (hts _ (List.mem_cons_of_mem _ flM_32)) (fun _ h9 => h9) rfl dM_putPiece_53 ?_
  refine lv_iload hx hb dM_putPiece_56 (lv_at hl 0 rfl) ?_
  refine xi_iconst hx hb dM_putPiece_58 ?_
  refine xi_add (z := (6 * npc) + 3) hx hb dM_putPiece_59 rfl ?_
  refine lv_aload_n hx hb dM_putPiece_60 rfl (lv_at hl 1 rfl) ?_
  refine va_get (D := (dC, dI)) (ci := 3) (v := .ref (ad 6)) (C := RM) (T := TM) (N := 17) hx hb hts (fun w9 h9 => List.mem_cons_of_mem _ (inM w9 h9)) hown hK hP 0 rfl rfl 10 (by decide) (hts _ (List.mem_cons_of_mem _ flM_26)) (fun _ h9 => h9) rfl dM_putPiece_61 ?_
  refine lv_iload_n hx hb dM_putPiece_64 rfl (lv_at hl 3 rfl) ?_
  refine xa_iald hx hb hK hP 6 5 rfl rfl (by decide) (by omega) dM_putPiece_65 ?_
  refine xa_iast (z := (6 * npc) + 3) (v := RY b) hx hb hK hP hD hS 8 7 rfl rfl (by decide) (by omega) dM_putPiece_66 (fun H locs hP hD hS => ?_)
  have hP : va_P (dC, dI) vwCl (mW ad cs ft par np nc rs npc hi lo X Y O E RX RY RO (up (up (up (up PC (6 * npc) (RX a)) ((6 * npc) + 1) (RY a)) ((6 * npc) + 2) (RX b)) ((6 * npc) + 3) (RY b)) CV) H := hP
  have hD : va_D A (mW ad cs ft par np nc rs npc hi lo X Y O E RX RY RO (up (up (up (up PC (6 * npc) (RX a)) ((6 * npc) + 1) (RY a)) ((6 * npc) + 2) (RX b)) ((6 * npc) + 3) (RY b)) CV) := hD
  refine lv_aload_n hx hb dM_putPiece_67 rfl (lv_at hl 1 rfl) ?_
  refine va_get (D := (dC, dI)) (ci := 3) (v := .ref (ad 8)) (C := RM) (T := TM) (N := 17) hx hb hts (fun w9 h9 => List.mem_cons_of_mem _ (inM w9 h9)) hown hK hP 0 rfl rfl 13 (by decide) (hts _ (List.mem_cons_of_mem _ flM_32)) (fun _ h9 => h9) rfl dM_putPiece_68 ?_
  refine lv_iload hx hb dM_putPiece_71 (lv_at hl 0 rfl) ?_
  refine xi_iconst hx hb dM_putPiece_73 ?_
  refine xi_add (z := (6 * npc) + 4) hx hb dM_putPiece_74 rfl ?_
  refine lv_aload_n hx hb dM_putPiece_75 rfl (lv_at hl 1 rfl) ?_
  refine va_get (D := (dC, dI)) (ci := 3) (v := .ref (ad 5)) (C := RM) (T := TM) (N := 17) hx hb hts (fun w9 h9 => List.mem_cons_of_mem _ (inM w9 h9)) hown hK hP 0 rfl rfl 9 (by decide) (hts _ (List.mem_cons_of_mem _ flM_23)) (fun _ h9 => h9) rfl dM_putPiece_76 ?_
  refine lv_iload_n hx hb dM_putPiece_79 rfl (lv_at hl 4 rfl) ?_
  refine xa_iald hx hb hK hP 5 4 rfl rfl (by decide) (by omega) dM_putPiece_80 ?_
  refine xa_iast (z := (6 * npc) + 4) (v := RX d) hx hb hK hP hD hS 8 7 rfl rfl (by decide) (by omega) dM_putPiece_81 (fun H locs hP hD hS => ?_)
  have hP : va_P (dC, dI) vwCl (mW ad cs ft par np nc rs npc hi lo X Y O E RX RY RO (up (up (up (up (up PC (6 * npc) (RX a)) ((6 * npc) + 1) (RY a)) ((6 * npc) + 2) (RX b)) ((6 * npc) + 3) (RY b)) ((6 * npc) + 4) (RX d)) CV) H := hP
  have hD : va_D A (mW ad cs ft par np nc rs npc hi lo X Y O E RX RY RO (up (up (up (up (up PC (6 * npc) (RX a)) ((6 * npc) + 1) (RY a)) ((6 * npc) + 2) (RX b)) ((6 * npc) + 3) (RY b)) ((6 * npc) + 4) (RX d)) CV) := hD
  refine lv_aload_n hx hb dM_putPiece_82 rfl (lv_at hl 1 rfl) ?_
  refine va_get (D := (dC, dI)) (ci := 3) (v := .ref (ad 8)) (C := RM) (T := TM) (N := 17) hx hb hts (fun w9 h9 => List.mem_cons_of_mem _ (inM w9 h9)) hown hK hP 0 rfl rfl 13 (by decide) (hts _ (List.mem_cons_of_mem _ flM_32)) (fun _ h9 => h9) rfl dM_putPiece_83 ?_
  refine lv_iload hx hb dM_putPiece_86 (lv_at hl 0 rfl) ?_
  refine xi_iconst hx hb dM_putPiece_88 ?_
  refine xi_add (z := (6 * npc) + 5) hx hb dM_putPiece_89 rfl ?_
  refine lv_aload_n hx hb dM_putPiece_90 rfl (lv_at hl 1 rfl) ?_
  refine va_get (D := (dC, dI)) (ci := 3) (v := .ref (ad 6)) (C := RM) (T := TM) (N := 17) hx hb hts (fun w9 h9 => List.mem_cons_of_mem _ (inM w9 h9)) hown hK hP 0 rfl rfl 10 (by decide) (hts _ (List.mem_cons_of_mem _ flM_26)) (fun _ h9 => h9) rfl dM_putPiece_91 ?_
  refine lv_iload_n hx hb dM_putPiece_94 rfl (lv_at hl 4 rfl) ?_
  refine xa_iald hx hb hK hP 6 5 rfl rfl (by decide) (by omega) dM_putPiece_95 ?_
  refine xa_iast (z := (6 * npc) + 5) (v := RY d) hx hb hK hP hD hS 8 7 rfl rfl (by decide) (by omega) dM_putPiece_96 (fun H locs hP hD hS => ?_)
  have hP : va_P (dC, dI) vwCl (mW ad cs ft par np nc rs npc hi lo X Y O E RX RY RO (up (up (up (up (up (up PC (6 * npc) (RX a)) ((6 * npc) + 1) (RY a)) ((6 * npc) + 2) (RX b)) ((6 * npc) + 3) (RY b)) ((6 * npc) + 4) (RX d)) ((6 * npc) + 5) (RY d)) CV) H := hP
  have hD : va_D A (mW ad cs ft par np nc rs npc hi lo X Y O E RX RY RO (up (up (up (up (up (up PC (6 * npc) (RX a)) ((6 * npc) + 1) (RY a)) ((6 * npc) + 2) (RX b)) ((6 * npc) + 3) (RY b)) ((6 * npc) + 4) (RX d)) ((6 * npc) + 5) (RY d)) CV) := hD
  refine lv_aload_n hx hb dM_putPiece_97 rfl (lv_at hl 1 rfl) ?_
  refine va_get (D := (dC, dI)) (ci := 3) (v := .ref (ad 9)) (C := RM) (T := TM) (N := 17) hx hb hts (fun w9 h9 => List.mem_cons_of_mem _ (inM w9 h9)) hown hK hP 0 rfl rfl 14 (by decide) (hts _ (List.mem_cons_of_mem _ flM_35)) (fun _ h9 => h9) rfl dM_putPiece_98 ?_
  refine lv_aload_n hx hb dM_putPiece_101 rfl (lv_at hl 1 rfl) ?_
  refine va_get (D := (dC, dI)) (ci := 3) (v := .int (iI npc)) (C := RM) (T := TM) (N := 17) hx hb hts (fun w9 h9 => List.mem_cons_of_mem _ (inM w9 h9)) hown hK hP 0 rfl rfl 12 (by decide) (hts _ (List.mem_cons_of_mem _ flM_78)) (fun _ h9 => h9) rfl dM_putPiece_102 ?_
  refine lv_iload hx hb dM_putPiece_105 (lv_at hl 5 rfl) ?_
  refine xa_zast (z := npc) (v := cv) hx hb hK hP hD hS 9 8 rfl rfl (by decide) (by omega) dM_putPiece_107 (fun H locs hP hD hS => ?_)
  have hP : va_P (dC, dI) vwCl (mW ad cs ft par np nc rs npc hi lo X Y O E RX RY RO (up (up (up (up (up (up PC (6 * npc) (RX a)) ((6 * npc) + 1) (RY a)) ((6 * npc) + 2) (RX b)) ((6 * npc) + 3) (RY b)) ((6 * npc) + 4) (RX d)) ((6 * npc) + 5) (RY d)) (up CV npc cv)) H := hP
  have hD : va_D A (mW ad cs ft par np nc rs npc hi lo X Y O E RX RY RO (up (up (up (up (up (up PC (6 * npc) (RX a)) ((6 * npc) + 1) (RY a)) ((6 * npc) + 2) (RX b)) ((6 * npc) + 3) (RY b)) ((6 * npc) + 4) (RX d)) ((6 * npc) + 5) (RY d)) (up CV npc cv)) := hD
  refine lv_aload_n hx hb dM_putPiece_108 rfl (lv_at hl 1 rfl) ?_
  refine lv_dup hx hb dM_putPiece_109 rfl ?_
  refine va_get (D := (dC, dI)) (ci := 3) (v := .int (iI npc)) (C := RM) (T := TM) (N := 17) hx hb hts (fun w9 h9 => List.mem_cons_of_mem _ (inM w9 h9)) hown hK hP 0 rfl rfl 12 (by decide) (hts _ (List.mem_cons_of_mem _ flM_78)) (fun _ h9 => h9) rfl dM_putPiece_110 ?_
  refine xi_iconst hx hb dM_putPiece_113 ?_
  refine xi_add (z := npc + 1) hx hb dM_putPiece_114 rfl ?_
  refine va_put (D := (dC, dI)) (ci := 3) (v := .int (iI (npc + 1))) (ty := .int) (C := RM) (T := TM) (N := 17) hx hb hts (fun w9 h9 => List.mem_cons_of_mem _ (inM w9 h9)) tyM tyM_ok nmM hown hK hP hD hS 0 rfl rfl 12 (by decide) (hts _ (List.mem_cons_of_mem _ flM_78)) (fun _ h9 => h9) rfl (by decide +kernel) rfl rfl (Nat.le_of_ble_eq_true rfl) dM_putPiece_115 (fun H locs hP hD hS => ?_)
  have hP : va_P (dC, dI) vwCl (mW ad cs ft par np nc rs (npc + 1) hi lo X Y O E RX RY RO (up (up (up (up (up (up PC (6 * npc) (RX a)) ((6 * npc) + 1) (RY a)) ((6 * npc) + 2) (RX b)) ((6 * npc) + 3) (RY b)) ((6 * npc) + 4) (RX d)) ((6 * npc) + 5) (RY d)) (up CV npc cv)) H := hP
  have hD : va_D A (mW ad cs ft par np nc rs (npc + 1) hi lo X Y O E RX RY RO (up (up (up (up (up (up PC (6 * npc) (RX a)) ((6 * npc) + 1) (RY a)) ((6 * npc) + 2) (RX b)) ((6 * npc) + 3) (RY b)) ((6 * npc) + 4) (RX d)) ((6 * npc) + 5) (RY d)) (up CV npc cv)) := hD
  subst hQ
  exact W.vret hx hb hr (fun t9 ht9 hW9 => ⟨⟨(), rfl, (trivial), by rw [ht9]; exact hP, va_K.moved hW9.alike hK, hD⟩, hS.F ht9⟩) hS.2.2 dM_putPiece_118
theorem emi_line {X Y : Int → Int} {O : Int → Bool} {a b i : Int} (h : hT) (h1 : O i = true) (h2 : O (nx a b i) = true) : emi X Y O a b h i = h (X i) (Y i) (X i) (Y i) (X (nx a b i)) (Y (nx a b i)) false := by unfold emi; rw [if_pos h2, if_pos h1]
theorem emi_curve {X Y : Int → Int} {O : Int → Bool} {a b i : Int} (h : hT) (h2 : O (nx a b i) = false) : emi X Y O a b h i = h (cen X O (nx a b i) i) (cen Y O (nx a b i) i) (X (nx a b i)) (Y (nx a b i)) (cen X O (nx a b i) (nx a b (nx a b i))) (cen Y O (nx a b i) (nx a b (nx a b i))) true := by unfold emi; rw [if_neg (by rw [h2]; decide)]
theorem emi_none {X Y : Int → Int} {O : Int → Bool} {a b i : Int} (h : hT) (h1 : O i = false) (h2 : O (nx a b i) = true) : emi X Y O a b h i = 0 := by unfold emi; rw [if_pos h2, if_neg (by rw [h1]; decide)]
theorem esum_s {X Y : Int → Int} {O : Int → Bool} {a b i : Int} (h : hT) (hi : a ≤ i) : isum (fun q => emi X Y O a b h (a + q)) (i + 1 - a).toNat = isum (fun q => emi X Y O a b h (a + q)) (i - a).toNat + emi X Y O a b h i := by
  rw [show i + 1 - a = (i - a) + 1 by omega, isum_s _ (by omega), show a + (i - a) = i by omega]
theorem tot_s {X Y : Int → Int} {O : Int → Bool} {E : Int → Int} {c : Int} (h : hT) (hc : 0 ≤ c) : tot X Y O E h (c + 1) = tot X Y O E h c + cts X Y O E h c := by unfold tot; rw [isum_s _ hc]
theorem stE_s {E : Int → Int} {c : Int} (hc : 0 ≤ c) : stE E (c + 1) = E c := by unfold stE; rw [if_neg (by omega), show c + 1 - 1 = c by omega]
theorem cen_t {F : Int → Int} {O : Int → Bool} {j i : Int} (h : O i = true) : cen F O j i = F i := by unfold cen; rw [if_pos h]
theorem cen_f {F : Int → Int} {O : Int → Bool} {j i : Int} (h : O i = false) : cen F O j i = (F i + F j) / 2 := by unfold cen; rw [if_neg (by rw [h]; decide), Int.add_comm]
/-- contours follow each other, none is empty -/
def ctOk (nc : Int) (E : Int → Int) : Prop := ∀ c : Int, 0 ≤ c → c < nc → 0 ≤ stE E c ∧ stE E c < E c ∧ E c ≤ clo nc E
theorem mid_t {O : Int → Bool} {a b i : Int} (h : mid O a b i = true) : O i = false ∧ O (nx a b i) = false := by
  unfold mid at h
  cases h1 : O i <;> cases h2 : O (nx a b i) <;> rw [h1, h2] at h <;> first | exact ⟨rfl, rfl⟩ | cases h
theorem mid_on {O : Int → Bool} {a b i : Int} (h : O i = true) : mid O a b i = false := by unfold mid; rw [h]; rfl
theorem mid_f {O : Int → Bool} {a b i : Int} (h : O i = false) (hm : mid O a b i = false) : O (nx a b i) = true := by
  unfold mid at hm
  rw [h] at hm
  simpa using hm
set_option maxHeartbeats 4000000 in
set_option maxRecDepth 100000 in
/-- makePieces -/
theorem m_makePieces (l : Launch) (dC : Nat → ClassId) (dI : Nat → Nat → Nat) (ad : Nat → Nat) (cs : Nat → ClassId) (sz : Nat) (ft : Int) (par : Bool) (np nc rs npc hi lo : Int) (X Y : Int → Int) (O : Int → Bool) (E RX RY : Int → Int) (RO : Int → Bool) (PC : Int → Int) (CV : Int → Bool) (h1 : 0 ≤ nc ∧ nc ≤ 64) (h2 : ctOk nc E) (h3 : 0 ≤ clo nc E ∧ clo nc E ≤ 512) (h4 : ∀ k : Int, 0 ≤ k → k < clo nc E → (-8192 ≤ X k ∧ X k ≤ 8191) ∧ (-8192 ≤ Y k ∧ Y k ≤ 8191)) : Met l yM_makePieces wM_makePieces ({ frames := 2, cells := 0, slots := 0, locals := 47 }) (va_Pc [.ref (ad 0)] (fun U => U.heap.size = sz ∧ va_P (dC, dI) vwCl (mW ad cs ft par np nc rs npc hi lo X Y O E RX RY RO PC CV) U.heap ∧ va_K (dC, dI) vwCl (mT cs) U ∧ va_D (fun _ => True) (mW ad cs ft par np nc rs npc hi lo X Y O E RX RY RO PC CV))) (va_Qv (fun (u : Int × (Int → Int) × (Int → Bool) × Int × (Int → Int) × (Int → Int) × (Int → Bool)) => (0 ≤ u.1 ∧ u.1 ≤ 512) ∧ (∀ h : hT, isum (pcs h u.2.1 u.2.2.1) u.1.toNat = tot X Y O E h nc) ∧ pcOk u.2.1 u.1) (fun (u : Int × (Int → Int) × (Int → Bool) × Int × (Int → Int) × (Int → Int) × (Int → Bool)) t9 => va_P (dC, dI) vwCl (mW ad cs ft par np nc u.2.2.2.1 u.1 hi lo X Y O E u.2.2.2.2.1 u.2.2.2.2.2.1 u.2.2.2.2.2.2 u.2.1 u.2.2.1) t9.heap ∧ va_K (dC, dI) vwCl (mT cs) t9 ∧ va_D (va_A (mW ad cs ft par np nc rs npc hi lo X Y O E RX RY RO PC CV) sz) (mW ad cs ft par np nc u.2.2.2.1 u.1 hi lo X Y O E u.2.2.2.2.1 u.2.2.2.2.2.1 u.2.2.2.2.2.2 u.2.1 u.2.2.1)) (va_A (mW ad cs ft par np nc rs npc hi lo X Y O E RX RY RO PC CV) sz)) 0 0 (va_A (mW ad cs ft par np nc rs npc hi lo X Y O E RX RY RO PC CV) sz) := by
  refine Met.ofW (cc := cM_makePieces) (maxL := 4) (ret := none) (by decide) rfl ?_
  intro p e s m args below meth c s₁ B hml hv
  obtain ⟨hargs, hsz, hP, hK, hD0⟩ := hv
  have hx := B.exec
  have hb := B.bytes
  have hr := B.returns
  have hts := atoms_spec (ws := wM_makePieces) B.pre
  have hown : s.vm.findClass RM = some m.cls := findClass_of_methodNamed B.named
  have hlocks := B.notSynchronized
  subst hsz
  have hD := hD0.self (sz := s.heap.size)
  generalize hAe : va_A (mW ad cs ft par np nc rs npc hi lo X Y O E RX RY RO PC CV) s.heap.size = A at hD ⊢
  have hA : ∀ q : Nat, s.heap.size ≤ q → A q := fun q h => by rw [← hAe]; exact Or.inr h
  have hS0 : va_S A s.heap s.heap [] := va_S.rf
  refine x_name (fun R Q H locs hR hQ hH hlo => ?_)
  rw [← hH] at hP
  have hS : va_S A s.heap H locs := by rw [hH, hlo]; exact hS0
  refine x_entry hargs (Nat.le_of_ble_eq_true rfl) (fun ls hl => ?_)
  have hl : lv_has ls 4 [(0, .ref (ad 0))] := hl
  have hP : va_P (dC, dI) vwCl (mW ad cs ft par np nc rs npc hi lo X Y O E RX RY RO PC CV) H := hP
  refine lv_aload_n hx hb dM_makePieces_0 rfl (lv_at hl 0 rfl) ?_
  refine xi_iconst hx hb dM_makePieces_1 ?_
  refine va_put (D := (dC, dI)) (ci := 3) (v := .int (iI 0)) (ty := .int) (C := RM) (T := TM) (N := 17) hx hb hts (fun w9 h9 => List.mem_cons_of_mem _ (inM w9 h9)) tyM tyM_ok nmM hown hK hP hD hS 0 rfl rfl 12 (by decide) (hts _ (List.mem_cons_of_mem _ flM_78)) (fun _ h9 => h9) rfl (by decide +kernel) rfl rfl (Nat.le_of_ble_eq_true rfl) dM_makePieces_2 (fun H locs hP hD hS => ?_)
  have hP : va_P (dC, dI) vwCl (mW ad cs ft par np nc rs 0 hi lo X Y O E RX RY RO PC CV) H := hP
  have hD : va_D A (mW ad cs ft par np nc rs 0 hi lo X Y O E RX RY RO PC CV) := hD
  refine xi_iconst hx hb dM_makePieces_5 ?_
  refine lv_istore_n (lv' := [(1, .int (iI 0)), (0, .ref (ad 0))]) hx hb dM_makePieces_6 rfl hl (by decide) rfl (fun ls hl => ?_)
  have cut_7_1 : ∀ (fu_7 : Nat) (ci : Int) (n : Int) (GP : Int → Int) (GC : Int → Bool) (vr : Int) (VX : Int → Int) (VY : Int → Int) (VO : Int → Bool) (H : Heap) (locs : List Loc) (ls : Array Slot), ((nc - ci).toNat) < fu_7 → (0 ≤ ci ∧ ci ≤ nc) → (0 ≤ n ∧ n ≤ stE E ci) → (∀ h : hT, isum (pcs h GP GC) n.toNat = tot X Y O E h ci) → (pcOk GP n) → va_P (dC, dI) vwCl (mW ad cs ft par np nc vr n hi lo X Y O E VX VY VO GP GC) H → va_D A (mW ad cs ft par np nc vr n hi lo X Y O E VX VY VO GP GC) → va_S A s.heap H locs → lv_has ls 4 [(0, .ref (ad 0)), (1, .int (iI ci))] → W p l e R s m args below meth c H locs 0 0 Q (F0 m 7 ls []) := by
    intro fu_7
    induction fu_7 with
    | zero => intro _ _ _ _ _ _ _ _ _ _ _ hm; exact absurd hm (Nat.not_lt_zero _)
    | succ fu_7 ih_7 =>
      intro ci n GP GC vr VX VY VO H locs ls hm o1 o2 o3 o4 hP hD hS hl
      refine lv_iload_n hx hb dM_makePieces_7 rfl (lv_at hl 1 rfl) ?_
      refine lv_aload_n hx hb dM_makePieces_8 rfl (lv_at hl 0 rfl) ?_
      refine va_get (D := (dC, dI)) (ci := 3) (v := .int (iI nc)) (C := RM) (T := TM) (N := 17) hx hb hts (fun w9 h9 => List.mem_cons_of_mem _ (inM w9 h9)) hown hK hP 0 rfl rfl 6 (by decide) (hts _ (List.mem_cons_of_mem _ flM_53)) (fun _ h9 => h9) rfl dM_makePieces_9 ?_
      refine xi_icmp_ge (tgt := 125) hx hb dM_makePieces_12 (by decide) (by omega) (by omega) (fun c_12 => ?_) (fun c_12 => ?_)
      · skip
        subst hQ
        exact W.vret hx hb hr (fun t9 ht9 hW9 => ⟨⟨(n, GP, GC, vr, VX, VY, VO), rfl, (⟨⟨o2.1, by have q2 : stE E ci = clo nc E := (show ci = nc by omega) ▸ rfl; omega⟩, fun h => (show ci = nc by omega) ▸ o3 h, o4⟩), by rw [ht9]; exact hP, va_K.moved hW9.alike hK, hD⟩, hS.F ht9⟩) hS.2.2 dM_makePieces_125
      · skip
        have q0 := h2 ci o1.1 (by omega)
        refine lv_aload_n hx hb dM_makePieces_15 rfl (lv_at hl 0 rfl) ?_
        have cut_32_2 : ∀ (av : Int) (ls : Array Slot), (av = stE E ci) → lv_has ls 4 [(0, .ref (ad 0)), (1, .int (iI ci))] → W p l e R s m args below meth c H locs 0 0 Q (F0 m 32 ls [.int (iI av), .ref (ad 0)]) := by
          intro av ls hav hl
          rw [← hav] at q0 o2
          refine lv_aload_n hx hb dM_makePieces_32 rfl (lv_at hl 0 rfl) ?_
          refine va_get (D := (dC, dI)) (ci := 3) (v := .ref (ad 4)) (C := RM) (T := TM) (N := 17) hx hb hts (fun w9 h9 => List.mem_cons_of_mem _ (inM w9 h9)) hown hK hP 0 rfl rfl 7 (by decide) (hts _ (List.mem_cons_of_mem _ flM_20)) (fun _ h9 => h9) rfl dM_makePieces_33 ?_
          refine lv_iload_n hx hb dM_makePieces_36 rfl (lv_at hl 1 rfl) ?_
          refine xa_iald hx hb hK hP 4 3 rfl rfl (by decide) (by omega) dM_makePieces_37 ?_
          have hFc := xw_free hD hS hA
          refine va_callv (va_runV (As := [.int (iI av), .int (iI (E ci))]) (rest := []) ⟨hx, hb, hml, hown, hts⟩ (m_makeRing l dC dI ad cs H.size ft par np nc vr n hi lo X Y O E VX VY VO GP GC av (E ci) (by omega) (fun k q1 q2 => h4 k q1 (by omega))) (cwV 2 hts (tb_V mlM_81 imM_makeRing seM_makeRing iniM coM_makeRing) rfl rfl rfl (by decide +kernel) (by subst hR; exact ⟨Nat.le_of_ble_eq_true rfl, Nat.le_of_ble_eq_true rfl⟩)) ⟨fun a9 U9 g9 mk9 q9 => by obtain ⟨q0, q1, qP, qK, qD⟩ := q9; exact ⟨q0, q1, qP, va_K.moved (u := U9) (U := U9.calling g9 mk9 a9) (Vm.Alike.refl U9.vm) qK, qD⟩, va_recv hK hP (ci := 3) (q0 := 0) rfl rfl, fun U hU hW => ⟨rfl, by rw [hU], by rw [hU]; exact hP, va_K.moved hW.alike hK, hD.weaken (fun _ _ _ _ => trivial)⟩⟩ rfl rfl hl.1 rfl (lv_room (Nat.le_of_ble_eq_true rfl)) dM_makePieces_38 ⟨by subst hR; exact Nat.le_of_ble_eq_true rfl, by subst hR; exact Nat.le_of_ble_eq_true rfl⟩) hS (fun q9 _ h9 => hFc q9 h9) hFc (fun u_38 t9 H1 locs1 ht9 hvm9 hw_38 hB9 hz9 hk9 hS1 => ?_)
          obtain ⟨hP1, hK1, hD1⟩ := hB9
          rw [ht9] at hP1
          have hP : va_P (dC, dI) vwCl (mW ad cs ft par np nc u_38.1 n hi lo X Y O E u_38.2.1 u_38.2.2.1 u_38.2.2.2 GP GC) H1 := hP1
          have hD : va_D A (mW ad cs ft par np nc u_38.1 n hi lo X Y O E u_38.2.1 u_38.2.2.1 u_38.2.2.2 GP GC) := hD1.weaken (fun _ _ _ h9 => hFc _ h9)
          clear hP1 hD1 hK1 hFc
          have hS := hS1
          clear hS1 hz9 hk9 ht9 hvm9
          revert hP hD hS; generalize H1 = H; generalize locs1 = locs; intro hP hD hS
          obtain ⟨hrs, hring⟩ := hw_38
          have bb := rpos_bd O av (E ci) (show av ≤ E ci by omega)
          rw [← hrs] at bb
          refine xi_iconst hx hb dM_makePieces_41 ?_
          refine lv_istore_n (lv' := [(2, .int (iI 0)), (0, .ref (ad 0)), (1, .int (iI ci))]) hx hb dM_makePieces_42 rfl hl (by decide) rfl (fun ls hl => ?_)
          have cut_43_3 : ∀ (fu_43 : Nat) (k : Int) (i : Int) (md : Bool) (n2 : Int) (GP2 : Int → Int) (GC2 : Int → Bool) (H : Heap) (locs : List Loc) (ls : Array Slot), ((u_38.1 - k).toNat) < fu_43 → (av ≤ i ∧ i ≤ E ci) → (md = true → i < E ci ∧ mid O av (E ci) i = true) → (k = rpos O av (E ci) i + bz md) → (0 ≤ n2 ∧ n2 ≤ i) → (∀ h : hT, isum (pcs h GP2 GC2) n2.toNat = tot X Y O E h ci + isum (fun q => emi X Y O av (E ci) h (av + q)) (i - av).toNat) → (pcOk GP2 n2) → va_P (dC, dI) vwCl (mW ad cs ft par np nc u_38.1 n2 hi lo X Y O E u_38.2.1 u_38.2.2.1 u_38.2.2.2 GP2 GC2) H → va_D A (mW ad cs ft par np nc u_38.1 n2 hi lo X Y O E u_38.2.1 u_38.2.2.1 u_38.2.2.2 GP2 GC2) → va_S A s.heap H locs → lv_has ls 4 [(0, .ref (ad 0)), (1, .int (iI ci)), (2, .int (iI k))] → W p l e R s m args below meth c H locs 0 0 Q (F0 m 43 ls []) := by
            intro fu_43
            induction fu_43 with
            | zero => intro _ _ _ _ _ _ _ _ _ hm; exact absurd hm (Nat.not_lt_zero _)
            | succ fu_43 ih_43 =>
              intro k i md n2 GP2 GC2 H locs ls hm j1 j2 j3 j4 j5 j6 hP hD hS hl
              have bk := rpos_bd O av (E ci) j1.1
              have bz9 := bz_in md
              have hil : i < E ci → k < u_38.1 := fun h => by (have l := rpos_lt O av (E ci) j1.1 h; rw [← hrs] at l; cases md with | true => (rw [if_pos (j2 rfl).2] at l; rw [j3]; show _ + 1 < _; omega) | false => (rw [j3]; show _ + 0 < _; split at l <;> omega))
              have hie0 : u_38.1 ≤ k → i = E ci := fun h => by (rcases Int.lt_or_le i (E ci) with q | q; (have := hil q; omega); omega)
              refine lv_iload_n hx hb dM_makePieces_43 rfl (lv_at hl 2 rfl) ?_
              refine lv_aload_n hx hb dM_makePieces_44 rfl (lv_at hl 0 rfl) ?_
              refine va_get (D := (dC, dI)) (ci := 3) (v := .int (iI u_38.1)) (C := RM) (T := TM) (N := 17) hx hb hts (fun w9 h9 => List.mem_cons_of_mem _ (inM w9 h9)) hown hK hP 0 rfl rfl 8 (by decide) (hts _ (List.mem_cons_of_mem _ flM_71)) (fun _ h9 => h9) rfl dM_makePieces_45 ?_
              refine xi_icmp_ge (tgt := 119) hx hb dM_makePieces_48 (by decide) (by omega) (by omega) (fun c_48 => ?_) (fun c_48 => ?_)
              · skip
                have hie := hie0 (by omega)
                refine xi_iinc (z := ci + 1) (lv' := [(1, .int (iI (ci + 1))), (0, .ref (ad 0)), (2, .int (iI k))]) hx hb dM_makePieces_119 hl (k := 1) rfl rfl (by decide) rfl (fun ls hl => ?_)
                refine lv_goto (tgt := 7) hx hb dM_makePieces_122 (by decide) ?_
                exact ih_7 (ci + 1) n2 GP2 GC2 u_38.1 u_38.2.1 u_38.2.2.1 u_38.2.2.2 _ _ _ (by omega) (by omega) (⟨by omega, by rw [stE_s o1.1]; omega⟩) (fun h => by (rw [tot_s h o1.1, j5 h, hie, hav]; rfl)) (j6) hP hD hS (lv_sub hl [1, 0] rfl)
              · skip
                have hib : i < E ci := by (rcases Int.lt_or_le i (E ci) with q | q; exact q; exfalso; have q2 : i = E ci := (by omega); have q3 : md = false := (by cases hmd : md with | false => rfl | true => exact absurd (j2 hmd).1 (by omega)); rw [q3, q2, ← hrs] at j3; have q4 : k = u_38.1 + 0 := j3; omega)
                obtain ⟨⟨x1, x2, x3⟩, x4⟩ := hring i j1.1 hib
                have hRO : u_38.2.2.2 k = (md || O i) := by (cases hmd : md with | false => (rw [j3, hmd]; show u_38.2.2.2 (rpos O av (E ci) i + 0) = _; rw [Int.add_zero, x3]; rfl) | true => (rw [j3, hmd]; show u_38.2.2.2 (rpos O av (E ci) i + 1) = _; rw [(x4 (j2 hmd).2).2.2]; rfl))
                obtain ⟨t, ht⟩ : ∃ z, z = (k + 1) % u_38.1 := ⟨_, rfl⟩
                have bt : 0 ≤ t ∧ t < u_38.1 := by rw [ht]; exact ⟨Int.emod_nonneg _ (by omega), Int.emod_lt_of_pos _ (by omega)⟩
                refine lv_iload_n hx hb dM_makePieces_51 rfl (lv_at hl 2 rfl) ?_
                refine xi_iconst hx hb dM_makePieces_52 ?_
                refine xi_add (z := k + 1) hx hb dM_makePieces_53 rfl ?_
                refine lv_aload_n hx hb dM_makePieces_54 rfl (lv_at hl 0 rfl) ?_
                refine va_get (D := (dC, dI)) (ci := 3) (v := .int (iI u_38.1)) (C := RM) (T := TM) (N := 17) hx hb hts (fun w9 h9 => List.mem_cons_of_mem _ (inM w9 h9)) hown hK hP 0 rfl rfl 8 (by decide) (hts _ (List.mem_cons_of_mem _ flM_71)) (fun _ h9 => h9) rfl dM_makePieces_55 ?_
                refine xi_rem (z := t) hx hb dM_makePieces_58 (by omega) (by omega) (ht.symm) ?_
                refine lv_istore_n (lv' := [(3, .int (iI t)), (0, .ref (ad 0)), (1, .int (iI ci)), (2, .int (iI k))]) hx hb dM_makePieces_59 rfl hl (by decide) rfl (fun ls hl => ?_)
                refine lv_aload_n hx hb dM_makePieces_60 rfl (lv_at hl 1 rfl) ?_
                refine va_get (D := (dC, dI)) (ci := 3) (v := .ref (ad 7)) (C := RM) (T := TM) (N := 17) hx hb hts (fun w9 h9 => List.mem_cons_of_mem _ (inM w9 h9)) hown hK hP 0 rfl rfl 11 (by decide) (hts _ (List.mem_cons_of_mem _ flM_29)) (fun _ h9 => h9) rfl dM_makePieces_61 ?_
                refine lv_iload_n hx hb dM_makePieces_64 rfl (lv_at hl 3 rfl) ?_
                refine xa_zald hx hb hK hP 7 6 rfl rfl (by decide) (by omega) dM_makePieces_65 ?_
                refine xb_if_eq (tgt := 89) hx hb dM_makePieces_66 (by decide) (fun c_66 => ?_) (fun c_66 => ?_)
                · skip
                  refine lv_aload_n hx hb dM_makePieces_89 rfl (lv_at hl 1 rfl) ?_
                  refine va_get (D := (dC, dI)) (ci := 3) (v := .ref (ad 7)) (C := RM) (T := TM) (N := 17) hx hb hts (fun w9 h9 => List.mem_cons_of_mem _ (inM w9 h9)) hown hK hP 0 rfl rfl 11 (by decide) (hts _ (List.mem_cons_of_mem _ flM_29)) (fun _ h9 => h9) rfl dM_makePieces_90 ?_
                  refine lv_iload_n hx hb dM_makePieces_93 rfl (lv_at hl 3 rfl) ?_
                  refine xa_zald hx hb hK hP 7 6 rfl rfl (by decide) (by omega) dM_makePieces_94 ?_
                  refine xb_if_eq (tgt := 113) hx hb dM_makePieces_95 (by decide) (fun c_95 => ?_) (fun c_95 => ?_)
                  · skip
                    refine xi_iinc (z := k + 1) (lv' := [(2, .int (iI (k + 1))), (3, .int (iI t)), (0, .ref (ad 0)), (1, .int (iI ci))]) hx hb dM_makePieces_113 hl (k := 3) rfl rfl (by decide) rfl (fun ls hl => ?_)
                    refine lv_goto (tgt := 43) hx hb dM_makePieces_116 (by decide) ?_
                    have hm9 : md = false := by (cases hmd : md with | false => rfl | true => (rw [hmd, c_66] at hRO; cases hRO))
                    have hi9 : O i = false := by (rw [hm9, c_66] at hRO; exact hRO.symm)
                    have hs9 := rpos_s O av (E ci) j1.1
                    by_cases hmi : mid O av (E ci) i = true
                    · skip
                      exact ih_43 (k + 1) i true n2 GP2 GC2 _ _ _ (by omega) (by omega) (fun _ => ⟨hib, hmi⟩) (by (rw [j3, hm9]; show _ + 0 + 1 = _ + 1; omega)) (by omega) (j5) (j6) hP hD hS (lv_sub hl [2, 3, 0] rfl)
                    · skip
                      exact ih_43 (k + 1) (i + 1) false n2 GP2 GC2 _ _ _ (by omega) (by omega) (fun h => by cases h) (by (rw [hs9, if_neg hmi, j3, hm9]; show _ + 0 + 1 = _ + 1 + 0; omega)) (by omega) (fun h => by rw [esum_s h j1.1, emi_none h hi9 (mid_f hi9 (by simpa using hmi)), Int.add_zero]; exact j5 h) (j6) hP hD hS (lv_sub hl [2, 3, 0] rfl)
                  · exact absurd c_95 (by rw [c_66]; decide)
                · skip
                  have hmm : md = mid O av (E ci) i := by (cases hmd : md with | true => exact (j2 hmd).2.symm | false => (rw [hmd, c_66] at hRO; exact (mid_on (show O i = true from hRO.symm)).symm))
                  obtain ⟨t', e1, e2, e3, e4, e5, e6, e7⟩ := ring_nx hring j1.1 hib j3 hmm
                  rw [← hrs, ← ht] at e1
                  subst e1
                  have y1 := nx_in j1.1 hib
                  have y2 := nx_in y1.1 y1.2
                  have z0 := h4 i (by omega) (by omega)
                  have z1 := h4 (nx av (E ci) i) (by omega) (by omega)
                  have z2 := h4 (nx av (E ci) (nx av (E ci) i)) (by omega) (by omega)
                  have hs9 := rpos_s O av (E ci) j1.1
                  have hk9 : k + 1 = rpos O av (E ci) (i + 1) + bz false := by (rw [hs9, j3, hmm]; cases mid O av (E ci) i <;> simp [bz] <;> omega)
                  have w1 : u_38.2.1 k = cen X O (nx av (E ci) i) i ∨ (O (nx av (E ci) i) = true ∧ md = false) := by (cases hmd : md with | true => (left; rw [j3, hmd]; show u_38.2.1 (rpos O av (E ci) i + 1) = _; rw [(x4 (j2 hmd).2).1, cen_f (mid_t (j2 hmd).2).1]) | false => (left; rw [j3, hmd]; show u_38.2.1 (rpos O av (E ci) i + 0) = _; rw [hmd, c_66] at hRO; rw [Int.add_zero, x1, cen_t hRO.symm]))
                  have w2 : u_38.2.2.1 k = cen Y O (nx av (E ci) i) i ∨ (O (nx av (E ci) i) = true ∧ md = false) := by (cases hmd : md with | true => (left; rw [j3, hmd]; show u_38.2.2.1 (rpos O av (E ci) i + 1) = _; rw [(x4 (j2 hmd).2).2.1, cen_f (mid_t (j2 hmd).2).1]) | false => (left; rw [j3, hmd]; show u_38.2.2.1 (rpos O av (E ci) i + 0) = _; rw [hmd, c_66] at hRO; rw [Int.add_zero, x2, cen_t hRO.symm]))
                  refine lv_aload_n hx hb dM_makePieces_69 rfl (lv_at hl 1 rfl) ?_
                  refine va_get (D := (dC, dI)) (ci := 3) (v := .ref (ad 7)) (C := RM) (T := TM) (N := 17) hx hb hts (fun w9 h9 => List.mem_cons_of_mem _ (inM w9 h9)) hown hK hP 0 rfl rfl 11 (by decide) (hts _ (List.mem_cons_of_mem _ flM_29)) (fun _ h9 => h9) rfl dM_makePieces_70 ?_
                  refine lv_iload_n hx hb dM_makePieces_73 rfl (lv_at hl 0 rfl) ?_
                  refine xa_zald hx hb hK hP 7 6 rfl rfl (by decide) (by omega) dM_makePieces_74 ?_
                  refine xb_if_eq (tgt := 89) hx hb dM_makePieces_75 (by decide) (fun c_75 => ?_) (fun c_75 => ?_)
                  · skip
                    refine lv_aload_n hx hb dM_makePieces_89 rfl (lv_at hl 1 rfl) ?_
                    refine va_get (D := (dC, dI)) (ci := 3) (v := .ref (ad 7)) (C := RM) (T := TM) (N := 17) hx hb hts (fun w9 h9 => List.mem_cons_of_mem _ (inM w9 h9)) hown hK hP 0 rfl rfl 11 (by decide) (hts _ (List.mem_cons_of_mem _ flM_29)) (fun _ h9 => h9) rfl dM_makePieces_90 ?_
                    refine lv_iload_n hx hb dM_makePieces_93 rfl (lv_at hl 3 rfl) ?_
                    refine xa_zald hx hb hK hP 7 6 rfl rfl (by decide) (by omega) dM_makePieces_94 ?_
                    refine xb_if_eq (tgt := 113) hx hb dM_makePieces_95 (by decide) (fun c_95 => ?_) (fun c_95 => ?_)
                    · exact absurd c_95 (by rw [c_66]; decide)
                    · skip
                      have hj9 : O (nx av (E ci) i) = false := by rw [← e6]; exact c_75
                      obtain ⟨t2, f1, f2, f3, f4, f5⟩ := e7 hj9
                      rw [← hrs] at f1
                      have v1 : u_38.2.1 k = cen X O (nx av (E ci) i) i := by (rcases w1 with q | q; exact q; rw [hj9] at q; exact absurd q.1 (by decide))
                      have v2 : u_38.2.2.1 k = cen Y O (nx av (E ci) i) i := by (rcases w2 with q | q; exact q; rw [hj9] at q; exact absurd q.1 (by decide))
                      refine lv_aload_n hx hb dM_makePieces_98 rfl (lv_at hl 1 rfl) ?_
                      refine lv_iload_n hx hb dM_makePieces_99 rfl (lv_at hl 3 rfl) ?_
                      refine lv_iload_n hx hb dM_makePieces_100 rfl (lv_at hl 0 rfl) ?_
                      refine lv_iload_n hx hb dM_makePieces_101 rfl (lv_at hl 3 rfl) ?_
                      refine xi_iconst hx hb dM_makePieces_102 ?_
                      refine xi_add (z := k + 2) hx hb dM_makePieces_103 rfl ?_
                      refine lv_aload_n hx hb dM_makePieces_104 rfl (lv_at hl 1 rfl) ?_
                      refine va_get (D := (dC, dI)) (ci := 3) (v := .int (iI u_38.1)) (C := RM) (T := TM) (N := 17) hx hb hts (fun w9 h9 => List.mem_cons_of_mem _ (inM w9 h9)) hown hK hP 0 rfl rfl 8 (by decide) (hts _ (List.mem_cons_of_mem _ flM_71)) (fun _ h9 => h9) rfl dM_makePieces_105 ?_
                      refine xi_rem (z := t2) hx hb dM_makePieces_108 (by omega) (by omega) (f1) ?_
                      refine xi_iconst hx hb dM_makePieces_109 ?_
                      have hFc := xw_free hD hS hA
                      refine va_callv (va_runV (As := [.int (iI k), .int (iI t), .int (iI t2), .int (iI 1)]) (rest := []) ⟨hx, hb, hml, hown, hts⟩ (m_putPiece l dC dI ad cs H.size ft par np nc u_38.1 n2 hi lo X Y O E u_38.2.1 u_38.2.2.1 u_38.2.2.2 GP2 GC2 k t t2 true (by omega) (by omega) (by omega) (by omega)) (cwV 4 hts (tb_V mlM_85 imM_putPiece seM_putPiece iniM coM_putPiece) rfl rfl rfl (by decide +kernel) (by subst hR; exact ⟨Nat.le_of_ble_eq_true rfl, Nat.le_of_ble_eq_true rfl⟩)) ⟨fun a9 U9 g9 mk9 q9 => by obtain ⟨q0, q1, qP, qK, qD⟩ := q9; exact ⟨q0, q1, qP, va_K.moved (u := U9) (U := U9.calling g9 mk9 a9) (Vm.Alike.refl U9.vm) qK, qD⟩, va_recv hK hP (ci := 3) (q0 := 0) rfl rfl, fun U hU hW => ⟨rfl, by rw [hU], by rw [hU]; exact hP, va_K.moved hW.alike hK, hD.weaken (fun _ _ _ _ => trivial)⟩⟩ rfl rfl hl.1 rfl (lv_room (Nat.le_of_ble_eq_true rfl)) dM_makePieces_110 ⟨by subst hR; exact Nat.le_of_ble_eq_true rfl, by subst hR; exact Nat.le_of_ble_eq_true rfl⟩) hS (fun q9 _ h9 => hFc q9 h9) hFc (fun u_110 t9 H1 locs1 ht9 hvm9 hw_110 hB9 hz9 hk9 hS1 => ?_)
                      obtain ⟨hP1, hK1, hD1⟩ := hB9
                      rw [ht9] at hP1
                      have hP : va_P (dC, dI) vwCl (mW ad cs ft par np nc u_38.1 (n2 + 1) hi lo X Y O E u_38.2.1 u_38.2.2.1 u_38.2.2.2 (put6 GP2 n2 (u_38.2.1 k) (u_38.2.2.1 k) (u_38.2.1 t) (u_38.2.2.1 t) (u_38.2.1 t2) (u_38.2.2.1 t2)) (up GC2 n2 true)) H1 := hP1
                      have hD : va_D A (mW ad cs ft par np nc u_38.1 (n2 + 1) hi lo X Y O E u_38.2.1 u_38.2.2.1 u_38.2.2.2 (put6 GP2 n2 (u_38.2.1 k) (u_38.2.2.1 k) (u_38.2.1 t) (u_38.2.2.1 t) (u_38.2.1 t2) (u_38.2.2.1 t2)) (up GC2 n2 true)) := hD1.weaken (fun _ _ _ h9 => hFc _ h9)
                      clear hP1 hD1 hK1 hFc
                      have hS := hS1
                      clear hS1 hz9 hk9 ht9 hvm9
                      revert hP hD hS; generalize H1 = H; generalize locs1 = locs; intro hP hD hS
                      refine xi_iinc (z := k + 1) (lv' := [(2, .int (iI (k + 1))), (3, .int (iI t)), (0, .ref (ad 0)), (1, .int (iI ci))]) hx hb dM_makePieces_113 hl (k := 3) rfl rfl (by decide) rfl (fun ls hl => ?_)
                      refine lv_goto (tgt := 43) hx hb dM_makePieces_116 (by decide) ?_
                      exact ih_43 (k + 1) (i + 1) false (n2 + 1) (put6 GP2 n2 (u_38.2.1 k) (u_38.2.2.1 k) (u_38.2.1 t) (u_38.2.2.1 t) (u_38.2.1 t2) (u_38.2.2.1 t2)) (up GC2 n2 true) _ _ _ (by omega) (by omega) (fun h => by cases h) (hk9) (by omega) (fun h => by rw [put6_sum h _ _ j4.1, j5 h, esum_s h j1.1, emi_curve h hj9, v1, v2, e4, e5, f4, f5]; omega) (put6_ok j4.1 j6 (by rw [v1]; exact cen_ok z1.1 z0.1) (by rw [v2]; exact cen_ok z1.2 z0.2) (by rw [e4]; exact z1.1) (by rw [e5]; exact z1.2) (by rw [f4]; exact cen_ok z1.1 z2.1) (by rw [f5]; exact cen_ok z1.2 z2.2)) hP hD hS (lv_sub hl [2, 3, 0] rfl)
                  · skip
                    have hj9 : O (nx av (E ci) i) = true := by rw [← e6]; exact c_75
                    have hm9 : md = false := by (cases hmd : md with | false => rfl | true => (have q := (mid_t (j2 hmd).2).2; rw [hj9] at q; cases q))
                    have hi9 : O i = true := by (rw [hm9, c_66] at hRO; exact hRO.symm)
                    have v1 : u_38.2.1 k = X i := by (rw [j3, hm9]; show u_38.2.1 (rpos O av (E ci) i + 0) = _; rw [Int.add_zero, x1])
                    have v2 : u_38.2.2.1 k = Y i := by (rw [j3, hm9]; show u_38.2.2.1 (rpos O av (E ci) i + 0) = _; rw [Int.add_zero, x2])
                    refine lv_aload_n hx hb dM_makePieces_78 rfl (lv_at hl 1 rfl) ?_
                    refine lv_iload_n hx hb dM_makePieces_79 rfl (lv_at hl 3 rfl) ?_
                    refine lv_iload_n hx hb dM_makePieces_80 rfl (lv_at hl 3 rfl) ?_
                    refine lv_iload_n hx hb dM_makePieces_81 rfl (lv_at hl 0 rfl) ?_
                    refine xi_iconst hx hb dM_makePieces_82 ?_
                    have hFc := xw_free hD hS hA
                    refine va_callv (va_runV (As := [.int (iI k), .int (iI k), .int (iI t), .int (iI 0)]) (rest := []) ⟨hx, hb, hml, hown, hts⟩ (m_putPiece l dC dI ad cs H.size ft par np nc u_38.1 n2 hi lo X Y O E u_38.2.1 u_38.2.2.1 u_38.2.2.2 GP2 GC2 k k t false (by omega) (by omega) (by omega) (by omega)) (cwV 4 hts (tb_V mlM_85 imM_putPiece seM_putPiece iniM coM_putPiece) rfl rfl rfl (by decide +kernel) (by subst hR; exact ⟨Nat.le_of_ble_eq_true rfl, Nat.le_of_ble_eq_true rfl⟩)) ⟨fun a9 U9 g9 mk9 q9 => by obtain ⟨q0, q1, qP, qK, qD⟩ := q9; exact ⟨q0, q1, qP, va_K.moved (u := U9) (U := U9.calling g9 mk9 a9) (Vm.Alike.refl U9.vm) qK, qD⟩, va_recv hK hP (ci := 3) (q0 := 0) rfl rfl, fun U hU hW => ⟨rfl, by rw [hU], by rw [hU]; exact hP, va_K.moved hW.alike hK, hD.weaken (fun _ _ _ _ => trivial)⟩⟩ rfl rfl hl.1 rfl (lv_room (Nat.le_of_ble_eq_true rfl)) dM_makePieces_83 ⟨by subst hR; exact Nat.le_of_ble_eq_true rfl, by subst hR; exact Nat.le_of_ble_eq_true rfl⟩) hS (fun q9 _ h9 => hFc q9 h9) hFc (fun u_83 t9 H1 locs1 ht9 hvm9 hw_83 hB9 hz9 hk9 hS1 => ?_)
                    obtain ⟨hP1, hK1, hD1⟩ := hB9
                    rw [ht9] at hP1
                    have hP : va_P (dC, dI) vwCl (mW ad cs ft par np nc u_38.1 (n2 + 1) hi lo X Y O E u_38.2.1 u_38.2.2.1 u_38.2.2.2 (put6 GP2 n2 (u_38.2.1 k) (u_38.2.2.1 k) (u_38.2.1 k) (u_38.2.2.1 k) (u_38.2.1 t) (u_38.2.2.1 t)) (up GC2 n2 false)) H1 := hP1
                    have hD : va_D A (mW ad cs ft par np nc u_38.1 (n2 + 1) hi lo X Y O E u_38.2.1 u_38.2.2.1 u_38.2.2.2 (put6 GP2 n2 (u_38.2.1 k) (u_38.2.2.1 k) (u_38.2.1 k) (u_38.2.2.1 k) (u_38.2.1 t) (u_38.2.2.1 t)) (up GC2 n2 false)) := hD1.weaken (fun _ _ _ h9 => hFc _ h9)
                    clear hP1 hD1 hK1 hFc
                    have hS := hS1
                    clear hS1 hz9 hk9 ht9 hvm9
                    revert hP hD hS; generalize H1 = H; generalize locs1 = locs; intro hP hD hS
                    refine lv_goto (tgt := 113) hx hb dM_makePieces_86 (by decide) ?_
                    refine xi_iinc (z := k + 1) (lv' := [(2, .int (iI (k + 1))), (3, .int (iI t)), (0, .ref (ad 0)), (1, .int (iI ci))]) hx hb dM_makePieces_113 hl (k := 3) rfl rfl (by decide) rfl (fun ls hl => ?_)
                    refine lv_goto (tgt := 43) hx hb dM_makePieces_116 (by decide) ?_
                    exact ih_43 (k + 1) (i + 1) false (n2 + 1) (put6 GP2 n2 (u_38.2.1 k) (u_38.2.2.1 k) (u_38.2.1 k) (u_38.2.2.1 k) (u_38.2.1 t) (u_38.2.2.1 t)) (up GC2 n2 false) _ _ _ (by omega) (by omega) (fun h => by cases h) (hk9) (by omega) (fun h => by rw [put6_sum h _ _ j4.1, j5 h, esum_s h j1.1, emi_line h hi9 hj9, v1, v2, e4, e5]; omega) (put6_ok j4.1 j6 (by rw [v1]; exact z0.1) (by rw [v2]; exact z0.2) (by rw [v1]; exact z0.1) (by rw [v2]; exact z0.2) (by rw [e4]; exact z1.1) (by rw [e5]; exact z1.2)) hP hD hS (lv_sub hl [2, 3, 0] rfl)
          exact cut_43_3 (((u_38.1 - (0 : Int)).toNat) + 1) 0 av false n GP GC _ _ _ (Nat.lt_succ_self _) (by omega) (fun h => by cases h) (by rw [rpos_a]; rfl) (by omega) (fun h => by (rw [o3 h, show av - av = 0 by omega]; show _ = _ + 0; omega)) (o4) hP hD hS (lv_sub hl [1, 2, 0] rfl)
        refine lv_iload_n hx hb dM_makePieces_16 rfl (lv_at hl 1 rfl) ?_
        refine xi_if_ne (tgt := 24) hx hb dM_makePieces_17 (by decide) (by omega) (fun c_17 => ?_) (fun c_17 => ?_)
        · skip
          refine lv_aload_n hx hb dM_makePieces_24 rfl (lv_at hl 0 rfl) ?_
          refine va_get (D := (dC, dI)) (ci := 3) (v := .ref (ad 4)) (C := RM) (T := TM) (N := 17) hx hb hts (fun w9 h9 => List.mem_cons_of_mem _ (inM w9 h9)) hown hK hP 0 rfl rfl 7 (by decide) (hts _ (List.mem_cons_of_mem _ flM_20)) (fun _ h9 => h9) rfl dM_makePieces_25 ?_
          refine lv_iload_n hx hb dM_makePieces_28 rfl (lv_at hl 1 rfl) ?_
          refine xi_iconst hx hb dM_makePieces_29 ?_
          refine xi_sub (z := ci - 1) hx hb dM_makePieces_30 rfl ?_
          refine xa_iald hx hb hK hP 4 3 rfl rfl (by decide) (by omega) dM_makePieces_31 ?_
          exact cut_32_2 (E (ci - 1)) _ (by unfold stE; rw [if_neg c_17]) (lv_sub hl [0, 1] rfl)
        · skip
          refine xi_iconst hx hb dM_makePieces_20 ?_
          refine lv_goto (tgt := 32) hx hb dM_makePieces_21 (by decide) ?_
          exact cut_32_2 0 _ (by unfold stE; rw [if_pos c_17]) (lv_sub hl [0, 1] rfl)
  exact cut_7_1 (((nc - (0 : Int)).toNat) + 1) 0 0 PC CV rs RX RY RO _ _ _ (Nat.lt_succ_self _) (by omega) (⟨by omega, by unfold stE; rw [if_pos rfl]; omega⟩) (fun h => rfl) (fun k q1 q2 => by omega) hP hD hS (lv_sub hl [1, 0] rfl)
