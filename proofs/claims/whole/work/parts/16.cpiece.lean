/-! the class: the piece of a point -/
def bf (a b i : Int) : Int := if a < i then i - 1 else b - 1
/-- the piece that point i of the contour a .. b - 1 brings -/
def pdt (X Y : Int → Int) (O : Int → Bool) (a b i : Int) : Option PD :=
  if O i = true then (if O (nx a b i) = true then some (PD.mk true (X i) (Y i) (X i) (Y i) (X (nx a b i)) (Y (nx a b i))) else none)
  else some (PD.mk false (cen X O i (bf a b i)) (cen Y O i (bf a b i)) (X i) (Y i) (cen X O i (nx a b i)) (cen Y O i (nx a b i)))
def upn (G : Nat → PD) (a : Nat) (d : PD) : Nat → PD := fun q => if q = a then d else G q
theorem upn_s (G : Nat → PD) (a : Nat) (d : PD) : upn G a d a = d := if_pos rfl
theorem upn_n (G : Nat → PD) {a q : Nat} (d : PD) (h : q ≠ a) : upn G a d q = G q := if_neg h
theorem pl_up {LP : List Nat} {G : Nat → PD} {q : Nat} {d : PD} {W : va_W} (h : q ∉ LP) : (W ++ va_pl LP (pG G)) ++ [(q, pE d)] = W ++ va_pl (LP ++ [q]) (pG (upn G q d)) := by
  rw [List.append_assoc, va_pl_push h]
  congr 1
  refine va_pl_congr (fun a => ?_)
  by_cases ha : a = q
  · subst ha; rw [va_up_self]; show _ = pE (upn G a d a); rw [upn_s]
  · rw [va_up_ne _ _ ha]; show pE (G a) = pE (upn G q d a); rw [upn_n G d ha]
theorem xl_at {ws : va_W} {q : Nat × va_E} : (ws ++ [q])[ws.length]? = some q := by rw [List.getElem?_append_right (Nat.le_refl _), Nat.sub_self]; rfl
theorem xl_set {ws : va_W} {q q2 : Nat × va_E} : (ws ++ [q]).set ws.length q2 = ws ++ [q2] := by rw [List.set_append_right _ _ (Nat.le_refl _), Nat.sub_self]; rfl
theorem xl_P {D : va_G} {cl : List vw_C} {A : Nat → Prop} {ws : va_W} {H H1 : Heap} {a : Nat} {e0 e : va_E} (hP : va_P D cl (ws ++ [(a, e0)]) H) (hD : va_D A (ws ++ [(a, e0)])) (h1 : va_P D cl [(a, e)] H1) (hq : ∀ q : Nat, q < H.size → ¬ va_A [(a, e0)] H.size q → H1[q]? = H[q]?) : va_P D cl (ws ++ [(a, e)]) H1 := by
  have h := xp_set hP hD xl_at h1 hq
  rw [xl_set] at h; exact h
theorem xl_D {A : Nat → Prop} {ws : va_W} {a : Nat} {e0 e : va_E} (hD : va_D A (ws ++ [(a, e0)])) : va_D A (ws ++ [(a, e)]) := by
  have h := va_D.set (e := e) hD xl_at
  rw [xl_set] at h; exact h
theorem fsP : ∀ j, j < 11 → defaultValue (tyP j) = vp_V [.int (iI (bz false)), .int (iI 0), .int (iI 0), .int (iI 0), .int (iI 0), .int (iI 0), .int (iI 0), .int (iI 0), .int (iI 0), .int (iI 0), .int (iI 0)] j := by
  intro j hj
  rcases (show j = 0 ∨ j = 1 ∨ j = 2 ∨ j = 3 ∨ j = 4 ∨ j = 5 ∨ j = 6 ∨ j = 7 ∨ j = 8 ∨ j = 9 ∨ j = 10 by omega) with h | h | h | h | h | h | h | h | h | h | h <;> subst h <;> decide +kernel
theorem bf_in {a b i : Int} (h1 : a ≤ i) (h2 : i < b) : a ≤ bf a b i ∧ bf a b i < b := by unfold bf; split <;> omega

set_option maxHeartbeats 4000000 in
set_option maxRecDepth 100000 in
/-- pieceOf -/
theorem k_pieceOf (l : Launch) (dC : Nat → ClassId) (dI : Nat → Nat → Nat) (ad : Nat → Nat) (cs : Nat → ClassId) (sz : Nat) (LP : List Nat) (G : Nat → PD) (nc np op : Int) (par : Bool) (X Y : Int → Int) (O : Int → Bool) (PQ : Int → Option Nat) (Wd : Int → Int) (pw pf pu ps : Int) (i : Int) (hi : 0 ≤ op ∧ op ≤ i ∧ i < np ∧ np ≤ 512) (hxy : ∀ k : Int, op ≤ k → k < np → (-8192 ≤ X k ∧ X k ≤ 8191) ∧ (-8192 ≤ Y k ∧ Y k ≤ 8191)) : Met l yC_pieceOf wC_pieceOf ({ frames := 2, cells := 1, slots := 11, locals := 45 }) (va_Pc [.ref (ad 0), .int (iI i)] (fun U => U.heap.size = sz ∧ va_P (dC, dI) vwCl ((cW ad cs nc np op par X Y O PQ Wd pw pf pu ps) ++ va_pl LP (pG G)) U.heap ∧ va_K (dC, dI) vwCl (cT cs) U ∧ va_D (fun _ => True) ((cW ad cs nc np op par X Y O PQ Wd pw pf pu ps) ++ va_pl LP (pG G)))) (va_Qq (fun (r : Option Nat) (u : List Nat × (Nat → PD)) => (r = none ∧ pdt X Y O op np i = none ∧ u.1 = LP ∧ u.2 = G) ∨ ∃ (a : Nat) (d : PD), r = some a ∧ pdt X Y O op np i = some d ∧ a ∉ LP ∧ u.1 = LP ++ [a] ∧ u.2 = upn G a d) (fun (u : List Nat × (Nat → PD)) t9 => va_P (dC, dI) vwCl ((cW ad cs nc np op par X Y O PQ Wd pw pf pu ps) ++ va_pl u.1 (pG u.2)) t9.heap ∧ va_K (dC, dI) vwCl (cT cs) t9 ∧ va_D (va_A ((cW ad cs nc np op par X Y O PQ Wd pw pf pu ps) ++ va_pl LP (pG G)) sz) ((cW ad cs nc np op par X Y O PQ Wd pw pf pu ps) ++ va_pl u.1 (pG u.2))) (va_A ((cW ad cs nc np op par X Y O PQ Wd pw pf pu ps) ++ va_pl LP (pG G)) sz)) 1 11 (va_A ((cW ad cs nc np op par X Y O PQ Wd pw pf pu ps) ++ va_pl LP (pG G)) sz) := by
  refine Met.ofW (cc := cC_pieceOf) (maxL := 6) (ret := (some (.object "CurveRaster$Piece"))) (by decide) rfl ?_
  intro p e s m args below meth c s₁ B hml hv
  obtain ⟨hargs, hsz, hP, hK, hD0⟩ := hv
  have hx := B.exec
  have hb := B.bytes
  have hr := B.returns
  have hts := atoms_spec (ws := wC_pieceOf) B.pre
  have hown : s.vm.findClass RC = some m.cls := findClass_of_methodNamed B.named
  have hlocks := B.notSynchronized
  subst hsz
  have hD := hD0.self (sz := s.heap.size)
  generalize hAe : va_A ((cW ad cs nc np op par X Y O PQ Wd pw pf pu ps) ++ va_pl LP (pG G)) s.heap.size = A at hD ⊢
  have hA : ∀ q : Nat, s.heap.size ≤ q → A q := fun q h => by rw [← hAe]; exact Or.inr h
  have hS0 : va_S A s.heap s.heap [] := va_S.rf
  refine x_name (fun R Q H locs hR hQ hH hlo => ?_)
  rw [← hH] at hP
  have hS : va_S A s.heap H locs := by rw [hH, hlo]; exact hS0
  refine x_entry hargs (Nat.le_of_ble_eq_true rfl) (fun ls hl => ?_)
  have hl : lv_has ls 6 [(0, .ref (ad 0)), (1, .int (iI i))] := hl
  have hP : va_P (dC, dI) vwCl ((cW ad cs nc np op par X Y O PQ Wd pw pf pu ps) ++ va_pl LP (pG G)) H := hP
  have cut_20_1 : ∀ (bfi : Int) (ls : Array Slot), (bfi = bf op np i) → lv_has ls 6 [(0, .ref (ad 0)), (1, .int (iI i))] → W p l e R s m args below meth c H locs 0 0 Q (F0 m 20 ls [.int (iI bfi)]) := by
    intro bfi ls hbf hl
    have hb1 := bf_in hi.2.1 hi.2.2.1
    rw [← hbf] at hb1
    refine lv_istore_n (lv' := [(2, .int (iI bfi)), (0, .ref (ad 0)), (1, .int (iI i))]) hx hb dC_pieceOf_20 rfl hl (by decide) rfl (fun ls hl => ?_)
    have cut_41_2 : ∀ (afi : Int) (ls : Array Slot), (afi = nx op np i) → lv_has ls 6 [(2, .int (iI bfi)), (0, .ref (ad 0)), (1, .int (iI i))] → W p l e R s m args below meth c H locs 0 0 Q (F0 m 41 ls [.int (iI afi)]) := by
      intro afi ls haf hl
      have ha1 := nx_in hi.2.1 hi.2.2.1
      rw [← haf] at ha1
      have x1 := hxy i hi.2.1 hi.2.2.1
      have x2 := hxy bfi hb1.1 hb1.2
      have x3 := hxy afi ha1.1 ha1.2
      refine lv_istore_n (lv' := [(3, .int (iI afi)), (2, .int (iI bfi)), (0, .ref (ad 0)), (1, .int (iI i))]) hx hb dC_pieceOf_41 rfl hl (by decide) rfl (fun ls hl => ?_)
      refine lv_aload_n hx hb dC_pieceOf_42 rfl (lv_at hl 2 rfl) ?_
      refine va_get (D := (dC, dI)) (ci := 2) (v := .ref (ad 1)) (C := RC) (T := TC) (N := 10) hx hb hts (fun w9 h9 => List.mem_cons_of_mem _ (inC w9 h9)) hown hK hP 0 rfl rfl 0 (by decide) (hts _ (List.mem_cons_of_mem _ flC_9)) (fun _ h9 => h9) rfl dC_pieceOf_43 ?_
      refine lv_iload_n hx hb dC_pieceOf_46 rfl (lv_at hl 3 rfl) ?_
      refine xa_iald hx hb hK hP 1 0 rfl rfl (by decide) (by omega) dC_pieceOf_47 ?_
      refine lv_istore (lv' := [(4, .int (iI (X i))), (3, .int (iI afi)), (2, .int (iI bfi)), (0, .ref (ad 0)), (1, .int (iI i))]) hx hb dC_pieceOf_48 hl (by decide) rfl (fun ls hl => ?_)
      refine lv_aload_n hx hb dC_pieceOf_50 rfl (lv_at hl 3 rfl) ?_
      refine va_get (D := (dC, dI)) (ci := 2) (v := .ref (ad 2)) (C := RC) (T := TC) (N := 10) hx hb hts (fun w9 h9 => List.mem_cons_of_mem _ (inC w9 h9)) hown hK hP 0 rfl rfl 1 (by decide) (hts _ (List.mem_cons_of_mem _ flC_13)) (fun _ h9 => h9) rfl dC_pieceOf_51 ?_
      refine lv_iload_n hx hb dC_pieceOf_54 rfl (lv_at hl 4 rfl) ?_
      refine xa_iald hx hb hK hP 2 1 rfl rfl (by decide) (by omega) dC_pieceOf_55 ?_
      refine lv_istore (lv' := [(5, .int (iI (Y i))), (4, .int (iI (X i))), (3, .int (iI afi)), (2, .int (iI bfi)), (0, .ref (ad 0)), (1, .int (iI i))]) hx hb dC_pieceOf_56 hl (by decide) rfl (fun ls hl => ?_)
      refine lv_aload_n hx hb dC_pieceOf_58 rfl (lv_at hl 4 rfl) ?_
      refine va_get (D := (dC, dI)) (ci := 2) (v := .ref (ad 3)) (C := RC) (T := TC) (N := 10) hx hb hts (fun w9 h9 => List.mem_cons_of_mem _ (inC w9 h9)) hown hK hP 0 rfl rfl 2 (by decide) (hts _ (List.mem_cons_of_mem _ flC_16)) (fun _ h9 => h9) rfl dC_pieceOf_59 ?_
      refine lv_iload_n hx hb dC_pieceOf_62 rfl (lv_at hl 5 rfl) ?_
      refine xa_zald hx hb hK hP 3 2 rfl rfl (by decide) (by omega) dC_pieceOf_63 ?_
      refine xb_if_ne (tgt := 120) hx hb dC_pieceOf_64 (by decide) (fun c_64 => ?_) (fun c_64 => ?_)
      · skip
        refine lv_aload_n hx hb dC_pieceOf_120 rfl (lv_at hl 4 rfl) ?_
        refine va_get (D := (dC, dI)) (ci := 2) (v := .ref (ad 3)) (C := RC) (T := TC) (N := 10) hx hb hts (fun w9 h9 => List.mem_cons_of_mem _ (inC w9 h9)) hown hK hP 0 rfl rfl 2 (by decide) (hts _ (List.mem_cons_of_mem _ flC_16)) (fun _ h9 => h9) rfl dC_pieceOf_121 ?_
        refine lv_iload_n hx hb dC_pieceOf_124 rfl (lv_at hl 2 rfl) ?_
        refine xa_zald hx hb hK hP 3 2 rfl rfl (by decide) (by omega) dC_pieceOf_125 ?_
        refine xb_if_eq (tgt := 158) hx hb dC_pieceOf_126 (by decide) (fun c_126 => ?_) (fun c_126 => ?_)
        · skip
          refine lv_null hx hb dC_pieceOf_158 ?_
          subst hQ
          refine W.widen (k := 1) (n := 11) (by omega) (by omega) ?_
          exact W.aret hx hb hr (Or.inl ⟨_, rfl⟩) (Or.inl rfl) (fun t9 ht9 hW9 => ⟨⟨none, (LP, G), rfl, (Or.inl ⟨rfl, (by unfold pdt; rw [if_pos c_64, ← haf, if_neg (by rw [c_126]; decide)]), rfl, rfl⟩), by rw [ht9]; exact hP, va_K.moved hW9.alike hK, hD⟩, hS.F ht9⟩) hS.2.2 dC_pieceOf_159
        · skip
          refine va_new (ci := 0) (fs := [.int (iI (bz false)), .int (iI 0), .int (iI 0), .int (iI 0), .int (iI 0), .int (iI 0), .int (iI 0), .int (iI 0), .int (iI 0), .int (iI 0), .int (iI 0)]) (C := RP) (T := TP) (N := 11) hx hb hts (fun w9 h9 => List.mem_cons_of_mem _ (inP w9 h9)) tyP tyP_ok hown (hts _ (List.mem_cons_of_mem _ clC_20)) (hts _ (List.mem_cons_of_mem _ insP)) (hts _ (List.mem_cons_of_mem _ iniP)) hK hP hD hS hA rfl fsP (by subst hR; exact Nat.le_of_ble_eq_true rfl) (by subst hR; exact Nat.le_of_ble_eq_true rfl) dC_pieceOf_129 (fun q_129 H hP hD hS => ?_)
          have hcells : 0 + 1 + 0 ≤ R.cells := by (subst hR; exact Nat.le_of_ble_eq_true rfl)
          have hslots : 0 + 11 + 0 ≤ R.slots := by (subst hR; exact Nat.le_of_ble_eq_true rfl)
          have hP : va_P (dC, dI) vwCl (((cW ad cs nc np op par X Y O PQ Wd pw pf pu ps) ++ va_pl LP (pG G)) ++ [(q_129, .inr (0, [.int (iI (bz false)), .int (iI 0), .int (iI 0), .int (iI 0), .int (iI 0), .int (iI 0), .int (iI 0), .int (iI 0), .int (iI 0), .int (iI 0), .int (iI 0)]))]) H := hP
          have hD : va_D A (((cW ad cs nc np op par X Y O PQ Wd pw pf pu ps) ++ va_pl LP (pG G)) ++ [(q_129, .inr (0, [.int (iI (bz false)), .int (iI 0), .int (iI 0), .int (iI 0), .int (iI 0), .int (iI 0), .int (iI 0), .int (iI 0), .int (iI 0), .int (iI 0), .int (iI 0)]))]) := hD
          refine lv_dup hx hb dC_pieceOf_132 rfl ?_
          refine lv_iload hx hb dC_pieceOf_133 (lv_at hl 1 rfl) ?_
          refine lv_iload hx hb dC_pieceOf_135 (lv_at hl 0 rfl) ?_
          refine lv_iload hx hb dC_pieceOf_137 (lv_at hl 1 rfl) ?_
          refine lv_iload hx hb dC_pieceOf_139 (lv_at hl 0 rfl) ?_
          refine lv_aload_n hx hb dC_pieceOf_141 rfl (lv_at hl 4 rfl) ?_
          refine va_get (D := (dC, dI)) (ci := 2) (v := .ref (ad 1)) (C := RC) (T := TC) (N := 10) hx hb hts (fun w9 h9 => List.mem_cons_of_mem _ (inC w9 h9)) hown hK hP 0 rfl rfl 0 (by decide) (hts _ (List.mem_cons_of_mem _ flC_9)) (fun _ h9 => h9) rfl dC_pieceOf_142 ?_
          refine lv_iload_n hx hb dC_pieceOf_145 rfl (lv_at hl 2 rfl) ?_
          refine xa_iald hx hb hK hP 1 0 rfl rfl (by decide) (by omega) dC_pieceOf_146 ?_
          refine lv_aload_n hx hb dC_pieceOf_147 rfl (lv_at hl 4 rfl) ?_
          refine va_get (D := (dC, dI)) (ci := 2) (v := .ref (ad 2)) (C := RC) (T := TC) (N := 10) hx hb hts (fun w9 h9 => List.mem_cons_of_mem _ (inC w9 h9)) hown hK hP 0 rfl rfl 1 (by decide) (hts _ (List.mem_cons_of_mem _ flC_13)) (fun _ h9 => h9) rfl dC_pieceOf_148 ?_
          refine lv_iload_n hx hb dC_pieceOf_151 rfl (lv_at hl 2 rfl) ?_
          refine xa_iald hx hb hK hP 2 1 rfl rfl (by decide) (by omega) dC_pieceOf_152 ?_
          refine xi_iconst hx hb dC_pieceOf_153 ?_
          have hPc := xp_one hP (xl_at (ws := ((cW ad cs nc np op par X Y O PQ Wd pw pf pu ps) ++ va_pl LP (pG G))))
          have hKc := hK.sub (tys' := []) [] rfl
          have hDc := xp_oneD hD (xl_at (ws := ((cW ad cs nc np op par X Y O PQ Wd pw pf pu ps) ++ va_pl LP (pG G))))
          have hFc := xp_free1 hD hS hA (xl_at (ws := ((cW ad cs nc np op par X Y O PQ Wd pw pf pu ps) ++ va_pl LP (pG G))))
          refine va_callv (va_runI (As := [.int (iI (X i)), .int (iI (Y i)), .int (iI (X i)), .int (iI (Y i)), .int (iI (X afi)), .int (iI (Y afi)), .int (iI (bz true))]) (rest := [.ref q_129]) ⟨hx, hb, hml, hown, hts⟩ (p_init l dC dI H.size q_129 (X i) (Y i) (X i) (Y i) (X afi) (Y afi) true) (cwI 7 hts (tb_call coP_init) rfl rfl rfl (hts _ (List.mem_cons_of_mem _ iniP)) (hts _ (List.mem_cons_of_mem _ mlC_160)) (hts _ (List.mem_cons_of_mem _ imP_init)) rfl (by decide +kernel) (by subst hR; exact ⟨Nat.le_of_ble_eq_true rfl, Nat.le_of_ble_eq_true rfl⟩)) ⟨fun a9 U9 g9 mk9 q9 => by obtain ⟨q0, q1, qP, qK, qD⟩ := q9; exact ⟨q0, q1, qP, va_K.moved (u := U9) (U := U9.calling g9 mk9 a9) (Vm.Alike.refl U9.vm) qK, qD⟩, fun U hU hW => ⟨rfl, by rw [hU], by rw [hU]; exact hPc, va_K.moved hW.alike hKc, hDc.weaken (fun _ _ _ _ => trivial)⟩⟩ rfl rfl hl.1 rfl (lv_room (Nat.le_of_ble_eq_true rfl)) dC_pieceOf_154 ⟨by subst hR; exact Nat.le_of_ble_eq_true rfl, by subst hR; exact Nat.le_of_ble_eq_true rfl⟩) hS (fun q9 _ h9 => hFc q9 h9) hFc (fun u_154 t9 H1 locs1 ht9 hvm9 hw_154 hB9 hz9 hk9 hS1 => ?_)
          obtain ⟨hP1, hK1, hD1⟩ := hB9
          rw [ht9] at hP1
          have hP2 := xl_P hP hD hP1 hk9
          have hD2 := xl_D (e := .inr (0, [.int (iI (bz true)), .int (iI u_154.1), .int (iI u_154.2.1), .int (iI u_154.2.2.1), .int (iI u_154.2.2.2), .int (iI (X i)), .int (iI (Y i)), .int (iI (X i)), .int (iI (Y i)), .int (iI (X afi)), .int (iI (Y afi))])) hD
          clear hP1 hD1 hK1 hFc hPc hDc hKc hP hD
          have hqL : q_129 ∉ LP := va_pl_fresh2 hD2
          obtain ⟨t1, t2, t3, t4⟩ := hw_154
          rw [t1, t2, t3, t4] at hP2 hD2
          have hP : va_P (dC, dI) vwCl ((cW ad cs nc np op par X Y O PQ Wd pw pf pu ps) ++ va_pl (LP ++ [q_129]) (pG (upn G q_129 (PD.mk true (X i) (Y i) (X i) (Y i) (X afi) (Y afi))))) H1 := by (rw [← pl_up hqL]; exact hP2)
          have hD : va_D A ((cW ad cs nc np op par X Y O PQ Wd pw pf pu ps) ++ va_pl (LP ++ [q_129]) (pG (upn G q_129 (PD.mk true (X i) (Y i) (X i) (Y i) (X afi) (Y afi))))) := by (rw [← pl_up hqL]; exact hD2)
          clear hP2 hD2
          have hS := hS1
          clear hS1 hz9 hk9 ht9 hvm9
          revert hP hD hS; generalize H1 = H; generalize locs1 = locs; intro hP hD hS
          subst hQ
          refine W.widen (k := 1) (n := 11) (by omega) (by omega) ?_
          exact W.aret hx hb hr (Or.inl ⟨_, rfl⟩) (Or.inr ⟨_, rfl⟩) (fun t9 ht9 hW9 => ⟨⟨some q_129, (LP ++ [q_129], upn G q_129 (PD.mk true (X i) (Y i) (X i) (Y i) (X afi) (Y afi))), rfl, (Or.inr ⟨q_129, _, rfl, (by unfold pdt; rw [if_pos c_64, ← haf, if_pos c_126]), hqL, rfl, rfl⟩), by rw [ht9]; exact hP, va_K.moved hW9.alike hK, hD⟩, hS.F ht9⟩) hS.2.2 dC_pieceOf_157
      · skip
        refine va_new (ci := 0) (fs := [.int (iI (bz false)), .int (iI 0), .int (iI 0), .int (iI 0), .int (iI 0), .int (iI 0), .int (iI 0), .int (iI 0), .int (iI 0), .int (iI 0), .int (iI 0)]) (C := RP) (T := TP) (N := 11) hx hb hts (fun w9 h9 => List.mem_cons_of_mem _ (inP w9 h9)) tyP tyP_ok hown (hts _ (List.mem_cons_of_mem _ clC_20)) (hts _ (List.mem_cons_of_mem _ insP)) (hts _ (List.mem_cons_of_mem _ iniP)) hK hP hD hS hA rfl fsP (by subst hR; exact Nat.le_of_ble_eq_true rfl) (by subst hR; exact Nat.le_of_ble_eq_true rfl) dC_pieceOf_67 (fun q_67 H hP hD hS => ?_)
        have hcells : 0 + 1 + 0 ≤ R.cells := by (subst hR; exact Nat.le_of_ble_eq_true rfl)
        have hslots : 0 + 11 + 0 ≤ R.slots := by (subst hR; exact Nat.le_of_ble_eq_true rfl)
        have hP : va_P (dC, dI) vwCl (((cW ad cs nc np op par X Y O PQ Wd pw pf pu ps) ++ va_pl LP (pG G)) ++ [(q_67, .inr (0, [.int (iI (bz false)), .int (iI 0), .int (iI 0), .int (iI 0), .int (iI 0), .int (iI 0), .int (iI 0), .int (iI 0), .int (iI 0), .int (iI 0), .int (iI 0)]))]) H := hP
        have hD : va_D A (((cW ad cs nc np op par X Y O PQ Wd pw pf pu ps) ++ va_pl LP (pG G)) ++ [(q_67, .inr (0, [.int (iI (bz false)), .int (iI 0), .int (iI 0), .int (iI 0), .int (iI 0), .int (iI 0), .int (iI 0), .int (iI 0), .int (iI 0), .int (iI 0), .int (iI 0)]))]) := hD
        refine lv_dup hx hb dC_pieceOf_70 rfl ?_
        refine lv_aload_n hx hb dC_pieceOf_71 rfl (lv_at hl 4 rfl) ?_
        refine lv_aload_n hx hb dC_pieceOf_72 rfl (lv_at hl 4 rfl) ?_
        refine va_get (D := (dC, dI)) (ci := 2) (v := .ref (ad 1)) (C := RC) (T := TC) (N := 10) hx hb hts (fun w9 h9 => List.mem_cons_of_mem _ (inC w9 h9)) hown hK hP 0 rfl rfl 0 (by decide) (hts _ (List.mem_cons_of_mem _ flC_9)) (fun _ h9 => h9) rfl dC_pieceOf_73 ?_
        refine lv_iload_n hx hb dC_pieceOf_76 rfl (lv_at hl 5 rfl) ?_
        refine lv_iload_n hx hb dC_pieceOf_77 rfl (lv_at hl 3 rfl) ?_
        have hPc := hP.sub (ws' := [((ad 0), .inr (2, [.ref (ad 1), .ref (ad 2), .ref (ad 3), .ref (ad 4), .ref (ad 5), .ref (ad 6), .int (iI nc), .int (iI np), .int (iI op), .int (iI (bz par))])), ((ad 3), .inl (cs 2, 512, .inl (aB O))), ((ad 1), .inl (cs 0, 512, .inl (aI X)))]) [0, 3, 1] rfl
        have hKc := hK.sub (tys' := [(cs 2, .boolean), (cs 0, .int)]) [2, 0] rfl
        refine vp_callSi (W.runV (As := [.ref (ad 1), .int (iI i), .int (iI bfi)]) (rest := [.ref q_67, .ref q_67]) ⟨hx, hb, hml, hown, hts⟩ (k_curveEnd l dC dI (ad 0) (ad 1) (ad 2) (ad 3) (ad 4) (ad 5) (ad 6) nc np op par (ad 1) (cs 2) (cs 0) O X i bfi (by omega) (by omega) (by omega) (by omega)) (cwV 3 hts (tb_V mlC_156 imC_curveEnd seC_curveEnd iniC coC_curveEnd) rfl rfl rfl (by decide +kernel) (by subst hR; exact ⟨Nat.le_of_ble_eq_true rfl, Nat.le_of_ble_eq_true rfl⟩)) ⟨fun a9 U9 g9 mk9 q9 => by obtain ⟨q0, qP, qK⟩ := q9; exact ⟨q0, qP, va_K.moved (u := U9) (U := U9.calling g9 mk9 a9) (Vm.Alike.refl U9.vm) qK⟩, va_recv hKc hPc (ci := 2) (q0 := 0) rfl rfl, fun U hU hW => ⟨rfl, by rw [hU]; exact hPc, va_K.moved hW.alike hKc⟩⟩ rfl rfl hl.1 rfl (lv_room (Nat.le_of_ble_eq_true rfl)) dC_pieceOf_78 ⟨by subst hR; exact hcells, by subst hR; exact hslots⟩) (fun r_78 hw_78 => ?_)
        subst hw_78
        refine lv_aload_n hx hb dC_pieceOf_81 rfl (lv_at hl 4 rfl) ?_
        refine lv_aload_n hx hb dC_pieceOf_82 rfl (lv_at hl 4 rfl) ?_
        refine va_get (D := (dC, dI)) (ci := 2) (v := .ref (ad 2)) (C := RC) (T := TC) (N := 10) hx hb hts (fun w9 h9 => List.mem_cons_of_mem _ (inC w9 h9)) hown hK hP 0 rfl rfl 1 (by decide) (hts _ (List.mem_cons_of_mem _ flC_13)) (fun _ h9 => h9) rfl dC_pieceOf_83 ?_
        refine lv_iload_n hx hb dC_pieceOf_86 rfl (lv_at hl 5 rfl) ?_
        refine lv_iload_n hx hb dC_pieceOf_87 rfl (lv_at hl 3 rfl) ?_
        have hPc := hP.sub (ws' := [((ad 0), .inr (2, [.ref (ad 1), .ref (ad 2), .ref (ad 3), .ref (ad 4), .ref (ad 5), .ref (ad 6), .int (iI nc), .int (iI np), .int (iI op), .int (iI (bz par))])), ((ad 3), .inl (cs 2, 512, .inl (aB O))), ((ad 2), .inl (cs 1, 512, .inl (aI Y)))]) [0, 3, 2] rfl
        have hKc := hK.sub (tys' := [(cs 2, .boolean), (cs 1, .int)]) [2, 1] rfl
        refine vp_callSi (W.runV (As := [.ref (ad 2), .int (iI i), .int (iI bfi)]) (rest := [.int (iI (cen X O i bfi)), .ref q_67, .ref q_67]) ⟨hx, hb, hml, hown, hts⟩ (k_curveEnd l dC dI (ad 0) (ad 1) (ad 2) (ad 3) (ad 4) (ad 5) (ad 6) nc np op par (ad 2) (cs 2) (cs 1) O Y i bfi (by omega) (by omega) (by omega) (by omega)) (cwV 3 hts (tb_V mlC_156 imC_curveEnd seC_curveEnd iniC coC_curveEnd) rfl rfl rfl (by decide +kernel) (by subst hR; exact ⟨Nat.le_of_ble_eq_true rfl, Nat.le_of_ble_eq_true rfl⟩)) ⟨fun a9 U9 g9 mk9 q9 => by obtain ⟨q0, qP, qK⟩ := q9; exact ⟨q0, qP, va_K.moved (u := U9) (U := U9.calling g9 mk9 a9) (Vm.Alike.refl U9.vm) qK⟩, va_recv hKc hPc (ci := 2) (q0 := 0) rfl rfl, fun U hU hW => ⟨rfl, by rw [hU]; exact hPc, va_K.moved hW.alike hKc⟩⟩ rfl rfl hl.1 rfl (lv_room (Nat.le_of_ble_eq_true rfl)) dC_pieceOf_88 ⟨by subst hR; exact hcells, by subst hR; exact hslots⟩) (fun r_88 hw_88 => ?_)
        subst hw_88
        refine lv_iload hx hb dC_pieceOf_91 (lv_at hl 1 rfl) ?_
        refine lv_iload hx hb dC_pieceOf_93 (lv_at hl 0 rfl) ?_
        refine lv_aload_n hx hb dC_pieceOf_95 rfl (lv_at hl 4 rfl) ?_
        refine lv_aload_n hx hb dC_pieceOf_96 rfl (lv_at hl 4 rfl) ?_
        refine va_get (D := (dC, dI)) (ci := 2) (v := .ref (ad 1)) (C := RC) (T := TC) (N := 10) hx hb hts (fun w9 h9 => List.mem_cons_of_mem _ (inC w9 h9)) hown hK hP 0 rfl rfl 0 (by decide) (hts _ (List.mem_cons_of_mem _ flC_9)) (fun _ h9 => h9) rfl dC_pieceOf_97 ?_
        refine lv_iload_n hx hb dC_pieceOf_100 rfl (lv_at hl 5 rfl) ?_
        refine lv_iload_n hx hb dC_pieceOf_101 rfl (lv_at hl 2 rfl) ?_
        have hPc := hP.sub (ws' := [((ad 0), .inr (2, [.ref (ad 1), .ref (ad 2), .ref (ad 3), .ref (ad 4), .ref (ad 5), .ref (ad 6), .int (iI nc), .int (iI np), .int (iI op), .int (iI (bz par))])), ((ad 3), .inl (cs 2, 512, .inl (aB O))), ((ad 1), .inl (cs 0, 512, .inl (aI X)))]) [0, 3, 1] rfl
        have hKc := hK.sub (tys' := [(cs 2, .boolean), (cs 0, .int)]) [2, 0] rfl
        refine vp_callSi (W.runV (As := [.ref (ad 1), .int (iI i), .int (iI afi)]) (rest := [.int (iI (Y i)), .int (iI (X i)), .int (iI (cen Y O i bfi)), .int (iI (cen X O i bfi)), .ref q_67, .ref q_67]) ⟨hx, hb, hml, hown, hts⟩ (k_curveEnd l dC dI (ad 0) (ad 1) (ad 2) (ad 3) (ad 4) (ad 5) (ad 6) nc np op par (ad 1) (cs 2) (cs 0) O X i afi (by omega) (by omega) (by omega) (by omega)) (cwV 3 hts (tb_V mlC_156 imC_curveEnd seC_curveEnd iniC coC_curveEnd) rfl rfl rfl (by decide +kernel) (by subst hR; exact ⟨Nat.le_of_ble_eq_true rfl, Nat.le_of_ble_eq_true rfl⟩)) ⟨fun a9 U9 g9 mk9 q9 => by obtain ⟨q0, qP, qK⟩ := q9; exact ⟨q0, qP, va_K.moved (u := U9) (U := U9.calling g9 mk9 a9) (Vm.Alike.refl U9.vm) qK⟩, va_recv hKc hPc (ci := 2) (q0 := 0) rfl rfl, fun U hU hW => ⟨rfl, by rw [hU]; exact hPc, va_K.moved hW.alike hKc⟩⟩ rfl rfl hl.1 rfl (lv_room (Nat.le_of_ble_eq_true rfl)) dC_pieceOf_102 ⟨by subst hR; exact hcells, by subst hR; exact hslots⟩) (fun r_102 hw_102 => ?_)
        subst hw_102
        refine lv_aload_n hx hb dC_pieceOf_105 rfl (lv_at hl 4 rfl) ?_
        refine lv_aload_n hx hb dC_pieceOf_106 rfl (lv_at hl 4 rfl) ?_
        refine va_get (D := (dC, dI)) (ci := 2) (v := .ref (ad 2)) (C := RC) (T := TC) (N := 10) hx hb hts (fun w9 h9 => List.mem_cons_of_mem _ (inC w9 h9)) hown hK hP 0 rfl rfl 1 (by decide) (hts _ (List.mem_cons_of_mem _ flC_13)) (fun _ h9 => h9) rfl dC_pieceOf_107 ?_
        refine lv_iload_n hx hb dC_pieceOf_110 rfl (lv_at hl 5 rfl) ?_
        refine lv_iload_n hx hb dC_pieceOf_111 rfl (lv_at hl 2 rfl) ?_
        have hPc := hP.sub (ws' := [((ad 0), .inr (2, [.ref (ad 1), .ref (ad 2), .ref (ad 3), .ref (ad 4), .ref (ad 5), .ref (ad 6), .int (iI nc), .int (iI np), .int (iI op), .int (iI (bz par))])), ((ad 3), .inl (cs 2, 512, .inl (aB O))), ((ad 2), .inl (cs 1, 512, .inl (aI Y)))]) [0, 3, 2] rfl
        have hKc := hK.sub (tys' := [(cs 2, .boolean), (cs 1, .int)]) [2, 1] rfl
        refine vp_callSi (W.runV (As := [.ref (ad 2), .int (iI i), .int (iI afi)]) (rest := [.int (iI (cen X O i afi)), .int (iI (Y i)), .int (iI (X i)), .int (iI (cen Y O i bfi)), .int (iI (cen X O i bfi)), .ref q_67, .ref q_67]) ⟨hx, hb, hml, hown, hts⟩ (k_curveEnd l dC dI (ad 0) (ad 1) (ad 2) (ad 3) (ad 4) (ad 5) (ad 6) nc np op par (ad 2) (cs 2) (cs 1) O Y i afi (by omega) (by omega) (by omega) (by omega)) (cwV 3 hts (tb_V mlC_156 imC_curveEnd seC_curveEnd iniC coC_curveEnd) rfl rfl rfl (by decide +kernel) (by subst hR; exact ⟨Nat.le_of_ble_eq_true rfl, Nat.le_of_ble_eq_true rfl⟩)) ⟨fun a9 U9 g9 mk9 q9 => by obtain ⟨q0, qP, qK⟩ := q9; exact ⟨q0, qP, va_K.moved (u := U9) (U := U9.calling g9 mk9 a9) (Vm.Alike.refl U9.vm) qK⟩, va_recv hKc hPc (ci := 2) (q0 := 0) rfl rfl, fun U hU hW => ⟨rfl, by rw [hU]; exact hPc, va_K.moved hW.alike hKc⟩⟩ rfl rfl hl.1 rfl (lv_room (Nat.le_of_ble_eq_true rfl)) dC_pieceOf_112 ⟨by subst hR; exact hcells, by subst hR; exact hslots⟩) (fun r_112 hw_112 => ?_)
        subst hw_112
        refine xi_iconst hx hb dC_pieceOf_115 ?_
        have hPc := xp_one hP (xl_at (ws := ((cW ad cs nc np op par X Y O PQ Wd pw pf pu ps) ++ va_pl LP (pG G))))
        have hKc := hK.sub (tys' := []) [] rfl
        have hDc := xp_oneD hD (xl_at (ws := ((cW ad cs nc np op par X Y O PQ Wd pw pf pu ps) ++ va_pl LP (pG G))))
        have hFc := xp_free1 hD hS hA (xl_at (ws := ((cW ad cs nc np op par X Y O PQ Wd pw pf pu ps) ++ va_pl LP (pG G))))
        refine va_callv (va_runI (As := [.int (iI (cen X O i bfi)), .int (iI (cen Y O i bfi)), .int (iI (X i)), .int (iI (Y i)), .int (iI (cen X O i afi)), .int (iI (cen Y O i afi)), .int (iI (bz false))]) (rest := [.ref q_67]) ⟨hx, hb, hml, hown, hts⟩ (p_init l dC dI H.size q_67 (cen X O i bfi) (cen Y O i bfi) (X i) (Y i) (cen X O i afi) (cen Y O i afi) false) (cwI 7 hts (tb_call coP_init) rfl rfl rfl (hts _ (List.mem_cons_of_mem _ iniP)) (hts _ (List.mem_cons_of_mem _ mlC_160)) (hts _ (List.mem_cons_of_mem _ imP_init)) rfl (by decide +kernel) (by subst hR; exact ⟨Nat.le_of_ble_eq_true rfl, Nat.le_of_ble_eq_true rfl⟩)) ⟨fun a9 U9 g9 mk9 q9 => by obtain ⟨q0, q1, qP, qK, qD⟩ := q9; exact ⟨q0, q1, qP, va_K.moved (u := U9) (U := U9.calling g9 mk9 a9) (Vm.Alike.refl U9.vm) qK, qD⟩, fun U hU hW => ⟨rfl, by rw [hU], by rw [hU]; exact hPc, va_K.moved hW.alike hKc, hDc.weaken (fun _ _ _ _ => trivial)⟩⟩ rfl rfl hl.1 rfl (lv_room (Nat.le_of_ble_eq_true rfl)) dC_pieceOf_116 ⟨by subst hR; exact Nat.le_of_ble_eq_true rfl, by subst hR; exact Nat.le_of_ble_eq_true rfl⟩) hS (fun q9 _ h9 => hFc q9 h9) hFc (fun u_116 t9 H1 locs1 ht9 hvm9 hw_116 hB9 hz9 hk9 hS1 => ?_)
        obtain ⟨hP1, hK1, hD1⟩ := hB9
        rw [ht9] at hP1
        have hP2 := xl_P hP hD hP1 hk9
        have hD2 := xl_D (e := .inr (0, [.int (iI (bz false)), .int (iI u_116.1), .int (iI u_116.2.1), .int (iI u_116.2.2.1), .int (iI u_116.2.2.2), .int (iI (cen X O i bfi)), .int (iI (cen Y O i bfi)), .int (iI (X i)), .int (iI (Y i)), .int (iI (cen X O i afi)), .int (iI (cen Y O i afi))])) hD
        clear hP1 hD1 hK1 hFc hPc hDc hKc hP hD
        have hqL : q_67 ∉ LP := va_pl_fresh2 hD2
        obtain ⟨t1, t2, t3, t4⟩ := hw_116
        rw [t1, t2, t3, t4] at hP2 hD2
        have hP : va_P (dC, dI) vwCl ((cW ad cs nc np op par X Y O PQ Wd pw pf pu ps) ++ va_pl (LP ++ [q_67]) (pG (upn G q_67 (PD.mk false (cen X O i bfi) (cen Y O i bfi) (X i) (Y i) (cen X O i afi) (cen Y O i afi))))) H1 := by (rw [← pl_up hqL]; exact hP2)
        have hD : va_D A ((cW ad cs nc np op par X Y O PQ Wd pw pf pu ps) ++ va_pl (LP ++ [q_67]) (pG (upn G q_67 (PD.mk false (cen X O i bfi) (cen Y O i bfi) (X i) (Y i) (cen X O i afi) (cen Y O i afi))))) := by (rw [← pl_up hqL]; exact hD2)
        clear hP2 hD2
        have hS := hS1
        clear hS1 hz9 hk9 ht9 hvm9
        revert hP hD hS; generalize H1 = H; generalize locs1 = locs; intro hP hD hS
        subst hQ
        refine W.widen (k := 1) (n := 11) (by omega) (by omega) ?_
        exact W.aret hx hb hr (Or.inl ⟨_, rfl⟩) (Or.inr ⟨_, rfl⟩) (fun t9 ht9 hW9 => ⟨⟨some q_67, (LP ++ [q_67], upn G q_67 (PD.mk false (cen X O i bfi) (cen Y O i bfi) (X i) (Y i) (cen X O i afi) (cen Y O i afi))), rfl, (Or.inr ⟨q_67, _, rfl, (by unfold pdt; rw [if_neg (by rw [c_64]; decide), ← hbf, ← haf]), hqL, rfl, rfl⟩), by rw [ht9]; exact hP, va_K.moved hW9.alike hK, hD⟩, hS.F ht9⟩) hS.2.2 dC_pieceOf_119
    refine lv_iload_n hx hb dC_pieceOf_21 rfl (lv_at hl 2 rfl) ?_
    refine xi_iconst hx hb dC_pieceOf_22 ?_
    refine xi_add (z := i + 1) hx hb dC_pieceOf_23 rfl ?_
    refine lv_aload_n hx hb dC_pieceOf_24 rfl (lv_at hl 1 rfl) ?_
    refine va_get (D := (dC, dI)) (ci := 2) (v := .int (iI np)) (C := RC) (T := TC) (N := 10) hx hb hts (fun w9 h9 => List.mem_cons_of_mem _ (inC w9 h9)) hown hK hP 0 rfl rfl 7 (by decide) (hts _ (List.mem_cons_of_mem _ flC_40)) (fun _ h9 => h9) rfl dC_pieceOf_25 ?_
    refine xi_icmp_ge (tgt := 37) hx hb dC_pieceOf_28 (by decide) (by omega) (by omega) (fun c_28 => ?_) (fun c_28 => ?_)
    · skip
      refine lv_aload_n hx hb dC_pieceOf_37 rfl (lv_at hl 1 rfl) ?_
      refine va_get (D := (dC, dI)) (ci := 2) (v := .int (iI op)) (C := RC) (T := TC) (N := 10) hx hb hts (fun w9 h9 => List.mem_cons_of_mem _ (inC w9 h9)) hown hK hP 0 rfl rfl 8 (by decide) (hts _ (List.mem_cons_of_mem _ flC_43)) (fun _ h9 => h9) rfl dC_pieceOf_38 ?_
      exact cut_41_2 op _ (by unfold nx; rw [if_neg (by omega)]) (lv_sub hl [0, 1, 2] rfl)
    · skip
      refine lv_iload_n hx hb dC_pieceOf_31 rfl (lv_at hl 2 rfl) ?_
      refine xi_iconst hx hb dC_pieceOf_32 ?_
      refine xi_add (z := i + 1) hx hb dC_pieceOf_33 rfl ?_
      refine lv_goto (tgt := 41) hx hb dC_pieceOf_34 (by decide) ?_
      exact cut_41_2 (i + 1) _ (by unfold nx; rw [if_pos c_28]) (lv_sub hl [0, 1, 2] rfl)
  refine lv_iload_n hx hb dC_pieceOf_0 rfl (lv_at hl 1 rfl) ?_
  refine lv_aload_n hx hb dC_pieceOf_1 rfl (lv_at hl 0 rfl) ?_
  refine va_get (D := (dC, dI)) (ci := 2) (v := .int (iI op)) (C := RC) (T := TC) (N := 10) hx hb hts (fun w9 h9 => List.mem_cons_of_mem _ (inC w9 h9)) hown hK hP 0 rfl rfl 8 (by decide) (hts _ (List.mem_cons_of_mem _ flC_43)) (fun _ h9 => h9) rfl dC_pieceOf_2 ?_
  refine xi_icmp_le (tgt := 14) hx hb dC_pieceOf_5 (by decide) (by omega) (by omega) (fun c_5 => ?_) (fun c_5 => ?_)
  · skip
    refine lv_aload_n hx hb dC_pieceOf_14 rfl (lv_at hl 0 rfl) ?_
    refine va_get (D := (dC, dI)) (ci := 2) (v := .int (iI np)) (C := RC) (T := TC) (N := 10) hx hb hts (fun w9 h9 => List.mem_cons_of_mem _ (inC w9 h9)) hown hK hP 0 rfl rfl 7 (by decide) (hts _ (List.mem_cons_of_mem _ flC_40)) (fun _ h9 => h9) rfl dC_pieceOf_15 ?_
    refine xi_iconst hx hb dC_pieceOf_18 ?_
    refine xi_sub (z := np - 1) hx hb dC_pieceOf_19 rfl ?_
    exact cut_20_1 (np - 1) _ (by unfold bf; rw [if_neg (by omega)]) (lv_sub hl [0, 1] rfl)
  · skip
    refine lv_iload_n hx hb dC_pieceOf_8 rfl (lv_at hl 1 rfl) ?_
    refine xi_iconst hx hb dC_pieceOf_9 ?_
    refine xi_sub (z := i - 1) hx hb dC_pieceOf_10 rfl ?_
    refine lv_goto (tgt := 20) hx hb dC_pieceOf_11 (by decide) ?_
    exact cut_20_1 (i - 1) _ (by unfold bf; rw [if_pos c_5]) (lv_sub hl [0, 1] rfl)
