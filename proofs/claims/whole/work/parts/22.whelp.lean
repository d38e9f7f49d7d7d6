/-! worlds one beside the other -/
section
variable {D : va_G} {cl : List vw_C} {A : Nat → Prop} {a a1 b b1 : va_W} {H H0 H1 : Heap} {locs : List Loc}
theorem xs_L (h : va_P D cl (a ++ b) H) : va_P D cl a H := fun k q hk => h k q (by
  have hl : k < a.length := (List.getElem?_eq_some_iff.mp hk).1
  rw [List.getElem?_append_left hl]; exact hk)
theorem xs_R (h : va_P D cl (a ++ b) H) : va_P D cl b H := fun k q hk => h (a.length + k) q (by rw [List.getElem?_append_right (by omega), Nat.add_sub_cancel_left]; exact hk)
theorem xd_L (h : va_D A (a ++ b)) : va_D A a := by
  have key : ∀ (k : Nat) (q : Nat × va_E), a[k]? = some q → (a ++ b)[k]? = some q := fun k q hk => by
    have hl : k < a.length := (List.getElem?_eq_some_iff.mp hk).1
    rw [List.getElem?_append_left hl]; exact hk
  exact ⟨fun i j p q hi hj => h.1 i j p q (key i p hi) (key j q hj), fun k q hk => h.2 k q (key k q hk)⟩
theorem xd_R (h : va_D A (a ++ b)) : va_D A b := by
  have key : ∀ (k : Nat) (q : Nat × va_E), b[k]? = some q → (a ++ b)[a.length + k]? = some q := fun k q hk => by rw [List.getElem?_append_right (by omega), Nat.add_sub_cancel_left]; exact hk
  exact ⟨fun i j p q hi hj hpq => by have := h.1 _ _ p q (key i p hi) (key j q hj) hpq; omega, fun k q hk => h.2 _ q (key k q hk)⟩
theorem xs_fL (hD : va_D A (a ++ b)) (hS : va_S A H0 H locs) (hA : ∀ q, H0.size ≤ q → A q) : ∀ q, va_A a H.size q → A q := xp_free hD hS hA (fun i q hi => ⟨i, by
  have hl : i < a.length := (List.getElem?_eq_some_iff.mp hi).1
  rw [List.getElem?_append_left hl]; exact hi⟩)
theorem xs_fR (hD : va_D A (a ++ b)) (hS : va_S A H0 H locs) (hA : ∀ q, H0.size ≤ q → A q) : ∀ q, va_A b H.size q → A q := xp_free hD hS hA (fun i q hi => ⟨a.length + i, by rw [List.getElem?_append_right (by omega), Nat.add_sub_cancel_left]; exact hi⟩)
theorem xs_off (hD : va_D A (a ++ b)) {k : Nat} {q : Nat × va_E} (hk : b[k]? = some q) (hl : q.1 < H.size) : ¬ va_A a H.size q.1 := fun h => by
  rcases h with ⟨i, e, hi⟩ | h
  · have hil : i < a.length := (List.getElem?_eq_some_iff.mp hi).1
    have := hD.1 i (a.length + k) (q.1, e) q (by rw [List.getElem?_append_left hil]; exact hi) (by rw [List.getElem?_append_right (by omega), Nat.add_sub_cancel_left]; exact hk) rfl
    omega
  · omega
theorem xs_offR (hD : va_D A (a ++ b)) {k : Nat} {q : Nat × va_E} (hk : a[k]? = some q) (hl : q.1 < H.size) : ¬ va_A b H.size q.1 := fun h => by
  rcases h with ⟨i, e, hi⟩ | h
  · have hil : k < a.length := (List.getElem?_eq_some_iff.mp hk).1
    have := hD.1 k (a.length + i) q (q.1, e) (by rw [List.getElem?_append_left hil]; exact hk) (by rw [List.getElem?_append_right (by omega), Nat.add_sub_cancel_left]; exact hi) rfl
    omega
  · omega
theorem xs_PL (hP : va_P D cl (a ++ b) H) (hD : va_D A (a ++ b)) (h1 : va_P D cl a1 H1) (hq : ∀ q : Nat, q < H.size → ¬ va_A a H.size q → H1[q]? = H[q]?) : va_P D cl (a1 ++ b) H1 :=
  va_P.app h1 ((xs_R hP).kept (fun k q hk => hq q.1 ((xs_R hP) k q hk).lt (xs_off hD hk ((xs_R hP) k q hk).lt)))
theorem xs_PR (hP : va_P D cl (a ++ b) H) (hD : va_D A (a ++ b)) (h1 : va_P D cl b1 H1) (hq : ∀ q : Nat, q < H.size → ¬ va_A b H.size q → H1[q]? = H[q]?) : va_P D cl (a ++ b1) H1 :=
  va_P.app ((xs_L hP).kept (fun k q hk => hq q.1 ((xs_L hP) k q hk).lt (xs_offR hD hk ((xs_L hP) k q hk).lt))) h1
theorem xs_DL (hP : va_P D cl (a ++ b) H) (hD : va_D A (a ++ b)) (h1 : va_D (va_A a H.size) a1) (hF : ∀ q, va_A a H.size q → A q) : va_D A (a1 ++ b) :=
  va_D.app (h1.weaken (fun _ _ _ h => hF _ h)) (xd_R hD) (fun i j p q hi hj e => xs_off hD hj ((xs_R hP) j q hj).lt (e ▸ h1.2 i p hi))
theorem xs_DR (hP : va_P D cl (a ++ b) H) (hD : va_D A (a ++ b)) (h1 : va_D (va_A b H.size) b1) (hF : ∀ q, va_A b H.size q → A q) : va_D A (a ++ b1) :=
  va_D.app (xd_L hD) (h1.weaken (fun _ _ _ h => hF _ h)) (fun i j p q hi hj e => xs_offR hD hi ((xs_L hP) i p hi).lt (e ▸ h1.2 j q hj))
end
theorem xFk.cast {A : Nat → Prop} {sa : Nat → Nat} {U : State} {args : Array Value} (h : xFk A sa U) (c : String) (hc : c ∈ xCs) : (Cond.castable c c).before args U = true := va_Nw.use rfl (h.2.1 c hc)
/-- what the helpers need of the machine -/
def xHk (A : Nat → Prop) (sa : Nat → Nat) (U : State) : Prop := xFk A sa U ∧ va_Nc ISE IAE U ∧ va_Nc ISE IOB U
theorem xHk.move {A : Nat → Prop} {sa : Nat → Nat} {s U : State} (h : xHk A sa s) (hW : s.WarmedH U.vm) (hq : ∀ a : Nat, a < s.heap.size → ¬ A a → U.heap[a]? = s.heap[a]?) : xHk A sa U := ⟨h.1.move hW hq, va_Nc.moved hW.alike h.2.1, va_Nc.moved hW.alike h.2.2⟩
theorem xHk.narrow {A B : Nat → Prop} {sa : Nat → Nat} {U : State} (h : xHk A sa U) (hAB : ∀ q, B q → A q) : xHk B sa U := ⟨h.1.narrow hAB, h.2⟩
theorem xHk.calling {A : Nat → Prop} {sa : Nat → Nat} {U : State} (h : xHk A sa U) (g : JFrame) (mk : MethodId) (a : Array Value) : xHk A sa (U.calling g mk a) := ⟨h.1.calling g mk a, va_Nc.moved (u := U) (Vm.Alike.refl U.vm) h.2.1, va_Nc.moved (u := U) (Vm.Alike.refl U.vm) h.2.2⟩
theorem isum_bd2 {f : Int → Int} {c : Int} (hf : ∀ k, 0 ≤ f k ∧ f k ≤ c) (n : Nat) : 0 ≤ isum f n ∧ isum f n ≤ c * n := by
  induction n with
  | zero => show (0 : Int) ≤ 0 ∧ (0 : Int) ≤ c * ((0 : Nat) : Int); rw [show ((0 : Nat) : Int) = 0 from rfl, Int.mul_zero]; omega
  | succ n ih =>
    have h1 := hf (n : Int)
    show 0 ≤ isum f n + f (n : Int) ∧ isum f n + f (n : Int) ≤ c * ((n + 1 : Nat) : Int)
    rw [show ((n + 1 : Nat) : Int) = (n : Int) + 1 by omega, Int.mul_add, Int.mul_one]
    omega
theorem spC_bd {P : Int → Bool} {k z : Int} {en : Bool} (h : spC P k en z) : -1 ≤ z ∧ z ≤ 64 := by
  obtain ⟨b, hb, hz⟩ := h
  have : -1 ≤ b ∧ b < 64 := by rcases hb with q | q <;> omega
  rw [hz]; split <;> omega
theorem exC_bd {LP : List Nat} {PQ : Int → Option Nat} {G : Nat → PD} {w op v : Int} (hG : cOk LP G PQ op) (h : exC PQ G w op v) : -8192 ≤ v ∧ v ≤ 8192 := by
  rcases h.2 with q | ⟨i, a, h1, h2, h3, h4⟩
  · rw [q]; unfold exI; split <;> omega
  · rw [← h4]; exact pbw_bd (hG i h1 h2 a h3).2 w
theorem lI_lN (n : Nat) : lN n = lI (lN n).toInt := (Int64.ofInt_toInt (lN n)).symm

set_option maxHeartbeats 4000000 in
set_option maxRecDepth 100000 in
/-- add -/
theorem h_add (l : Launch) (dC : Nat → ClassId) (dI : Nat → Nat → Nat) (ad : Nat → Nat) (cs : Nat → ClassId) (sz : Nat) (hlt : l.stackTraces = false) (sa : Nat → Nat) (ao : Nat) (co : ClassId) (LP : List Nat) (G : Nat → PD) (nc np op : Int) (par : Bool) (X Y : Int → Int) (O : Int → Bool) (PQ : Int → Option Nat) (Wd : Int → Int) (pw pf pu ps : Int) (Fo : Int → Int) (x y : Int) (on : Bool) (h2 : 0 ≤ np ∧ np ≤ 512) (ho : 0 ≤ op ∧ op ≤ np) (hx0 : -2147483648 ≤ x ∧ x ≤ 2147483647) (hy0 : -2147483648 ≤ y ∧ y ≤ 2147483647) : Met l yW_add wW_add ({ frames := 7, cells := 1, slots := 6, locals := 105 }) (va_Pc [.ref (ad 0), .int (iI x), .int (iI y), .int (iI (bz on)), .ref ao] (fun U => U.heap.size = sz ∧ va_P (dC, dI) vwCl (((cW ad cs nc np op par X Y O PQ Wd pw pf pu ps) ++ va_pl LP (pG G)) ++ [(ao, .inl (co, 1, .inr (.inl (aL Fo))))]) U.heap ∧ va_K (dC, dI) vwCl (cT cs ++ [(co, .long)]) U ∧ va_D (fun _ => True) (((cW ad cs nc np op par X Y O PQ Wd pw pf pu ps) ++ va_pl LP (pG G)) ++ [(ao, .inl (co, 1, .inr (.inl (aL Fo))))]) ∧ xHk (va_A (((cW ad cs nc np op par X Y O PQ Wd pw pf pu ps) ++ va_pl LP (pG G)) ++ [(ao, .inl (co, 1, .inr (.inl (aL Fo))))]) sz) sa U)) (va_Qi (fun (r : Int32) (u : Int × (Int → Int) × (Int → Int) × (Int → Bool) × (Int → Int)) => r = iI (fA x y np) ∧ (fA x y np = 0 → u.1 = np + 1 ∧ u.2.1 = up X np x ∧ u.2.2.1 = up Y np y ∧ u.2.2.2.1 = up O np on ∧ u.2.2.2.2 0 = np + 1 - op) ∧ (fA x y np ≠ 0 → u.1 = np ∧ u.2.1 = X ∧ u.2.2.1 = Y ∧ u.2.2.2.1 = O)) (fun (u : Int × (Int → Int) × (Int → Int) × (Int → Bool) × (Int → Int)) t9 => va_P (dC, dI) vwCl (((cW ad cs nc u.1 op par u.2.1 u.2.2.1 u.2.2.2.1 PQ Wd pw pf pu ps) ++ va_pl LP (pG G)) ++ [(ao, .inl (co, 1, .inr (.inl (aL u.2.2.2.2))))]) t9.heap ∧ va_K (dC, dI) vwCl (cT cs ++ [(co, .long)]) t9 ∧ va_D (va_A (((cW ad cs nc np op par X Y O PQ Wd pw pf pu ps) ++ va_pl LP (pG G)) ++ [(ao, .inl (co, 1, .inr (.inl (aL Fo))))]) sz) (((cW ad cs nc u.1 op par u.2.1 u.2.2.1 u.2.2.2.1 PQ Wd pw pf pu ps) ++ va_pl LP (pG G)) ++ [(ao, .inl (co, 1, .inr (.inl (aL u.2.2.2.2))))])) (va_A (((cW ad cs nc np op par X Y O PQ Wd pw pf pu ps) ++ va_pl LP (pG G)) ++ [(ao, .inl (co, 1, .inr (.inl (aL Fo))))]) sz)) 1 6 (va_A (((cW ad cs nc np op par X Y O PQ Wd pw pf pu ps) ++ va_pl LP (pG G)) ++ [(ao, .inl (co, 1, .inr (.inl (aL Fo))))]) sz) := by
  refine va_MetW (cc := cW_add) (maxL := 6) (ret := (some .int)) (hh := [(0, 12, 15, 13), (0, 12, 19, 15)]) (by decide) rfl ?_
  intro p e s m args below meth c s₁ B hml hv
  obtain ⟨hargs, hsz, hP, hK, hD0, hXH⟩ := hv
  have hx := B.exec
  have hb := B.bytes
  have hr := B.returns
  have hts := atoms_spec (ws := wW_add) B.pre
  have hown : s.vm.findClass RW = some m.cls := findClass_of_methodNamed B.named
  have hlocks := B.notSynchronized
  have htab := vx_table (x := yW_add) B (hts _ List.mem_cons_self)
  subst hsz
  have hD := hD0.self (sz := s.heap.size)
  generalize hAe : va_A (((cW ad cs nc np op par X Y O PQ Wd pw pf pu ps) ++ va_pl LP (pG G)) ++ [(ao, .inl (co, 1, .inr (.inl (aL Fo))))]) s.heap.size = A at hD hXH ⊢
  have hA : ∀ q : Nat, s.heap.size ≤ q → A q := fun q h => by rw [← hAe]; exact Or.inr h
  have hS0 : va_S A s.heap s.heap [] := va_S.rf
  refine x_name (fun R Q H locs hR hQ hH hlo => ?_)
  rw [← hH] at hP
  have hS : va_S A s.heap H locs := by rw [hH, hlo]; exact hS0
  refine x_entry hargs (Nat.le_of_ble_eq_true rfl) (fun ls hl => ?_)
  have hl : lv_has ls 6 [(0, .ref (ad 0)), (1, .int (iI x)), (2, .int (iI y)), (3, .int (iI (bz on))), (4, .ref ao)] := hl
  have hP : va_P (dC, dI) vwCl (((cW ad cs nc np op par X Y O PQ Wd pw pf pu ps) ++ va_pl LP (pG G)) ++ [(ao, .inl (co, 1, .inr (.inl (aL Fo))))]) H := hP
  obtain ⟨hXF, hNIAE, hNIOB⟩ := hXH
  refine lv_aload hx hb dW_add_0 (lv_at hl 4 rfl) ?_
  refine xi_iconst hx hb dW_add_2 ?_
  refine lv_aload_n hx hb dW_add_3 rfl (lv_at hl 0 rfl) ?_
  refine lv_iload_n hx hb dW_add_4 rfl (lv_at hl 1 rfl) ?_
  refine lv_iload_n hx hb dW_add_5 rfl (lv_at hl 2 rfl) ?_
  refine lv_iload_n hx hb dW_add_6 rfl (lv_at hl 3 rfl) ?_
  have hPc := xs_L hP
  have hKc := hK.sub (tys' := cT cs) [0, 1, 2, 3, 4] rfl
  have hDc := xd_L hD
  have hFc := xs_fL hD hS hA
  refine vx_calli (SX := Unit) (vx_runV (As := [.int (iI x), .int (iI y), .int (iI (bz on))]) (rest := [.int (iI 0), .ref ao]) ⟨hx, hb, hml, hown, hts⟩ (k_add l hlt sa dC dI ad cs H.size LP G nc np op par X Y O PQ Wd pw pf pu ps x y on h2 hx0 hy0) (cwV 3 hts (tb_V mlW_7 imC_add seC_add iniC coC_add) rfl rfl rfl (by decide +kernel) (by subst hR; exact ⟨Nat.le_of_ble_eq_true rfl, Nat.le_of_ble_eq_true rfl⟩)) ⟨fun a9 U9 g9 mk9 q9 => by obtain ⟨q0, q1, qP, qK, qD, qF⟩ := q9; exact ⟨q0, q1, qP, va_K.moved (u := U9) (U := U9.calling g9 mk9 a9) (Vm.Alike.refl U9.vm) qK, qD, qF.calling g9 mk9 a9⟩, va_recv hKc hPc (ci := 2) (q0 := 0) rfl rfl, fun U hU hW => ⟨rfl, by rw [hU], by rw [hU]; exact hPc, va_K.moved hW.alike hKc, hDc.weaken (fun _ _ _ _ => trivial), (hXF.move hW (fun a h1 h2 => by rw [hU]; exact hS.2.1 a h1 h2)).narrow hFc⟩⟩ rfl rfl hl.1 rfl (lv_room (Nat.le_of_ble_eq_true rfl)) dW_add_7 ⟨by subst hR; exact Nat.le_of_ble_eq_true rfl, by subst hR; exact Nat.le_of_ble_eq_true rfl⟩) hS (fun q9 _ h9 => hFc q9 h9) hFc (fun q9 _ h9 => hFc q9 h9) (fun E9 ce9 q9 u9 t9 H1 locs1 ht9 hvm9 hpx9 hB9 hz9 hk9 hS1 hce9 hcv9 hcl9 => ?_) (fun r_7 u_7 t9 H1 locs1 ht9 hvm9 hw_7 hB9 hz9 hk9 hS1 => ?_)
  · obtain ⟨hC9, hP9, hK9⟩ := hB9
    rw [ht9] at hP9
    have hP : va_P (dC, dI) vwCl (((cW ad cs nc np op par X Y O PQ Wd pw pf pu ps) ++ va_pl LP (pG G)) ++ [(ao, .inl (co, 1, .inr (.inl (aL Fo))))]) H1 := xs_PL hP hD hP9 hk9
    have hD : va_D A (((cW ad cs nc np op par X Y O PQ Wd pw pf pu ps) ++ va_pl LP (pG G)) ++ [(ao, .inl (co, 1, .inr (.inl (aL Fo))))]) := hD
    have hS := hS1
    clear hP9 hK9 hPc hKc hDc hFc hz9 hk9 ht9 hvm9 hS1
    rcases hC9 with ⟨hE9, hf9⟩ | ⟨hE9, hf9⟩
    · subst hE9
      refine vx_catch (own := RW) (name := IAE) (E := IAE) hown [] ⟨0, 12, 15, 13⟩ [⟨0, 12, 19, 15⟩] htab (fun z9 h9 => nomatch h9) rfl (by decide) (hts _ (List.mem_cons_of_mem _ clW_13)) (hXF.cast IAE (by decide +kernel)) hce9 hcv9 hcl9 ?_
      refine lv_astore (lv' := [(5, .ref q9), (0, .ref (ad 0)), (1, .int (iI x)), (2, .int (iI y)), (3, .int (iI (bz on))), (4, .ref ao)]) hx hb dW_add_15 hl (by decide) rfl (fun ls hl => ?_)
      refine xi_iconst hx hb dW_add_17 ?_
      subst hQ
      refine W.widen (k := 1) (n := 6) (by omega) (by omega) ?_
      exact W.iret (v := (iI 1)) hx hb hr (fun t9 ht9 hW9 => ⟨⟨_, (np, X, Y, O, Fo), rfl, (⟨by rw [hf9], fun h => absurd h (by rw [hf9]; decide), fun _ => ⟨rfl, rfl, rfl, rfl⟩⟩), by rw [ht9]; exact hP, va_K.moved hW9.alike hK, hD⟩, hS.F ht9⟩) hS.2.2 dW_add_18
    · subst hE9
      refine vx_catch (own := RW) (name := ISE) (E := ISE) hown [⟨0, 12, 15, 13⟩] ⟨0, 12, 19, 15⟩ [] htab (fun z9 h9 => by rw [List.mem_singleton.mp h9]; exact Or.inr ⟨by decide, IAE, (hts _ (List.mem_cons_of_mem _ clW_13)), hNIAE⟩) rfl (by decide) (hts _ (List.mem_cons_of_mem _ clW_15)) (hXF.cast ISE (by decide +kernel)) hce9 hcv9 hcl9 ?_
      refine lv_astore (lv' := [(5, .ref q9), (0, .ref (ad 0)), (1, .int (iI x)), (2, .int (iI y)), (3, .int (iI (bz on))), (4, .ref ao)]) hx hb dW_add_19 hl (by decide) rfl (fun ls hl => ?_)
      refine xi_iconst hx hb dW_add_21 ?_
      subst hQ
      refine W.widen (k := 1) (n := 6) (by omega) (by omega) ?_
      exact W.iret (v := (iI 2)) hx hb hr (fun t9 ht9 hW9 => ⟨⟨_, (np, X, Y, O, Fo), rfl, (⟨by rw [hf9], fun h => absurd h (by rw [hf9]; decide), fun _ => ⟨rfl, rfl, rfl, rfl⟩⟩), by rw [ht9]; exact hP, va_K.moved hW9.alike hK, hD⟩, hS.F ht9⟩) hS.2.2 dW_add_22
  · obtain ⟨hP1, hK1, hD1⟩ := hB9
    rw [ht9] at hP1
    obtain ⟨f9, hr9⟩ := hw_7; subst hr9
    have hDn : va_D A (((cW ad cs nc (np + 1) op par (up X np x) (up Y np y) (up O np on) PQ Wd pw pf pu ps) ++ va_pl LP (pG G)) ++ [(ao, .inl (co, 1, .inr (.inl (aL Fo))))]) := xs_DL hP hD hD1 hFc
    have hP : va_P (dC, dI) vwCl (((cW ad cs nc (np + 1) op par (up X np x) (up Y np y) (up O np on) PQ Wd pw pf pu ps) ++ va_pl LP (pG G)) ++ [(ao, .inl (co, 1, .inr (.inl (aL Fo))))]) H1 := xs_PL hP hD hP1 hk9
    have hD := hDn
    have hS := hS1
    clear hDn hP1 hK1 hD1 hPc hKc hDc hFc hz9 hk9 ht9 hvm9 hS1
    refine xl_i2l hx hb dW_add_10 (by omega) ?_
    refine xa_last (z := 0) (v := np + 1 - op) hx hb hK hP hD hS _ 5 xl_at rfl (by decide) (by omega) dW_add_11 (fun H locs hP hD hS => ?_)
    rw [xl_set] at hP hD
    have hP : va_P (dC, dI) vwCl (((cW ad cs nc (np + 1) op par (up X np x) (up Y np y) (up O np on) PQ Wd pw pf pu ps) ++ va_pl LP (pG G)) ++ [(ao, .inl (co, 1, .inr (.inl (aL (up Fo 0 (np + 1 - op))))))]) H := hP
    have hD : va_D A (((cW ad cs nc (np + 1) op par (up X np x) (up Y np y) (up O np on) PQ Wd pw pf pu ps) ++ va_pl LP (pG G)) ++ [(ao, .inl (co, 1, .inr (.inl (aL (up Fo 0 (np + 1 - op))))))]) := hD
    refine lv_goto (tgt := 23) hx hb dW_add_12 (by decide) ?_
    refine xi_iconst hx hb dW_add_23 ?_
    subst hQ
    refine W.widen (k := 1) (n := 6) (by omega) (by omega) ?_
    exact W.iret (v := (iI 0)) hx hb hr (fun t9 ht9 hW9 => ⟨⟨_, (np + 1, up X np x, up Y np y, up O np on, up Fo 0 (np + 1 - op)), rfl, (⟨by rw [f9], fun _ => ⟨rfl, rfl, rfl, rfl, up_s Fo 0 _⟩, fun h => absurd f9 h⟩), by rw [ht9]; exact hP, va_K.moved hW9.alike hK, hD⟩, hS.F ht9⟩) hS.2.2 dW_add_24
set_option maxHeartbeats 4000000 in
set_option maxRecDepth 100000 in
/-- close -/
theorem h_close (l : Launch) (dC : Nat → ClassId) (dI : Nat → Nat → Nat) (ad : Nat → Nat) (cs : Nat → ClassId) (sz : Nat) (hlt : l.stackTraces = false) (sa : Nat → Nat) (ao : Nat) (co : ClassId) (LP : List Nat) (G : Nat → PD) (nc np op : Int) (par : Bool) (X Y : Int → Int) (O : Int → Bool) (PQ : Int → Option Nat) (Wd : Int → Int) (pw pf pu ps : Int) (Fo : Int → Int) (h2 : 0 ≤ op ∧ op ≤ np ∧ np ≤ 512) (hnc : 0 ≤ nc ∧ nc ≤ 64) (hxy : ∀ k : Int, op ≤ k → k < np → (-8192 ≤ X k ∧ X k ≤ 8191) ∧ (-8192 ≤ Y k ∧ Y k ≤ 8191)) : Met l yW_close wW_close ({ frames := 7, cells := 512, slots := 5632, locals := 103 }) (va_Pc [.ref (ad 0), .ref ao] (fun U => U.heap.size = sz ∧ va_P (dC, dI) vwCl (((cW ad cs nc np op par X Y O PQ Wd pw pf pu ps) ++ va_pl LP (pG G)) ++ [(ao, .inl (co, 1, .inr (.inl (aL Fo))))]) U.heap ∧ va_K (dC, dI) vwCl (cT cs ++ [(co, .long)]) U ∧ va_D (fun _ => True) (((cW ad cs nc np op par X Y O PQ Wd pw pf pu ps) ++ va_pl LP (pG G)) ++ [(ao, .inl (co, 1, .inr (.inl (aL Fo))))]) ∧ xHk (va_A (((cW ad cs nc np op par X Y O PQ Wd pw pf pu ps) ++ va_pl LP (pG G)) ++ [(ao, .inl (co, 1, .inr (.inl (aL Fo))))]) sz) sa U)) (va_Qi (fun (r : Int32) (u : Int × Int × List Nat × (Nat → PD) × (Int → Option Nat) × (Int → Int)) => (¬ (np = op ∨ 64 ≤ nc) → r = iI 0 ∧ u.1 = nc + 1 ∧ u.2.1 = np ∧ newP LP G PQ u.2.2.1 u.2.2.2.1 u.2.2.2.2.1 X Y O op np np ∧ u.2.2.2.2.2 0 = nc + 1) ∧ ((np = op ∨ 64 ≤ nc) → r = iI 1 ∧ u.1 = nc ∧ u.2.1 = op ∧ u.2.2.1 = LP ∧ u.2.2.2.1 = G ∧ u.2.2.2.2.1 = PQ)) (fun (u : Int × Int × List Nat × (Nat → PD) × (Int → Option Nat) × (Int → Int)) t9 => va_P (dC, dI) vwCl (((cW ad cs u.1 np u.2.1 par X Y O u.2.2.2.2.1 Wd pw pf pu ps) ++ va_pl u.2.2.1 (pG u.2.2.2.1)) ++ [(ao, .inl (co, 1, .inr (.inl (aL u.2.2.2.2.2))))]) t9.heap ∧ va_K (dC, dI) vwCl (cT cs ++ [(co, .long)]) t9 ∧ va_D (va_A (((cW ad cs nc np op par X Y O PQ Wd pw pf pu ps) ++ va_pl LP (pG G)) ++ [(ao, .inl (co, 1, .inr (.inl (aL Fo))))]) sz) (((cW ad cs u.1 np u.2.1 par X Y O u.2.2.2.2.1 Wd pw pf pu ps) ++ va_pl u.2.2.1 (pG u.2.2.2.1)) ++ [(ao, .inl (co, 1, .inr (.inl (aL u.2.2.2.2.2))))])) (va_A (((cW ad cs nc np op par X Y O PQ Wd pw pf pu ps) ++ va_pl LP (pG G)) ++ [(ao, .inl (co, 1, .inr (.inl (aL Fo))))]) sz)) 512 5632 (va_A (((cW ad cs nc np op par X Y O PQ Wd pw pf pu ps) ++ va_pl LP (pG G)) ++ [(ao, .inl (co, 1, .inr (.inl (aL Fo))))]) sz) := by
  refine va_MetW (cc := cW_close) (maxL := 3) (ret := (some .int)) (hh := [(0, 8, 11, 15)]) (by decide) rfl ?_
  intro p e s m args below meth c s₁ B hml hv
  obtain ⟨hargs, hsz, hP, hK, hD0, hXH⟩ := hv
  have hx := B.exec
  have hb := B.bytes
  have hr := B.returns
  have hts := atoms_spec (ws := wW_close) B.pre
  have hown : s.vm.findClass RW = some m.cls := findClass_of_methodNamed B.named
  have hlocks := B.notSynchronized
  have htab := vx_table (x := yW_close) B (hts _ List.mem_cons_self)
  subst hsz
  have hD := hD0.self (sz := s.heap.size)
  generalize hAe : va_A (((cW ad cs nc np op par X Y O PQ Wd pw pf pu ps) ++ va_pl LP (pG G)) ++ [(ao, .inl (co, 1, .inr (.inl (aL Fo))))]) s.heap.size = A at hD hXH ⊢
  have hA : ∀ q : Nat, s.heap.size ≤ q → A q := fun q h => by rw [← hAe]; exact Or.inr h
  have hS0 : va_S A s.heap s.heap [] := va_S.rf
  refine x_name (fun R Q H locs hR hQ hH hlo => ?_)
  rw [← hH] at hP
  have hS : va_S A s.heap H locs := by rw [hH, hlo]; exact hS0
  refine x_entry hargs (Nat.le_of_ble_eq_true rfl) (fun ls hl => ?_)
  have hl : lv_has ls 3 [(0, .ref (ad 0)), (1, .ref ao)] := hl
  have hP : va_P (dC, dI) vwCl (((cW ad cs nc np op par X Y O PQ Wd pw pf pu ps) ++ va_pl LP (pG G)) ++ [(ao, .inl (co, 1, .inr (.inl (aL Fo))))]) H := hP
  obtain ⟨hXF, hNIAE, hNIOB⟩ := hXH
  refine lv_aload_n hx hb dW_close_0 rfl (lv_at hl 1 rfl) ?_
  refine xi_iconst hx hb dW_close_1 ?_
  refine lv_aload_n hx hb dW_close_2 rfl (lv_at hl 0 rfl) ?_
  have hPc := xs_L hP
  have hKc := hK.sub (tys' := cT cs) [0, 1, 2, 3, 4] rfl
  have hDc := xd_L hD
  have hFc := xs_fL hD hS hA
  refine vx_calli (SX := Unit) (vx_runV (As := []) (rest := [.int (iI 0), .ref ao]) ⟨hx, hb, hml, hown, hts⟩ (k_close l hlt sa dC dI ad cs H.size LP G nc np op par X Y O PQ Wd pw pf pu ps h2 hnc hxy) (cwV 0 hts (tb_V mlW_17 imC_close seC_close iniC coC_close) rfl rfl rfl (by decide +kernel) (by subst hR; exact ⟨Nat.le_of_ble_eq_true rfl, Nat.le_of_ble_eq_true rfl⟩)) ⟨fun a9 U9 g9 mk9 q9 => by obtain ⟨q0, q1, qP, qK, qD, qF⟩ := q9; exact ⟨q0, q1, qP, va_K.moved (u := U9) (U := U9.calling g9 mk9 a9) (Vm.Alike.refl U9.vm) qK, qD, qF.calling g9 mk9 a9⟩, va_recv hKc hPc (ci := 2) (q0 := 0) rfl rfl, fun U hU hW => ⟨rfl, by rw [hU], by rw [hU]; exact hPc, va_K.moved hW.alike hKc, hDc.weaken (fun _ _ _ _ => trivial), (hXF.move hW (fun a h1 h2 => by rw [hU]; exact hS.2.1 a h1 h2)).narrow hFc⟩⟩ rfl rfl hl.1 rfl (lv_room (Nat.le_of_ble_eq_true rfl)) dW_close_3 ⟨by subst hR; exact Nat.le_of_ble_eq_true rfl, by subst hR; exact Nat.le_of_ble_eq_true rfl⟩) hS (fun q9 _ h9 => hFc q9 h9) hFc (fun q9 _ h9 => hFc q9 h9) (fun E9 ce9 q9 u9 t9 H1 locs1 ht9 hvm9 hpx9 hB9 hz9 hk9 hS1 hce9 hcv9 hcl9 => ?_) (fun r_3 u_3 t9 H1 locs1 ht9 hvm9 hw_3 hB9 hz9 hk9 hS1 => ?_)
  · obtain ⟨hC9, hP9, hK9⟩ := hB9
    rw [ht9] at hP9
    have hP : va_P (dC, dI) vwCl (((cW ad cs nc np op par X Y O PQ Wd pw pf pu ps) ++ va_pl LP (pG G)) ++ [(ao, .inl (co, 1, .inr (.inl (aL Fo))))]) H1 := xs_PL hP hD hP9 hk9
    have hD : va_D A (((cW ad cs nc np op par X Y O PQ Wd pw pf pu ps) ++ va_pl LP (pG G)) ++ [(ao, .inl (co, 1, .inr (.inl (aL Fo))))]) := hD
    have hS := hS1
    clear hP9 hK9 hPc hKc hDc hFc hz9 hk9 ht9 hvm9 hS1
    obtain ⟨hE9, hf9⟩ := hC9
    subst hE9
    refine vx_catch (own := RW) (name := ISE) (E := ISE) hown [] ⟨0, 8, 11, 15⟩ [] htab (fun z9 h9 => nomatch h9) rfl (by decide) (hts _ (List.mem_cons_of_mem _ clW_15)) (hXF.cast ISE (by decide +kernel)) hce9 hcv9 hcl9 ?_
    refine lv_astore_n (lv' := [(2, .ref q9), (0, .ref (ad 0)), (1, .ref ao)]) hx hb dW_close_11 rfl hl (by decide) rfl (fun ls hl => ?_)
    refine xi_iconst hx hb dW_close_12 ?_
    subst hQ
    refine W.widen (k := 512) (n := 5632) (by omega) (by omega) ?_
    exact W.iret (v := (iI 1)) hx hb hr (fun t9 ht9 hW9 => ⟨⟨_, (nc, op, LP, G, PQ, Fo), rfl, (⟨fun h => absurd hf9 h, fun _ => ⟨rfl, rfl, rfl, rfl, rfl, rfl⟩⟩), by rw [ht9]; exact hP, va_K.moved hW9.alike hK, hD⟩, hS.F ht9⟩) hS.2.2 dW_close_13
  · obtain ⟨hP1, hK1, hD1⟩ := hB9
    rw [ht9] at hP1
    obtain ⟨f9, hr9, hN9⟩ := hw_3; subst hr9
    have hDn : va_D A (((cW ad cs (nc + 1) np np par X Y O u_3.2.2 Wd pw pf pu ps) ++ va_pl u_3.1 (pG u_3.2.1)) ++ [(ao, .inl (co, 1, .inr (.inl (aL Fo))))]) := xs_DL hP hD hD1 hFc
    have hP : va_P (dC, dI) vwCl (((cW ad cs (nc + 1) np np par X Y O u_3.2.2 Wd pw pf pu ps) ++ va_pl u_3.1 (pG u_3.2.1)) ++ [(ao, .inl (co, 1, .inr (.inl (aL Fo))))]) H1 := xs_PL hP hD hP1 hk9
    have hD := hDn
    have hS := hS1
    clear hDn hP1 hK1 hD1 hPc hKc hDc hFc hz9 hk9 ht9 hvm9 hS1
    refine xl_i2l hx hb dW_close_6 (by omega) ?_
    refine xa_last (z := 0) (v := nc + 1) hx hb hK hP hD hS _ 5 xl_at rfl (by decide) (by omega) dW_close_7 (fun H locs hP hD hS => ?_)
    rw [xl_set] at hP hD
    have hP : va_P (dC, dI) vwCl (((cW ad cs (nc + 1) np np par X Y O u_3.2.2 Wd pw pf pu ps) ++ va_pl u_3.1 (pG u_3.2.1)) ++ [(ao, .inl (co, 1, .inr (.inl (aL (up Fo 0 (nc + 1))))))]) H := hP
    have hD : va_D A (((cW ad cs (nc + 1) np np par X Y O u_3.2.2 Wd pw pf pu ps) ++ va_pl u_3.1 (pG u_3.2.1)) ++ [(ao, .inl (co, 1, .inr (.inl (aL (up Fo 0 (nc + 1))))))]) := hD
    refine lv_goto (tgt := 14) hx hb dW_close_8 (by decide) ?_
    refine xi_iconst hx hb dW_close_14 ?_
    subst hQ
    refine W.widen (k := 512) (n := 5632) (by omega) (by omega) ?_
    exact W.iret (v := (iI 0)) hx hb hr (fun t9 ht9 hW9 => ⟨⟨_, (nc + 1, np, u_3.1, u_3.2.1, u_3.2.2, up Fo 0 (nc + 1)), rfl, (⟨fun _ => ⟨rfl, rfl, rfl, hN9, up_s Fo 0 _⟩, fun h => absurd h f9⟩), by rw [ht9]; exact hP, va_K.moved hW9.alike hK, hD⟩, hS.F ht9⟩) hS.2.2 dW_close_15
set_option maxHeartbeats 4000000 in
set_option maxRecDepth 100000 in
/-- move -/
theorem h_move (l : Launch) (dC : Nat → ClassId) (dI : Nat → Nat → Nat) (ad : Nat → Nat) (cs : Nat → ClassId) (sz : Nat) (hlt : l.stackTraces = false) (sa : Nat → Nat) (ao : Nat) (co : ClassId) (LP : List Nat) (G : Nat → PD) (nc np op : Int) (par : Bool) (X Y : Int → Int) (O : Int → Bool) (PQ : Int → Option Nat) (Wd : Int → Int) (pw pf pu ps : Int) (Fo : Int → Int) (dx dy : Int) (hop : 0 ≤ op ∧ op ≤ 512) (hG : cOk LP G PQ op) (h2 : 0 ≤ np ∧ np ≤ 512) (h3 : ∀ k : Int, 0 ≤ k → k < np → (-8192 ≤ X k ∧ X k ≤ 8191) ∧ (-8192 ≤ Y k ∧ Y k ≤ 8191)) (hj : injP PQ op) (hx0 : -2147483648 ≤ dx ∧ dx ≤ 2147483647) (hy0 : -2147483648 ≤ dy ∧ dy ≤ 2147483647) : Met l yW_move wW_move ({ frames := 7, cells := 1, slots := 6, locals := 106 }) (va_Pc [.ref (ad 0), .int (iI dx), .int (iI dy)] (fun U => U.heap.size = sz ∧ va_P (dC, dI) vwCl (((cW ad cs nc np op par X Y O PQ Wd pw pf pu ps) ++ va_pl LP (pG G)) ++ [(ao, .inl (co, 1, .inr (.inl (aL Fo))))]) U.heap ∧ va_K (dC, dI) vwCl (cT cs ++ [(co, .long)]) U ∧ va_D (fun _ => True) (((cW ad cs nc np op par X Y O PQ Wd pw pf pu ps) ++ va_pl LP (pG G)) ++ [(ao, .inl (co, 1, .inr (.inl (aL Fo))))]) ∧ xHk (va_A (((cW ad cs nc np op par X Y O PQ Wd pw pf pu ps) ++ va_pl LP (pG G)) ++ [(ao, .inl (co, 1, .inr (.inl (aL Fo))))]) sz) sa U)) (va_Qi (fun (r : Int32) (u : (Int → Int) × (Int → Int) × (Nat → PD)) => (mvok X Y dx dy np.toNat = true → r = iI 0 ∧ u.1 = mvF X dx np ∧ u.2.1 = mvF Y dy np ∧ mvP G PQ u.2.2 dx dy op) ∧ (mvok X Y dx dy np.toNat = false → r = iI 1 ∧ u.1 = X ∧ u.2.1 = Y ∧ u.2.2 = G)) (fun (u : (Int → Int) × (Int → Int) × (Nat → PD)) t9 => va_P (dC, dI) vwCl (((cW ad cs nc np op par u.1 u.2.1 O PQ Wd pw pf pu ps) ++ va_pl LP (pG u.2.2)) ++ [(ao, .inl (co, 1, .inr (.inl (aL Fo))))]) t9.heap ∧ va_K (dC, dI) vwCl (cT cs ++ [(co, .long)]) t9 ∧ va_D (va_A (((cW ad cs nc np op par X Y O PQ Wd pw pf pu ps) ++ va_pl LP (pG G)) ++ [(ao, .inl (co, 1, .inr (.inl (aL Fo))))]) sz) (((cW ad cs nc np op par u.1 u.2.1 O PQ Wd pw pf pu ps) ++ va_pl LP (pG u.2.2)) ++ [(ao, .inl (co, 1, .inr (.inl (aL Fo))))])) (va_A (((cW ad cs nc np op par X Y O PQ Wd pw pf pu ps) ++ va_pl LP (pG G)) ++ [(ao, .inl (co, 1, .inr (.inl (aL Fo))))]) sz)) 1 6 (va_A (((cW ad cs nc np op par X Y O PQ Wd pw pf pu ps) ++ va_pl LP (pG G)) ++ [(ao, .inl (co, 1, .inr (.inl (aL Fo))))]) sz) := by
  refine va_MetW (cc := cW_move) (maxL := 4) (ret := (some .int)) (hh := [(0, 6, 9, 13)]) (by decide) rfl ?_
  intro p e s m args below meth c s₁ B hml hv
  obtain ⟨hargs, hsz, hP, hK, hD0, hXH⟩ := hv
  have hx := B.exec
  have hb := B.bytes
  have hr := B.returns
  have hts := atoms_spec (ws := wW_move) B.pre
  have hown : s.vm.findClass RW = some m.cls := findClass_of_methodNamed B.named
  have hlocks := B.notSynchronized
  have htab := vx_table (x := yW_move) B (hts _ List.mem_cons_self)
  subst hsz
  have hD := hD0.self (sz := s.heap.size)
  generalize hAe : va_A (((cW ad cs nc np op par X Y O PQ Wd pw pf pu ps) ++ va_pl LP (pG G)) ++ [(ao, .inl (co, 1, .inr (.inl (aL Fo))))]) s.heap.size = A at hD hXH ⊢
  have hA : ∀ q : Nat, s.heap.size ≤ q → A q := fun q h => by rw [← hAe]; exact Or.inr h
  have hS0 : va_S A s.heap s.heap [] := va_S.rf
  refine x_name (fun R Q H locs hR hQ hH hlo => ?_)
  rw [← hH] at hP
  have hS : va_S A s.heap H locs := by rw [hH, hlo]; exact hS0
  refine x_entry hargs (Nat.le_of_ble_eq_true rfl) (fun ls hl => ?_)
  have hl : lv_has ls 4 [(0, .ref (ad 0)), (1, .int (iI dx)), (2, .int (iI dy))] := hl
  have hP : va_P (dC, dI) vwCl (((cW ad cs nc np op par X Y O PQ Wd pw pf pu ps) ++ va_pl LP (pG G)) ++ [(ao, .inl (co, 1, .inr (.inl (aL Fo))))]) H := hP
  obtain ⟨hXF, hNIAE, hNIOB⟩ := hXH
  refine lv_aload_n hx hb dW_move_0 rfl (lv_at hl 0 rfl) ?_
  refine lv_iload_n hx hb dW_move_1 rfl (lv_at hl 1 rfl) ?_
  refine lv_iload_n hx hb dW_move_2 rfl (lv_at hl 2 rfl) ?_
  have hPc := xs_L hP
  have hKc := hK.sub (tys' := cT cs) [0, 1, 2, 3, 4] rfl
  have hDc := xd_L hD
  have hFc := xs_fL hD hS hA
  refine vx_callv (SX := Unit) (vx_runV (As := [.int (iI dx), .int (iI dy)]) (rest := []) ⟨hx, hb, hml, hown, hts⟩ (k_move l hlt sa dC dI ad cs H.size LP G nc np op par X Y O PQ Wd pw pf pu ps dx dy hop hG h2 h3 hj hx0 hy0) (cwV 2 hts (tb_V mlW_21 imC_move seC_move iniC coC_move) rfl rfl rfl (by decide +kernel) (by subst hR; exact ⟨Nat.le_of_ble_eq_true rfl, Nat.le_of_ble_eq_true rfl⟩)) ⟨fun a9 U9 g9 mk9 q9 => by obtain ⟨q0, q1, qP, qK, qD, qF⟩ := q9; exact ⟨q0, q1, qP, va_K.moved (u := U9) (U := U9.calling g9 mk9 a9) (Vm.Alike.refl U9.vm) qK, qD, qF.calling g9 mk9 a9⟩, va_recv hKc hPc (ci := 2) (q0 := 0) rfl rfl, fun U hU hW => ⟨rfl, by rw [hU], by rw [hU]; exact hPc, va_K.moved hW.alike hKc, hDc.weaken (fun _ _ _ _ => trivial), (hXF.move hW (fun a h1 h2 => by rw [hU]; exact hS.2.1 a h1 h2)).narrow hFc⟩⟩ rfl rfl hl.1 rfl (lv_room (Nat.le_of_ble_eq_true rfl)) dW_move_3 ⟨by subst hR; exact Nat.le_of_ble_eq_true rfl, by subst hR; exact Nat.le_of_ble_eq_true rfl⟩) hS (fun q9 _ h9 => hFc q9 h9) hFc (fun q9 _ h9 => hFc q9 h9) (fun E9 ce9 q9 u9 t9 H1 locs1 ht9 hvm9 hpx9 hB9 hz9 hk9 hS1 hce9 hcv9 hcl9 => ?_) (fun u_3 t9 H1 locs1 ht9 hvm9 hw_3 hB9 hz9 hk9 hS1 => ?_)
  · obtain ⟨hC9, hP9, hK9⟩ := hB9
    rw [ht9] at hP9
    have hP : va_P (dC, dI) vwCl (((cW ad cs nc np op par X Y O PQ Wd pw pf pu ps) ++ va_pl LP (pG G)) ++ [(ao, .inl (co, 1, .inr (.inl (aL Fo))))]) H1 := xs_PL hP hD hP9 hk9
    have hD : va_D A (((cW ad cs nc np op par X Y O PQ Wd pw pf pu ps) ++ va_pl LP (pG G)) ++ [(ao, .inl (co, 1, .inr (.inl (aL Fo))))]) := hD
    have hS := hS1
    clear hP9 hK9 hPc hKc hDc hFc hz9 hk9 ht9 hvm9 hS1
    obtain ⟨hE9, hf9⟩ := hC9
    subst hE9
    refine vx_catch (own := RW) (name := IAE) (E := IAE) hown [] ⟨0, 6, 9, 13⟩ [] htab (fun z9 h9 => nomatch h9) rfl (by decide) (hts _ (List.mem_cons_of_mem _ clW_13)) (hXF.cast IAE (by decide +kernel)) hce9 hcv9 hcl9 ?_
    refine lv_astore_n (lv' := [(3, .ref q9), (0, .ref (ad 0)), (1, .int (iI dx)), (2, .int (iI dy))]) hx hb dW_move_9 rfl hl (by decide) rfl (fun ls hl => ?_)
    refine xi_iconst hx hb dW_move_10 ?_
    subst hQ
    refine W.widen (k := 1) (n := 6) (by omega) (by omega) ?_
    exact W.iret (v := (iI 1)) hx hb hr (fun t9 ht9 hW9 => ⟨⟨_, (X, Y, G), rfl, (⟨fun h => absurd (hf9.symm.trans h) (by decide), fun _ => ⟨rfl, rfl, rfl, rfl⟩⟩), by rw [ht9]; exact hP, va_K.moved hW9.alike hK, hD⟩, hS.F ht9⟩) hS.2.2 dW_move_11
  · obtain ⟨hP1, hK1, hD1⟩ := hB9
    rw [ht9] at hP1
    obtain ⟨f9, hM9⟩ := hw_3
    have hDn : va_D A (((cW ad cs nc np op par (mvF X dx np) (mvF Y dy np) O PQ Wd pw pf pu ps) ++ va_pl LP (pG u_3)) ++ [(ao, .inl (co, 1, .inr (.inl (aL Fo))))]) := xs_DL hP hD hD1 hFc
    have hP : va_P (dC, dI) vwCl (((cW ad cs nc np op par (mvF X dx np) (mvF Y dy np) O PQ Wd pw pf pu ps) ++ va_pl LP (pG u_3)) ++ [(ao, .inl (co, 1, .inr (.inl (aL Fo))))]) H1 := xs_PL hP hD hP1 hk9
    have hD := hDn
    have hS := hS1
    clear hDn hP1 hK1 hD1 hPc hKc hDc hFc hz9 hk9 ht9 hvm9 hS1
    refine lv_goto (tgt := 12) hx hb dW_move_6 (by decide) ?_
    refine xi_iconst hx hb dW_move_12 ?_
    subst hQ
    refine W.widen (k := 1) (n := 6) (by omega) (by omega) ?_
    exact W.iret (v := (iI 0)) hx hb hr (fun t9 ht9 hW9 => ⟨⟨_, (mvF X dx np, mvF Y dy np, u_3), rfl, (⟨fun _ => ⟨rfl, rfl, rfl, hM9⟩, fun h => absurd (f9.symm.trans h) (by decide)⟩), by rw [ht9]; exact hP, va_K.moved hW9.alike hK, hD⟩, hS.F ht9⟩) hS.2.2 dW_move_13
set_option maxHeartbeats 4000000 in
set_option maxRecDepth 100000 in
/-- winding -/
theorem h_winding (l : Launch) (dC : Nat → ClassId) (dI : Nat → Nat → Nat) (ad : Nat → Nat) (cs : Nat → ClassId) (sz : Nat) (hlt : l.stackTraces = false) (sa : Nat → Nat) (ao : Nat) (co : ClassId) (LP : List Nat) (G : Nat → PD) (nc np op : Int) (par : Bool) (X Y : Int → Int) (O : Int → Bool) (PQ : Int → Option Nat) (Wd : Int → Int) (pw pf pu ps : Int) (Fo : Int → Int) (x y : Int) (hop : 0 ≤ op ∧ op ≤ 512) (hG : cOk LP G PQ op) (hx0 : -2147483648 ≤ x ∧ x ≤ 2147483647) (hy0 : -2147483648 ≤ y ∧ y ≤ 2147483647) : Met l yW_winding wW_winding ({ frames := 7, cells := 1, slots := 6, locals := 126 }) (va_Pc [.ref (ad 0), .int (iI x), .int (iI y), .ref ao] (fun U => U.heap.size = sz ∧ va_P (dC, dI) vwCl (((cW ad cs nc np op par X Y O PQ Wd pw pf pu ps) ++ va_pl LP (pG G)) ++ [(ao, .inl (co, 1, .inr (.inl (aL Fo))))]) U.heap ∧ va_K (dC, dI) vwCl (cT cs ++ [(co, .long)]) U ∧ va_D (fun _ => True) (((cW ad cs nc np op par X Y O PQ Wd pw pf pu ps) ++ va_pl LP (pG G)) ++ [(ao, .inl (co, 1, .inr (.inl (aL Fo))))]) ∧ xHk (va_A (((cW ad cs nc np op par X Y O PQ Wd pw pf pu ps) ++ va_pl LP (pG G)) ++ [(ao, .inl (co, 1, .inr (.inl (aL Fo))))]) sz) sa U)) (va_Qi (fun (r : Int32) (u : (Int → Int) × Int × Int × Int × Int × (Int → Int)) => r = iI (fW x y) ∧ (fW x y = 0 → u.2.2.2.2.2 0 = wC PQ G op x y)) (fun (u : (Int → Int) × Int × Int × Int × Int × (Int → Int)) t9 => va_P (dC, dI) vwCl (((cW ad cs nc np op par X Y O PQ u.1 u.2.1 u.2.2.1 u.2.2.2.1 u.2.2.2.2.1) ++ va_pl LP (pG G)) ++ [(ao, .inl (co, 1, .inr (.inl (aL u.2.2.2.2.2))))]) t9.heap ∧ va_K (dC, dI) vwCl (cT cs ++ [(co, .long)]) t9 ∧ va_D (va_A (((cW ad cs nc np op par X Y O PQ Wd pw pf pu ps) ++ va_pl LP (pG G)) ++ [(ao, .inl (co, 1, .inr (.inl (aL Fo))))]) sz) (((cW ad cs nc np op par X Y O PQ u.1 u.2.1 u.2.2.1 u.2.2.2.1 u.2.2.2.2.1) ++ va_pl LP (pG G)) ++ [(ao, .inl (co, 1, .inr (.inl (aL u.2.2.2.2.2))))])) (va_A (((cW ad cs nc np op par X Y O PQ Wd pw pf pu ps) ++ va_pl LP (pG G)) ++ [(ao, .inl (co, 1, .inr (.inl (aL Fo))))]) sz)) 1 6 (va_A (((cW ad cs nc np op par X Y O PQ Wd pw pf pu ps) ++ va_pl LP (pG G)) ++ [(ao, .inl (co, 1, .inr (.inl (aL Fo))))]) sz) := by
  refine va_MetW (cc := cW_winding) (maxL := 5) (ret := (some .int)) (hh := [(0, 10, 13, 13)]) (by decide) rfl ?_
  intro p e s m args below meth c s₁ B hml hv
  obtain ⟨hargs, hsz, hP, hK, hD0, hXH⟩ := hv
  have hx := B.exec
  have hb := B.bytes
  have hr := B.returns
  have hts := atoms_spec (ws := wW_winding) B.pre
  have hown : s.vm.findClass RW = some m.cls := findClass_of_methodNamed B.named
  have hlocks := B.notSynchronized
  have htab := vx_table (x := yW_winding) B (hts _ List.mem_cons_self)
  subst hsz
  have hD := hD0.self (sz := s.heap.size)
  generalize hAe : va_A (((cW ad cs nc np op par X Y O PQ Wd pw pf pu ps) ++ va_pl LP (pG G)) ++ [(ao, .inl (co, 1, .inr (.inl (aL Fo))))]) s.heap.size = A at hD hXH ⊢
  have hA : ∀ q : Nat, s.heap.size ≤ q → A q := fun q h => by rw [← hAe]; exact Or.inr h
  have hS0 : va_S A s.heap s.heap [] := va_S.rf
  refine x_name (fun R Q H locs hR hQ hH hlo => ?_)
  rw [← hH] at hP
  have hS : va_S A s.heap H locs := by rw [hH, hlo]; exact hS0
  refine x_entry hargs (Nat.le_of_ble_eq_true rfl) (fun ls hl => ?_)
  have hl : lv_has ls 5 [(0, .ref (ad 0)), (1, .int (iI x)), (2, .int (iI y)), (3, .ref ao)] := hl
  have hP : va_P (dC, dI) vwCl (((cW ad cs nc np op par X Y O PQ Wd pw pf pu ps) ++ va_pl LP (pG G)) ++ [(ao, .inl (co, 1, .inr (.inl (aL Fo))))]) H := hP
  obtain ⟨hXF, hNIAE, hNIOB⟩ := hXH
  refine lv_aload_n hx hb dW_winding_0 rfl (lv_at hl 3 rfl) ?_
  refine xi_iconst hx hb dW_winding_1 ?_
  refine lv_aload_n hx hb dW_winding_2 rfl (lv_at hl 0 rfl) ?_
  refine lv_iload_n hx hb dW_winding_3 rfl (lv_at hl 1 rfl) ?_
  refine lv_iload_n hx hb dW_winding_4 rfl (lv_at hl 2 rfl) ?_
  have hPc := xs_L hP
  have hKc := hK.sub (tys' := cT cs) [0, 1, 2, 3, 4] rfl
  have hDc := xd_L hD
  have hFc := xs_fL hD hS hA
  refine vx_calli (SX := Unit) (vx_runV (As := [.int (iI x), .int (iI y)]) (rest := [.int (iI 0), .ref ao]) ⟨hx, hb, hml, hown, hts⟩ (k_winding l hlt sa dC dI ad cs H.size LP G nc np op par X Y O PQ Wd pw pf pu ps x y hop hG hx0 hy0) (cwV 2 hts (tb_V mlW_25 imC_winding seC_winding iniC coC_winding) rfl rfl rfl (by decide +kernel) (by subst hR; exact ⟨Nat.le_of_ble_eq_true rfl, Nat.le_of_ble_eq_true rfl⟩)) ⟨fun a9 U9 g9 mk9 q9 => by obtain ⟨q0, q1, qP, qK, qD, qF⟩ := q9; exact ⟨q0, q1, qP, va_K.moved (u := U9) (U := U9.calling g9 mk9 a9) (Vm.Alike.refl U9.vm) qK, qD, qF.calling g9 mk9 a9⟩, va_recv hKc hPc (ci := 2) (q0 := 0) rfl rfl, fun U hU hW => ⟨rfl, by rw [hU], by rw [hU]; exact hPc, va_K.moved hW.alike hKc, hDc.weaken (fun _ _ _ _ => trivial), (hXF.move hW (fun a h1 h2 => by rw [hU]; exact hS.2.1 a h1 h2)).narrow hFc⟩⟩ rfl rfl hl.1 rfl (lv_room (Nat.le_of_ble_eq_true rfl)) dW_winding_5 ⟨by subst hR; exact Nat.le_of_ble_eq_true rfl, by subst hR; exact Nat.le_of_ble_eq_true rfl⟩) hS (fun q9 _ h9 => hFc q9 h9) hFc (fun q9 _ h9 => hFc q9 h9) (fun E9 ce9 q9 u9 t9 H1 locs1 ht9 hvm9 hpx9 hB9 hz9 hk9 hS1 hce9 hcv9 hcl9 => ?_) (fun r_5 u_5 t9 H1 locs1 ht9 hvm9 hw_5 hB9 hz9 hk9 hS1 => ?_)
  · obtain ⟨hC9, hP9, hK9⟩ := hB9
    rw [ht9] at hP9
    have hP : va_P (dC, dI) vwCl (((cW ad cs nc np op par X Y O PQ Wd pw pf pu ps) ++ va_pl LP (pG G)) ++ [(ao, .inl (co, 1, .inr (.inl (aL Fo))))]) H1 := xs_PL hP hD hP9 hk9
    have hD : va_D A (((cW ad cs nc np op par X Y O PQ Wd pw pf pu ps) ++ va_pl LP (pG G)) ++ [(ao, .inl (co, 1, .inr (.inl (aL Fo))))]) := hD
    have hS := hS1
    clear hP9 hK9 hPc hKc hDc hFc hz9 hk9 ht9 hvm9 hS1
    obtain ⟨hE9, hf9⟩ := hC9
    subst hE9
    refine vx_catch (own := RW) (name := IAE) (E := IAE) hown [] ⟨0, 10, 13, 13⟩ [] htab (fun z9 h9 => nomatch h9) rfl (by decide) (hts _ (List.mem_cons_of_mem _ clW_13)) (hXF.cast IAE (by decide +kernel)) hce9 hcv9 hcl9 ?_
    refine lv_astore (lv' := [(4, .ref q9), (0, .ref (ad 0)), (1, .int (iI x)), (2, .int (iI y)), (3, .ref ao)]) hx hb dW_winding_13 hl (by decide) rfl (fun ls hl => ?_)
    refine xi_iconst hx hb dW_winding_15 ?_
    subst hQ
    refine W.widen (k := 1) (n := 6) (by omega) (by omega) ?_
    exact W.iret (v := (iI 1)) hx hb hr (fun t9 ht9 hW9 => ⟨⟨_, (Wd, pw, pf, pu, ps, Fo), rfl, (⟨by rw [hf9], fun h => absurd h (by rw [hf9]; decide)⟩), by rw [ht9]; exact hP, va_K.moved hW9.alike hK, hD⟩, hS.F ht9⟩) hS.2.2 dW_winding_16
  · obtain ⟨hP1, hK1, hD1⟩ := hB9
    rw [ht9] at hP1
    obtain ⟨f9, hr9⟩ := hw_5; subst hr9
    have hDn : va_D A (((cW ad cs nc np op par X Y O PQ u_5.1 u_5.2.1 u_5.2.2.1 u_5.2.2.2.1 u_5.2.2.2.2) ++ va_pl LP (pG G)) ++ [(ao, .inl (co, 1, .inr (.inl (aL Fo))))]) := xs_DL hP hD hD1 hFc
    have hP : va_P (dC, dI) vwCl (((cW ad cs nc np op par X Y O PQ u_5.1 u_5.2.1 u_5.2.2.1 u_5.2.2.2.1 u_5.2.2.2.2) ++ va_pl LP (pG G)) ++ [(ao, .inl (co, 1, .inr (.inl (aL Fo))))]) H1 := xs_PL hP hD hP1 hk9
    have hD := hDn
    have hS := hS1
    clear hDn hP1 hK1 hD1 hPc hKc hDc hFc hz9 hk9 ht9 hvm9 hS1
    have b9 := wC_bd PQ G x y hop
    refine xl_i2l hx hb dW_winding_8 (by omega) ?_
    refine xa_last (z := 0) (v := wC PQ G op x y) hx hb hK hP hD hS _ 5 xl_at rfl (by decide) (by omega) dW_winding_9 (fun H locs hP hD hS => ?_)
    rw [xl_set] at hP hD
    have hP : va_P (dC, dI) vwCl (((cW ad cs nc np op par X Y O PQ u_5.1 u_5.2.1 u_5.2.2.1 u_5.2.2.2.1 u_5.2.2.2.2) ++ va_pl LP (pG G)) ++ [(ao, .inl (co, 1, .inr (.inl (aL (up Fo 0 (wC PQ G op x y))))))]) H := hP
    have hD : va_D A (((cW ad cs nc np op par X Y O PQ u_5.1 u_5.2.1 u_5.2.2.1 u_5.2.2.2.1 u_5.2.2.2.2) ++ va_pl LP (pG G)) ++ [(ao, .inl (co, 1, .inr (.inl (aL (up Fo 0 (wC PQ G op x y))))))]) := hD
    refine lv_goto (tgt := 17) hx hb dW_winding_10 (by decide) ?_
    refine xi_iconst hx hb dW_winding_17 ?_
    subst hQ
    refine W.widen (k := 1) (n := 6) (by omega) (by omega) ?_
    exact W.iret (v := (iI 0)) hx hb hr (fun t9 ht9 hW9 => ⟨⟨_, (u_5.1, u_5.2.1, u_5.2.2.1, u_5.2.2.2.1, u_5.2.2.2.2, up Fo 0 (wC PQ G op x y)), rfl, (⟨by rw [f9], fun _ => up_s Fo 0 _⟩), by rw [ht9]; exact hP, va_K.moved hW9.alike hK, hD⟩, hS.F ht9⟩) hS.2.2 dW_winding_18
set_option maxHeartbeats 4000000 in
set_option maxRecDepth 100000 in
/-- row -/
theorem h_row (l : Launch) (dC : Nat → ClassId) (dI : Nat → Nat → Nat) (ad : Nat → Nat) (cs : Nat → ClassId) (sz : Nat) (hlt : l.stackTraces = false) (sa : Nat → Nat) (ao : Nat) (co : ClassId) (LP : List Nat) (G : Nat → PD) (nc np op : Int) (par : Bool) (X Y : Int → Int) (O : Int → Bool) (PQ : Int → Option Nat) (Wd : Int → Int) (pw pf pu ps : Int) (Fo : Int → Int) (q : Int) (hop : 0 ≤ op ∧ op ≤ 512) (hG : cOk LP G PQ op) (hq0 : -2147483648 ≤ q ∧ q ≤ 2147483647) : Met l yW_row wW_row ({ frames := 7, cells := 1, slots := 6, locals := 149 }) (va_Pc [.ref (ad 0), .int (iI q), .ref ao] (fun U => U.heap.size = sz ∧ va_P (dC, dI) vwCl (((cW ad cs nc np op par X Y O PQ Wd pw pf pu ps) ++ va_pl LP (pG G)) ++ [(ao, .inl (co, 1, .inr (.inl (aL Fo))))]) U.heap ∧ va_K (dC, dI) vwCl (cT cs ++ [(co, .long)]) U ∧ va_D (fun _ => True) (((cW ad cs nc np op par X Y O PQ Wd pw pf pu ps) ++ va_pl LP (pG G)) ++ [(ao, .inl (co, 1, .inr (.inl (aL Fo))))]) ∧ xHk (va_A (((cW ad cs nc np op par X Y O PQ Wd pw pf pu ps) ++ va_pl LP (pG G)) ++ [(ao, .inl (co, 1, .inr (.inl (aL Fo))))]) sz) sa U)) (va_Qi (fun (r : Int32) (u : (Int → Int) × Int × Int × Int × Int × (Int → Int)) => r = iI (fR q) ∧ (fR q = 0 → u.2.2.2.2.2 0 = (lN (bitsF (pxC PQ G op par q) 64)).toInt)) (fun (u : (Int → Int) × Int × Int × Int × Int × (Int → Int)) t9 => va_P (dC, dI) vwCl (((cW ad cs nc np op par X Y O PQ u.1 u.2.1 u.2.2.1 u.2.2.2.1 u.2.2.2.2.1) ++ va_pl LP (pG G)) ++ [(ao, .inl (co, 1, .inr (.inl (aL u.2.2.2.2.2))))]) t9.heap ∧ va_K (dC, dI) vwCl (cT cs ++ [(co, .long)]) t9 ∧ va_D (va_A (((cW ad cs nc np op par X Y O PQ Wd pw pf pu ps) ++ va_pl LP (pG G)) ++ [(ao, .inl (co, 1, .inr (.inl (aL Fo))))]) sz) (((cW ad cs nc np op par X Y O PQ u.1 u.2.1 u.2.2.1 u.2.2.2.1 u.2.2.2.2.1) ++ va_pl LP (pG G)) ++ [(ao, .inl (co, 1, .inr (.inl (aL u.2.2.2.2.2))))])) (va_A (((cW ad cs nc np op par X Y O PQ Wd pw pf pu ps) ++ va_pl LP (pG G)) ++ [(ao, .inl (co, 1, .inr (.inl (aL Fo))))]) sz)) 1 6 (va_A (((cW ad cs nc np op par X Y O PQ Wd pw pf pu ps) ++ va_pl LP (pG G)) ++ [(ao, .inl (co, 1, .inr (.inl (aL Fo))))]) sz) := by
  refine va_MetW (cc := cW_row) (maxL := 4) (ret := (some .int)) (hh := [(0, 8, 11, 33)]) (by decide) rfl ?_
  intro p e s m args below meth c s₁ B hml hv
  obtain ⟨hargs, hsz, hP, hK, hD0, hXH⟩ := hv
  have hx := B.exec
  have hb := B.bytes
  have hr := B.returns
  have hts := atoms_spec (ws := wW_row) B.pre
  have hown : s.vm.findClass RW = some m.cls := findClass_of_methodNamed B.named
  have hlocks := B.notSynchronized
  have htab := vx_table (x := yW_row) B (hts _ List.mem_cons_self)
  subst hsz
  have hD := hD0.self (sz := s.heap.size)
  generalize hAe : va_A (((cW ad cs nc np op par X Y O PQ Wd pw pf pu ps) ++ va_pl LP (pG G)) ++ [(ao, .inl (co, 1, .inr (.inl (aL Fo))))]) s.heap.size = A at hD hXH ⊢
  have hA : ∀ q : Nat, s.heap.size ≤ q → A q := fun q h => by rw [← hAe]; exact Or.inr h
  have hS0 : va_S A s.heap s.heap [] := va_S.rf
  refine x_name (fun R Q H locs hR hQ hH hlo => ?_)
  rw [← hH] at hP
  have hS : va_S A s.heap H locs := by rw [hH, hlo]; exact hS0
  refine x_entry hargs (Nat.le_of_ble_eq_true rfl) (fun ls hl => ?_)
  have hl : lv_has ls 4 [(0, .ref (ad 0)), (1, .int (iI q)), (2, .ref ao)] := hl
  have hP : va_P (dC, dI) vwCl (((cW ad cs nc np op par X Y O PQ Wd pw pf pu ps) ++ va_pl LP (pG G)) ++ [(ao, .inl (co, 1, .inr (.inl (aL Fo))))]) H := hP
  obtain ⟨hXF, hNIAE, hNIOB⟩ := hXH
  refine lv_aload_n hx hb dW_row_0 rfl (lv_at hl 2 rfl) ?_
  refine xi_iconst hx hb dW_row_1 ?_
  refine lv_aload_n hx hb dW_row_2 rfl (lv_at hl 0 rfl) ?_
  refine lv_iload_n hx hb dW_row_3 rfl (lv_at hl 1 rfl) ?_
  have hPc := xs_L hP
  have hKc := hK.sub (tys' := cT cs) [0, 1, 2, 3, 4] rfl
  have hDc := xd_L hD
  have hFc := xs_fL hD hS hA
  refine vx_calll (SX := Unit) (vx_runV (As := [.int (iI q)]) (rest := [.int (iI 0), .ref ao]) ⟨hx, hb, hml, hown, hts⟩ (k_row l hlt sa dC dI ad cs H.size LP G nc np op par X Y O PQ Wd pw pf pu ps q hop hG hq0) (cwV 1 hts (tb_V mlW_29 imC_row seC_row iniC coC_row) rfl rfl rfl (by decide +kernel) (by subst hR; exact ⟨Nat.le_of_ble_eq_true rfl, Nat.le_of_ble_eq_true rfl⟩)) ⟨fun a9 U9 g9 mk9 q9 => by obtain ⟨q0, q1, qP, qK, qD, qF⟩ := q9; exact ⟨q0, q1, qP, va_K.moved (u := U9) (U := U9.calling g9 mk9 a9) (Vm.Alike.refl U9.vm) qK, qD, qF.calling g9 mk9 a9⟩, va_recv hKc hPc (ci := 2) (q0 := 0) rfl rfl, fun U hU hW => ⟨rfl, by rw [hU], by rw [hU]; exact hPc, va_K.moved hW.alike hKc, hDc.weaken (fun _ _ _ _ => trivial), (hXF.move hW (fun a h1 h2 => by rw [hU]; exact hS.2.1 a h1 h2)).narrow hFc⟩⟩ rfl rfl hl.1 rfl (lv_room (Nat.le_of_ble_eq_true rfl)) dW_row_4 ⟨by subst hR; exact Nat.le_of_ble_eq_true rfl, by subst hR; exact Nat.le_of_ble_eq_true rfl⟩) hS (fun q9 _ h9 => hFc q9 h9) hFc (fun q9 _ h9 => hFc q9 h9) (fun E9 ce9 q9 u9 t9 H1 locs1 ht9 hvm9 hpx9 hB9 hz9 hk9 hS1 hce9 hcv9 hcl9 => ?_) (fun r_4 u_4 t9 H1 locs1 ht9 hvm9 hw_4 hB9 hz9 hk9 hS1 => ?_)
  · obtain ⟨hC9, hP9, hK9⟩ := hB9
    rw [ht9] at hP9
    have hP : va_P (dC, dI) vwCl (((cW ad cs nc np op par X Y O PQ Wd pw pf pu ps) ++ va_pl LP (pG G)) ++ [(ao, .inl (co, 1, .inr (.inl (aL Fo))))]) H1 := xs_PL hP hD hP9 hk9
    have hD : va_D A (((cW ad cs nc np op par X Y O PQ Wd pw pf pu ps) ++ va_pl LP (pG G)) ++ [(ao, .inl (co, 1, .inr (.inl (aL Fo))))]) := hD
    have hS := hS1
    clear hP9 hK9 hPc hKc hDc hFc hz9 hk9 ht9 hvm9 hS1
    obtain ⟨hE9, hf9⟩ := hC9
    subst hE9
    refine vx_catch (own := RW) (name := IOB) (E := IOB) hown [] ⟨0, 8, 11, 33⟩ [] htab (fun z9 h9 => nomatch h9) rfl (by decide) (hts _ (List.mem_cons_of_mem _ clW_33)) (hXF.cast IOB (by decide +kernel)) hce9 hcv9 hcl9 ?_
    refine lv_astore_n (lv' := [(3, .ref q9), (0, .ref (ad 0)), (1, .int (iI q)), (2, .ref ao)]) hx hb dW_row_11 rfl hl (by decide) rfl (fun ls hl => ?_)
    refine xi_iconst hx hb dW_row_12 ?_
    subst hQ
    refine W.widen (k := 1) (n := 6) (by omega) (by omega) ?_
    exact W.iret (v := (iI 1)) hx hb hr (fun t9 ht9 hW9 => ⟨⟨_, (Wd, pw, pf, pu, ps, Fo), rfl, (⟨by rw [hf9], fun h => absurd h (by rw [hf9]; decide)⟩), by rw [ht9]; exact hP, va_K.moved hW9.alike hK, hD⟩, hS.F ht9⟩) hS.2.2 dW_row_13
  · obtain ⟨hP1, hK1, hD1⟩ := hB9
    rw [ht9] at hP1
    obtain ⟨f9, hr9⟩ := hw_4; subst hr9
    have hDn : va_D A (((cW ad cs nc np op par X Y O PQ u_4.1 u_4.2.1 u_4.2.2.1 u_4.2.2.2.1 u_4.2.2.2.2) ++ va_pl LP (pG G)) ++ [(ao, .inl (co, 1, .inr (.inl (aL Fo))))]) := xs_DL hP hD hD1 hFc
    have hP : va_P (dC, dI) vwCl (((cW ad cs nc np op par X Y O PQ u_4.1 u_4.2.1 u_4.2.2.1 u_4.2.2.2.1 u_4.2.2.2.2) ++ va_pl LP (pG G)) ++ [(ao, .inl (co, 1, .inr (.inl (aL Fo))))]) H1 := xs_PL hP hD hP1 hk9
    have hD := hDn
    have hS := hS1
    clear hDn hP1 hK1 hD1 hPc hKc hDc hFc hz9 hk9 ht9 hvm9 hS1
    refine xi_top (y := .long (lI ((lN (bitsF (pxC PQ G op par q) 64)).toInt))) (by rw [← lI_lN]) ?_
    refine xa_last (z := 0) (v := (lN (bitsF (pxC PQ G op par q) 64)).toInt) hx hb hK hP hD hS _ 5 xl_at rfl (by decide) (by omega) dW_row_7 (fun H locs hP hD hS => ?_)
    rw [xl_set] at hP hD
    have hP : va_P (dC, dI) vwCl (((cW ad cs nc np op par X Y O PQ u_4.1 u_4.2.1 u_4.2.2.1 u_4.2.2.2.1 u_4.2.2.2.2) ++ va_pl LP (pG G)) ++ [(ao, .inl (co, 1, .inr (.inl (aL (up Fo 0 ((lN (bitsF (pxC PQ G op par q) 64)).toInt))))))]) H := hP
    have hD : va_D A (((cW ad cs nc np op par X Y O PQ u_4.1 u_4.2.1 u_4.2.2.1 u_4.2.2.2.1 u_4.2.2.2.2) ++ va_pl LP (pG G)) ++ [(ao, .inl (co, 1, .inr (.inl (aL (up Fo 0 ((lN (bitsF (pxC PQ G op par q) 64)).toInt))))))]) := hD
    refine lv_goto (tgt := 14) hx hb dW_row_8 (by decide) ?_
    refine xi_iconst hx hb dW_row_14 ?_
    subst hQ
    refine W.widen (k := 1) (n := 6) (by omega) (by omega) ?_
    exact W.iret (v := (iI 0)) hx hb hr (fun t9 ht9 hW9 => ⟨⟨_, (u_4.1, u_4.2.1, u_4.2.2.1, u_4.2.2.2.1, u_4.2.2.2.2, up Fo 0 ((lN (bitsF (pxC PQ G op par q) 64)).toInt)), rfl, (⟨by rw [f9], fun _ => up_s Fo 0 _⟩), by rw [ht9]; exact hP, va_K.moved hW9.alike hK, hD⟩, hS.F ht9⟩) hS.2.2 dW_row_15
set_option maxHeartbeats 4000000 in
set_option maxRecDepth 100000 in
/-- share -/
theorem h_share (l : Launch) (dC : Nat → ClassId) (dI : Nat → Nat → Nat) (ad : Nat → Nat) (cs : Nat → ClassId) (sz : Nat) (hlt : l.stackTraces = false) (sa : Nat → Nat) (ao : Nat) (co : ClassId) (LP : List Nat) (G : Nat → PD) (nc np op : Int) (par : Bool) (X Y : Int → Int) (O : Int → Bool) (PQ : Int → Option Nat) (Wd : Int → Int) (pw pf pu ps : Int) (Fo : Int → Int) (x q : Int) (hop : 0 ≤ op ∧ op ≤ 512) (hG : cOk LP G PQ op) (hq0 : -2147483648 ≤ q ∧ q ≤ 2147483647) (hx0 : -2147483648 ≤ x ∧ x ≤ 2147483647) : Met l yW_share wW_share ({ frames := 7, cells := 1, slots := 6, locals := 129 }) (va_Pc [.ref (ad 0), .int (iI x), .int (iI q), .ref ao] (fun U => U.heap.size = sz ∧ va_P (dC, dI) vwCl (((cW ad cs nc np op par X Y O PQ Wd pw pf pu ps) ++ va_pl LP (pG G)) ++ [(ao, .inl (co, 1, .inr (.inl (aL Fo))))]) U.heap ∧ va_K (dC, dI) vwCl (cT cs ++ [(co, .long)]) U ∧ va_D (fun _ => True) (((cW ad cs nc np op par X Y O PQ Wd pw pf pu ps) ++ va_pl LP (pG G)) ++ [(ao, .inl (co, 1, .inr (.inl (aL Fo))))]) ∧ xHk (va_A (((cW ad cs nc np op par X Y O PQ Wd pw pf pu ps) ++ va_pl LP (pG G)) ++ [(ao, .inl (co, 1, .inr (.inl (aL Fo))))]) sz) sa U)) (va_Qi (fun (r : Int32) (u : (Int → Int) × Int × Int × Int × Int × (Int → Int)) => r = iI (fS x q) ∧ (fS x q = 0 → u.2.2.2.2.2 0 = isum (fun j => isum (fun i => bz (isin par (wC PQ G op (64 * x + 8 + 16 * i) (64 * (63 - q) + 8 + 16 * j)))) 4) 4)) (fun (u : (Int → Int) × Int × Int × Int × Int × (Int → Int)) t9 => va_P (dC, dI) vwCl (((cW ad cs nc np op par X Y O PQ u.1 u.2.1 u.2.2.1 u.2.2.2.1 u.2.2.2.2.1) ++ va_pl LP (pG G)) ++ [(ao, .inl (co, 1, .inr (.inl (aL u.2.2.2.2.2))))]) t9.heap ∧ va_K (dC, dI) vwCl (cT cs ++ [(co, .long)]) t9 ∧ va_D (va_A (((cW ad cs nc np op par X Y O PQ Wd pw pf pu ps) ++ va_pl LP (pG G)) ++ [(ao, .inl (co, 1, .inr (.inl (aL Fo))))]) sz) (((cW ad cs nc np op par X Y O PQ u.1 u.2.1 u.2.2.1 u.2.2.2.1 u.2.2.2.2.1) ++ va_pl LP (pG G)) ++ [(ao, .inl (co, 1, .inr (.inl (aL u.2.2.2.2.2))))])) (va_A (((cW ad cs nc np op par X Y O PQ Wd pw pf pu ps) ++ va_pl LP (pG G)) ++ [(ao, .inl (co, 1, .inr (.inl (aL Fo))))]) sz)) 1 6 (va_A (((cW ad cs nc np op par X Y O PQ Wd pw pf pu ps) ++ va_pl LP (pG G)) ++ [(ao, .inl (co, 1, .inr (.inl (aL Fo))))]) sz) := by
  refine va_MetW (cc := cW_share) (maxL := 5) (ret := (some .int)) (hh := [(0, 10, 13, 33)]) (by decide) rfl ?_
  intro p e s m args below meth c s₁ B hml hv
  obtain ⟨hargs, hsz, hP, hK, hD0, hXH⟩ := hv
  have hx := B.exec
  have hb := B.bytes
  have hr := B.returns
  have hts := atoms_spec (ws := wW_share) B.pre
  have hown : s.vm.findClass RW = some m.cls := findClass_of_methodNamed B.named
  have hlocks := B.notSynchronized
  have htab := vx_table (x := yW_share) B (hts _ List.mem_cons_self)
  subst hsz
  have hD := hD0.self (sz := s.heap.size)
  generalize hAe : va_A (((cW ad cs nc np op par X Y O PQ Wd pw pf pu ps) ++ va_pl LP (pG G)) ++ [(ao, .inl (co, 1, .inr (.inl (aL Fo))))]) s.heap.size = A at hD hXH ⊢
  have hA : ∀ q : Nat, s.heap.size ≤ q → A q := fun q h => by rw [← hAe]; exact Or.inr h
  have hS0 : va_S A s.heap s.heap [] := va_S.rf
  refine x_name (fun R Q H locs hR hQ hH hlo => ?_)
  rw [← hH] at hP
  have hS : va_S A s.heap H locs := by rw [hH, hlo]; exact hS0
  refine x_entry hargs (Nat.le_of_ble_eq_true rfl) (fun ls hl => ?_)
  have hl : lv_has ls 5 [(0, .ref (ad 0)), (1, .int (iI x)), (2, .int (iI q)), (3, .ref ao)] := hl
  have hP : va_P (dC, dI) vwCl (((cW ad cs nc np op par X Y O PQ Wd pw pf pu ps) ++ va_pl LP (pG G)) ++ [(ao, .inl (co, 1, .inr (.inl (aL Fo))))]) H := hP
  obtain ⟨hXF, hNIAE, hNIOB⟩ := hXH
  refine lv_aload_n hx hb dW_share_0 rfl (lv_at hl 3 rfl) ?_
  refine xi_iconst hx hb dW_share_1 ?_
  refine lv_aload_n hx hb dW_share_2 rfl (lv_at hl 0 rfl) ?_
  refine lv_iload_n hx hb dW_share_3 rfl (lv_at hl 1 rfl) ?_
  refine lv_iload_n hx hb dW_share_4 rfl (lv_at hl 2 rfl) ?_
  have hPc := xs_L hP
  have hKc := hK.sub (tys' := cT cs) [0, 1, 2, 3, 4] rfl
  have hDc := xd_L hD
  have hFc := xs_fL hD hS hA
  refine vx_calli (SX := Unit) (vx_runV (As := [.int (iI x), .int (iI q)]) (rest := [.int (iI 0), .ref ao]) ⟨hx, hb, hml, hown, hts⟩ (k_share l hlt sa dC dI ad cs H.size LP G nc np op par X Y O PQ Wd pw pf pu ps x q hop hG hq0 hx0) (cwV 2 hts (tb_V mlW_35 imC_share seC_share iniC coC_share) rfl rfl rfl (by decide +kernel) (by subst hR; exact ⟨Nat.le_of_ble_eq_true rfl, Nat.le_of_ble_eq_true rfl⟩)) ⟨fun a9 U9 g9 mk9 q9 => by obtain ⟨q0, q1, qP, qK, qD, qF⟩ := q9; exact ⟨q0, q1, qP, va_K.moved (u := U9) (U := U9.calling g9 mk9 a9) (Vm.Alike.refl U9.vm) qK, qD, qF.calling g9 mk9 a9⟩, va_recv hKc hPc (ci := 2) (q0 := 0) rfl rfl, fun U hU hW => ⟨rfl, by rw [hU], by rw [hU]; exact hPc, va_K.moved hW.alike hKc, hDc.weaken (fun _ _ _ _ => trivial), (hXF.move hW (fun a h1 h2 => by rw [hU]; exact hS.2.1 a h1 h2)).narrow hFc⟩⟩ rfl rfl hl.1 rfl (lv_room (Nat.le_of_ble_eq_true rfl)) dW_share_5 ⟨by subst hR; exact Nat.le_of_ble_eq_true rfl, by subst hR; exact Nat.le_of_ble_eq_true rfl⟩) hS (fun q9 _ h9 => hFc q9 h9) hFc (fun q9 _ h9 => hFc q9 h9) (fun E9 ce9 q9 u9 t9 H1 locs1 ht9 hvm9 hpx9 hB9 hz9 hk9 hS1 hce9 hcv9 hcl9 => ?_) (fun r_5 u_5 t9 H1 locs1 ht9 hvm9 hw_5 hB9 hz9 hk9 hS1 => ?_)
  · obtain ⟨hC9, hP9, hK9⟩ := hB9
    rw [ht9] at hP9
    have hP : va_P (dC, dI) vwCl (((cW ad cs nc np op par X Y O PQ Wd pw pf pu ps) ++ va_pl LP (pG G)) ++ [(ao, .inl (co, 1, .inr (.inl (aL Fo))))]) H1 := xs_PL hP hD hP9 hk9
    have hD : va_D A (((cW ad cs nc np op par X Y O PQ Wd pw pf pu ps) ++ va_pl LP (pG G)) ++ [(ao, .inl (co, 1, .inr (.inl (aL Fo))))]) := hD
    have hS := hS1
    clear hP9 hK9 hPc hKc hDc hFc hz9 hk9 ht9 hvm9 hS1
    obtain ⟨hE9, hf9⟩ := hC9
    subst hE9
    refine vx_catch (own := RW) (name := IOB) (E := IOB) hown [] ⟨0, 10, 13, 33⟩ [] htab (fun z9 h9 => nomatch h9) rfl (by decide) (hts _ (List.mem_cons_of_mem _ clW_33)) (hXF.cast IOB (by decide +kernel)) hce9 hcv9 hcl9 ?_
    refine lv_astore (lv' := [(4, .ref q9), (0, .ref (ad 0)), (1, .int (iI x)), (2, .int (iI q)), (3, .ref ao)]) hx hb dW_share_13 hl (by decide) rfl (fun ls hl => ?_)
    refine xi_iconst hx hb dW_share_15 ?_
    subst hQ
    refine W.widen (k := 1) (n := 6) (by omega) (by omega) ?_
    exact W.iret (v := (iI 1)) hx hb hr (fun t9 ht9 hW9 => ⟨⟨_, (Wd, pw, pf, pu, ps, Fo), rfl, (⟨by rw [hf9], fun h => absurd h (by rw [hf9]; decide)⟩), by rw [ht9]; exact hP, va_K.moved hW9.alike hK, hD⟩, hS.F ht9⟩) hS.2.2 dW_share_16
  · obtain ⟨hP1, hK1, hD1⟩ := hB9
    rw [ht9] at hP1
    obtain ⟨f9, hr9⟩ := hw_5; subst hr9
    have hDn : va_D A (((cW ad cs nc np op par X Y O PQ u_5.1 u_5.2.1 u_5.2.2.1 u_5.2.2.2.1 u_5.2.2.2.2) ++ va_pl LP (pG G)) ++ [(ao, .inl (co, 1, .inr (.inl (aL Fo))))]) := xs_DL hP hD hD1 hFc
    have hP : va_P (dC, dI) vwCl (((cW ad cs nc np op par X Y O PQ u_5.1 u_5.2.1 u_5.2.2.1 u_5.2.2.2.1 u_5.2.2.2.2) ++ va_pl LP (pG G)) ++ [(ao, .inl (co, 1, .inr (.inl (aL Fo))))]) H1 := xs_PL hP hD hP1 hk9
    have hD := hDn
    have hS := hS1
    clear hDn hP1 hK1 hD1 hPc hKc hDc hFc hz9 hk9 ht9 hvm9 hS1
    have b9 := isum_bd2 (f := fun j => isum (fun i => bz (isin par (wC PQ G op (64 * x + 8 + 16 * i) (64 * (63 - q) + 8 + 16 * j)))) 4) (c := 4) (fun j => isum_nn (fun i => bz_in _) 4) 4
    refine xl_i2l hx hb dW_share_8 (by omega) ?_
    refine xa_last (z := 0) (v := isum (fun j => isum (fun i => bz (isin par (wC PQ G op (64 * x + 8 + 16 * i) (64 * (63 - q) + 8 + 16 * j)))) 4) 4) hx hb hK hP hD hS _ 5 xl_at rfl (by decide) (by omega) dW_share_9 (fun H locs hP hD hS => ?_)
    rw [xl_set] at hP hD
    have hP : va_P (dC, dI) vwCl (((cW ad cs nc np op par X Y O PQ u_5.1 u_5.2.1 u_5.2.2.1 u_5.2.2.2.1 u_5.2.2.2.2) ++ va_pl LP (pG G)) ++ [(ao, .inl (co, 1, .inr (.inl (aL (up Fo 0 (isum (fun j => isum (fun i => bz (isin par (wC PQ G op (64 * x + 8 + 16 * i) (64 * (63 - q) + 8 + 16 * j)))) 4) 4))))))]) H := hP
    have hD : va_D A (((cW ad cs nc np op par X Y O PQ u_5.1 u_5.2.1 u_5.2.2.1 u_5.2.2.2.1 u_5.2.2.2.2) ++ va_pl LP (pG G)) ++ [(ao, .inl (co, 1, .inr (.inl (aL (up Fo 0 (isum (fun j => isum (fun i => bz (isin par (wC PQ G op (64 * x + 8 + 16 * i) (64 * (63 - q) + 8 + 16 * j)))) 4) 4))))))]) := hD
    refine lv_goto (tgt := 17) hx hb dW_share_10 (by decide) ?_
    refine xi_iconst hx hb dW_share_17 ?_
    subst hQ
    refine W.widen (k := 1) (n := 6) (by omega) (by omega) ?_
    exact W.iret (v := (iI 0)) hx hb hr (fun t9 ht9 hW9 => ⟨⟨_, (u_5.1, u_5.2.1, u_5.2.2.1, u_5.2.2.2.1, u_5.2.2.2.2, up Fo 0 (isum (fun j => isum (fun i => bz (isin par (wC PQ G op (64 * x + 8 + 16 * i) (64 * (63 - q) + 8 + 16 * j)))) 4) 4)), rfl, (⟨by rw [f9], fun _ => up_s Fo 0 _⟩), by rw [ht9]; exact hP, va_K.moved hW9.alike hK, hD⟩, hS.F ht9⟩) hS.2.2 dW_share_18
set_option maxHeartbeats 4000000 in
set_option maxRecDepth 100000 in
/-- spans -/
theorem h_spans (l : Launch) (dC : Nat → ClassId) (dI : Nat → Nat → Nat) (ad : Nat → Nat) (cs : Nat → ClassId) (sz : Nat) (hlt : l.stackTraces = false) (sa : Nat → Nat) (ao : Nat) (co : ClassId) (LP : List Nat) (G : Nat → PD) (nc np op : Int) (par : Bool) (X Y : Int → Int) (O : Int → Bool) (PQ : Int → Option Nat) (Wd : Int → Int) (pw pf pu ps : Int) (Fo : Int → Int) (q : Int) (hop : 0 ≤ op ∧ op ≤ 512) (hG : cOk LP G PQ op) (hq0 : -2147483648 ≤ q ∧ q ≤ 2147483647) : Met l yW_spans wW_spans ({ frames := 7, cells := 1, slots := 6, locals := 149 }) (va_Pc [.ref (ad 0), .int (iI q), .ref ao] (fun U => U.heap.size = sz ∧ va_P (dC, dI) vwCl (((cW ad cs nc np op par X Y O PQ Wd pw pf pu ps) ++ va_pl LP (pG G)) ++ [(ao, .inl (co, 1, .inr (.inl (aL Fo))))]) U.heap ∧ va_K (dC, dI) vwCl (cT cs ++ [(co, .long)]) U ∧ va_D (fun _ => True) (((cW ad cs nc np op par X Y O PQ Wd pw pf pu ps) ++ va_pl LP (pG G)) ++ [(ao, .inl (co, 1, .inr (.inl (aL Fo))))]) ∧ xHk (va_A (((cW ad cs nc np op par X Y O PQ Wd pw pf pu ps) ++ va_pl LP (pG G)) ++ [(ao, .inl (co, 1, .inr (.inl (aL Fo))))]) sz) sa U)) (va_Qi (fun (r : Int32) (u : (Int → Int) × Int × Int × Int × Int × (Int → Int)) => r = iI (fR q) ∧ (fR q = 0 → u.2.2.2.2.2 0 = isum (fun x => bz (spS (pxC PQ G op par q) x)) 64)) (fun (u : (Int → Int) × Int × Int × Int × Int × (Int → Int)) t9 => va_P (dC, dI) vwCl (((cW ad cs nc np op par X Y O PQ u.1 u.2.1 u.2.2.1 u.2.2.2.1 u.2.2.2.2.1) ++ va_pl LP (pG G)) ++ [(ao, .inl (co, 1, .inr (.inl (aL u.2.2.2.2.2))))]) t9.heap ∧ va_K (dC, dI) vwCl (cT cs ++ [(co, .long)]) t9 ∧ va_D (va_A (((cW ad cs nc np op par X Y O PQ Wd pw pf pu ps) ++ va_pl LP (pG G)) ++ [(ao, .inl (co, 1, .inr (.inl (aL Fo))))]) sz) (((cW ad cs nc np op par X Y O PQ u.1 u.2.1 u.2.2.1 u.2.2.2.1 u.2.2.2.2.1) ++ va_pl LP (pG G)) ++ [(ao, .inl (co, 1, .inr (.inl (aL u.2.2.2.2.2))))])) (va_A (((cW ad cs nc np op par X Y O PQ Wd pw pf pu ps) ++ va_pl LP (pG G)) ++ [(ao, .inl (co, 1, .inr (.inl (aL Fo))))]) sz)) 1 6 (va_A (((cW ad cs nc np op par X Y O PQ Wd pw pf pu ps) ++ va_pl LP (pG G)) ++ [(ao, .inl (co, 1, .inr (.inl (aL Fo))))]) sz) := by
  refine va_MetW (cc := cW_spans) (maxL := 4) (ret := (some .int)) (hh := [(0, 9, 12, 33)]) (by decide) rfl ?_
  intro p e s m args below meth c s₁ B hml hv
  obtain ⟨hargs, hsz, hP, hK, hD0, hXH⟩ := hv
  have hx := B.exec
  have hb := B.bytes
  have hr := B.returns
  have hts := atoms_spec (ws := wW_spans) B.pre
  have hown : s.vm.findClass RW = some m.cls := findClass_of_methodNamed B.named
  have hlocks := B.notSynchronized
  have htab := vx_table (x := yW_spans) B (hts _ List.mem_cons_self)
  subst hsz
  have hD := hD0.self (sz := s.heap.size)
  generalize hAe : va_A (((cW ad cs nc np op par X Y O PQ Wd pw pf pu ps) ++ va_pl LP (pG G)) ++ [(ao, .inl (co, 1, .inr (.inl (aL Fo))))]) s.heap.size = A at hD hXH ⊢
  have hA : ∀ q : Nat, s.heap.size ≤ q → A q := fun q h => by rw [← hAe]; exact Or.inr h
  have hS0 : va_S A s.heap s.heap [] := va_S.rf
  refine x_name (fun R Q H locs hR hQ hH hlo => ?_)
  rw [← hH] at hP
  have hS : va_S A s.heap H locs := by rw [hH, hlo]; exact hS0
  refine x_entry hargs (Nat.le_of_ble_eq_true rfl) (fun ls hl => ?_)
  have hl : lv_has ls 4 [(0, .ref (ad 0)), (1, .int (iI q)), (2, .ref ao)] := hl
  have hP : va_P (dC, dI) vwCl (((cW ad cs nc np op par X Y O PQ Wd pw pf pu ps) ++ va_pl LP (pG G)) ++ [(ao, .inl (co, 1, .inr (.inl (aL Fo))))]) H := hP
  obtain ⟨hXF, hNIAE, hNIOB⟩ := hXH
  refine lv_aload_n hx hb dW_spans_0 rfl (lv_at hl 2 rfl) ?_
  refine xi_iconst hx hb dW_spans_1 ?_
  refine lv_aload_n hx hb dW_spans_2 rfl (lv_at hl 0 rfl) ?_
  refine lv_iload_n hx hb dW_spans_3 rfl (lv_at hl 1 rfl) ?_
  have hPc := xs_L hP
  have hKc := hK.sub (tys' := cT cs) [0, 1, 2, 3, 4] rfl
  have hDc := xd_L hD
  have hFc := xs_fL hD hS hA
  refine vx_calli (SX := Unit) (vx_runV (As := [.int (iI q)]) (rest := [.int (iI 0), .ref ao]) ⟨hx, hb, hml, hown, hts⟩ (k_spans l hlt sa dC dI ad cs H.size LP G nc np op par X Y O PQ Wd pw pf pu ps q hop hG hq0) (cwV 1 hts (tb_V mlW_38 imC_spans seC_spans iniC coC_spans) rfl rfl rfl (by decide +kernel) (by subst hR; exact ⟨Nat.le_of_ble_eq_true rfl, Nat.le_of_ble_eq_true rfl⟩)) ⟨fun a9 U9 g9 mk9 q9 => by obtain ⟨q0, q1, qP, qK, qD, qF⟩ := q9; exact ⟨q0, q1, qP, va_K.moved (u := U9) (U := U9.calling g9 mk9 a9) (Vm.Alike.refl U9.vm) qK, qD, qF.calling g9 mk9 a9⟩, va_recv hKc hPc (ci := 2) (q0 := 0) rfl rfl, fun U hU hW => ⟨rfl, by rw [hU], by rw [hU]; exact hPc, va_K.moved hW.alike hKc, hDc.weaken (fun _ _ _ _ => trivial), (hXF.move hW (fun a h1 h2 => by rw [hU]; exact hS.2.1 a h1 h2)).narrow hFc⟩⟩ rfl rfl hl.1 rfl (lv_room (Nat.le_of_ble_eq_true rfl)) dW_spans_4 ⟨by subst hR; exact Nat.le_of_ble_eq_true rfl, by subst hR; exact Nat.le_of_ble_eq_true rfl⟩) hS (fun q9 _ h9 => hFc q9 h9) hFc (fun q9 _ h9 => hFc q9 h9) (fun E9 ce9 q9 u9 t9 H1 locs1 ht9 hvm9 hpx9 hB9 hz9 hk9 hS1 hce9 hcv9 hcl9 => ?_) (fun r_4 u_4 t9 H1 locs1 ht9 hvm9 hw_4 hB9 hz9 hk9 hS1 => ?_)
  · obtain ⟨hC9, hP9, hK9⟩ := hB9
    rw [ht9] at hP9
    have hP : va_P (dC, dI) vwCl (((cW ad cs nc np op par X Y O PQ Wd pw pf pu ps) ++ va_pl LP (pG G)) ++ [(ao, .inl (co, 1, .inr (.inl (aL Fo))))]) H1 := xs_PL hP hD hP9 hk9
    have hD : va_D A (((cW ad cs nc np op par X Y O PQ Wd pw pf pu ps) ++ va_pl LP (pG G)) ++ [(ao, .inl (co, 1, .inr (.inl (aL Fo))))]) := hD
    have hS := hS1
    clear hP9 hK9 hPc hKc hDc hFc hz9 hk9 ht9 hvm9 hS1
    obtain ⟨hE9, hf9⟩ := hC9
    subst hE9
    refine vx_catch (own := RW) (name := IOB) (E := IOB) hown [] ⟨0, 9, 12, 33⟩ [] htab (fun z9 h9 => nomatch h9) rfl (by decide) (hts _ (List.mem_cons_of_mem _ clW_33)) (hXF.cast IOB (by decide +kernel)) hce9 hcv9 hcl9 ?_
    refine lv_astore_n (lv' := [(3, .ref q9), (0, .ref (ad 0)), (1, .int (iI q)), (2, .ref ao)]) hx hb dW_spans_12 rfl hl (by decide) rfl (fun ls hl => ?_)
    refine xi_iconst hx hb dW_spans_13 ?_
    subst hQ
    refine W.widen (k := 1) (n := 6) (by omega) (by omega) ?_
    exact W.iret (v := (iI 1)) hx hb hr (fun t9 ht9 hW9 => ⟨⟨_, (Wd, pw, pf, pu, ps, Fo), rfl, (⟨by rw [hf9], fun h => absurd h (by rw [hf9]; decide)⟩), by rw [ht9]; exact hP, va_K.moved hW9.alike hK, hD⟩, hS.F ht9⟩) hS.2.2 dW_spans_14
  · obtain ⟨hP1, hK1, hD1⟩ := hB9
    rw [ht9] at hP1
    obtain ⟨f9, hr9⟩ := hw_4; subst hr9
    have hDn : va_D A (((cW ad cs nc np op par X Y O PQ u_4.1 u_4.2.1 u_4.2.2.1 u_4.2.2.2.1 u_4.2.2.2.2) ++ va_pl LP (pG G)) ++ [(ao, .inl (co, 1, .inr (.inl (aL Fo))))]) := xs_DL hP hD hD1 hFc
    have hP : va_P (dC, dI) vwCl (((cW ad cs nc np op par X Y O PQ u_4.1 u_4.2.1 u_4.2.2.1 u_4.2.2.2.1 u_4.2.2.2.2) ++ va_pl LP (pG G)) ++ [(ao, .inl (co, 1, .inr (.inl (aL Fo))))]) H1 := xs_PL hP hD hP1 hk9
    have hD := hDn
    have hS := hS1
    clear hDn hP1 hK1 hD1 hPc hKc hDc hFc hz9 hk9 ht9 hvm9 hS1
    have b9 := isum_nn (h := fun x => bz (spS (pxC PQ G op par q) x)) (fun x => bz_in _) 64
    refine xl_i2l hx hb dW_spans_7 (by omega) ?_
    refine xa_last (z := 0) (v := isum (fun x => bz (spS (pxC PQ G op par q) x)) 64) hx hb hK hP hD hS _ 5 xl_at rfl (by decide) (by omega) dW_spans_8 (fun H locs hP hD hS => ?_)
    rw [xl_set] at hP hD
    have hP : va_P (dC, dI) vwCl (((cW ad cs nc np op par X Y O PQ u_4.1 u_4.2.1 u_4.2.2.1 u_4.2.2.2.1 u_4.2.2.2.2) ++ va_pl LP (pG G)) ++ [(ao, .inl (co, 1, .inr (.inl (aL (up Fo 0 (isum (fun x => bz (spS (pxC PQ G op par q) x)) 64))))))]) H := hP
    have hD : va_D A (((cW ad cs nc np op par X Y O PQ u_4.1 u_4.2.1 u_4.2.2.1 u_4.2.2.2.1 u_4.2.2.2.2) ++ va_pl LP (pG G)) ++ [(ao, .inl (co, 1, .inr (.inl (aL (up Fo 0 (isum (fun x => bz (spS (pxC PQ G op par q) x)) 64))))))]) := hD
    refine lv_goto (tgt := 15) hx hb dW_spans_9 (by decide) ?_
    refine xi_iconst hx hb dW_spans_15 ?_
    subst hQ
    refine W.widen (k := 1) (n := 6) (by omega) (by omega) ?_
    exact W.iret (v := (iI 0)) hx hb hr (fun t9 ht9 hW9 => ⟨⟨_, (u_4.1, u_4.2.1, u_4.2.2.1, u_4.2.2.2.1, u_4.2.2.2.2, up Fo 0 (isum (fun x => bz (spS (pxC PQ G op par q) x)) 64)), rfl, (⟨by rw [f9], fun _ => up_s Fo 0 _⟩), by rw [ht9]; exact hP, va_K.moved hW9.alike hK, hD⟩, hS.F ht9⟩) hS.2.2 dW_spans_16
set_option maxHeartbeats 4000000 in
set_option maxRecDepth 100000 in
/-- span -/
theorem h_span (l : Launch) (dC : Nat → ClassId) (dI : Nat → Nat → Nat) (ad : Nat → Nat) (cs : Nat → ClassId) (sz : Nat) (hlt : l.stackTraces = false) (sa : Nat → Nat) (ao : Nat) (co : ClassId) (LP : List Nat) (G : Nat → PD) (nc np op : Int) (par : Bool) (X Y : Int → Int) (O : Int → Bool) (PQ : Int → Option Nat) (Wd : Int → Int) (pw pf pu ps : Int) (Fo : Int → Int) (q k : Int) (en : Bool) (hop : 0 ≤ op ∧ op ≤ 512) (hG : cOk LP G PQ op) (hq0 : -2147483648 ≤ q ∧ q ≤ 2147483647) (hk0 : -2147483648 ≤ k ∧ k ≤ 2147483647) : Met l yW_span wW_span ({ frames := 7, cells := 1, slots := 6, locals := 154 }) (va_Pc [.ref (ad 0), .int (iI q), .int (iI k), .int (iI (bz en)), .ref ao] (fun U => U.heap.size = sz ∧ va_P (dC, dI) vwCl (((cW ad cs nc np op par X Y O PQ Wd pw pf pu ps) ++ va_pl LP (pG G)) ++ [(ao, .inl (co, 1, .inr (.inl (aL Fo))))]) U.heap ∧ va_K (dC, dI) vwCl (cT cs ++ [(co, .long)]) U ∧ va_D (fun _ => True) (((cW ad cs nc np op par X Y O PQ Wd pw pf pu ps) ++ va_pl LP (pG G)) ++ [(ao, .inl (co, 1, .inr (.inl (aL Fo))))]) ∧ xHk (va_A (((cW ad cs nc np op par X Y O PQ Wd pw pf pu ps) ++ va_pl LP (pG G)) ++ [(ao, .inl (co, 1, .inr (.inl (aL Fo))))]) sz) sa U)) (va_Qi (fun (r : Int32) (u : (Int → Int) × Int × Int × Int × Int × (Int → Int)) => r = iI (fR q) ∧ (fR q = 0 → spC (pxC PQ G op par q) k en (u.2.2.2.2.2 0))) (fun (u : (Int → Int) × Int × Int × Int × Int × (Int → Int)) t9 => va_P (dC, dI) vwCl (((cW ad cs nc np op par X Y O PQ u.1 u.2.1 u.2.2.1 u.2.2.2.1 u.2.2.2.2.1) ++ va_pl LP (pG G)) ++ [(ao, .inl (co, 1, .inr (.inl (aL u.2.2.2.2.2))))]) t9.heap ∧ va_K (dC, dI) vwCl (cT cs ++ [(co, .long)]) t9 ∧ va_D (va_A (((cW ad cs nc np op par X Y O PQ Wd pw pf pu ps) ++ va_pl LP (pG G)) ++ [(ao, .inl (co, 1, .inr (.inl (aL Fo))))]) sz) (((cW ad cs nc np op par X Y O PQ u.1 u.2.1 u.2.2.1 u.2.2.2.1 u.2.2.2.2.1) ++ va_pl LP (pG G)) ++ [(ao, .inl (co, 1, .inr (.inl (aL u.2.2.2.2.2))))])) (va_A (((cW ad cs nc np op par X Y O PQ Wd pw pf pu ps) ++ va_pl LP (pG G)) ++ [(ao, .inl (co, 1, .inr (.inl (aL Fo))))]) sz)) 1 6 (va_A (((cW ad cs nc np op par X Y O PQ Wd pw pf pu ps) ++ va_pl LP (pG G)) ++ [(ao, .inl (co, 1, .inr (.inl (aL Fo))))]) sz) := by
  refine va_MetW (cc := cW_span) (maxL := 6) (ret := (some .int)) (hh := [(0, 12, 15, 33)]) (by decide) rfl ?_
  intro p e s m args below meth c s₁ B hml hv
  obtain ⟨hargs, hsz, hP, hK, hD0, hXH⟩ := hv
  have hx := B.exec
  have hb := B.bytes
  have hr := B.returns
  have hts := atoms_spec (ws := wW_span) B.pre
  have hown : s.vm.findClass RW = some m.cls := findClass_of_methodNamed B.named
  have hlocks := B.notSynchronized
  have htab := vx_table (x := yW_span) B (hts _ List.mem_cons_self)
  subst hsz
  have hD := hD0.self (sz := s.heap.size)
  generalize hAe : va_A (((cW ad cs nc np op par X Y O PQ Wd pw pf pu ps) ++ va_pl LP (pG G)) ++ [(ao, .inl (co, 1, .inr (.inl (aL Fo))))]) s.heap.size = A at hD hXH ⊢
  have hA : ∀ q : Nat, s.heap.size ≤ q → A q := fun q h => by rw [← hAe]; exact Or.inr h
  have hS0 : va_S A s.heap s.heap [] := va_S.rf
  refine x_name (fun R Q H locs hR hQ hH hlo => ?_)
  rw [← hH] at hP
  have hS : va_S A s.heap H locs := by rw [hH, hlo]; exact hS0
  refine x_entry hargs (Nat.le_of_ble_eq_true rfl) (fun ls hl => ?_)
  have hl : lv_has ls 6 [(0, .ref (ad 0)), (1, .int (iI q)), (2, .int (iI k)), (3, .int (iI (bz en))), (4, .ref ao)] := hl
  have hP : va_P (dC, dI) vwCl (((cW ad cs nc np op par X Y O PQ Wd pw pf pu ps) ++ va_pl LP (pG G)) ++ [(ao, .inl (co, 1, .inr (.inl (aL Fo))))]) H := hP
  obtain ⟨hXF, hNIAE, hNIOB⟩ := hXH
  refine lv_aload hx hb dW_span_0 (lv_at hl 4 rfl) ?_
  refine xi_iconst hx hb dW_span_2 ?_
  refine lv_aload_n hx hb dW_span_3 rfl (lv_at hl 0 rfl) ?_
  refine lv_iload_n hx hb dW_span_4 rfl (lv_at hl 1 rfl) ?_
  refine lv_iload_n hx hb dW_span_5 rfl (lv_at hl 2 rfl) ?_
  refine lv_iload_n hx hb dW_span_6 rfl (lv_at hl 3 rfl) ?_
  have hPc := xs_L hP
  have hKc := hK.sub (tys' := cT cs) [0, 1, 2, 3, 4] rfl
  have hDc := xd_L hD
  have hFc := xs_fL hD hS hA
  refine vx_calli (SX := Unit) (vx_runV (As := [.int (iI q), .int (iI k), .int (iI (bz en))]) (rest := [.int (iI 0), .ref ao]) ⟨hx, hb, hml, hown, hts⟩ (k_span l hlt sa dC dI ad cs H.size LP G nc np op par X Y O PQ Wd pw pf pu ps q k en hop hG hq0 hk0) (cwV 3 hts (tb_V mlW_42 imC_span seC_span iniC coC_span) rfl rfl rfl (by decide +kernel) (by subst hR; exact ⟨Nat.le_of_ble_eq_true rfl, Nat.le_of_ble_eq_true rfl⟩)) ⟨fun a9 U9 g9 mk9 q9 => by obtain ⟨q0, q1, qP, qK, qD, qF⟩ := q9; exact ⟨q0, q1, qP, va_K.moved (u := U9) (U := U9.calling g9 mk9 a9) (Vm.Alike.refl U9.vm) qK, qD, qF.calling g9 mk9 a9⟩, va_recv hKc hPc (ci := 2) (q0 := 0) rfl rfl, fun U hU hW => ⟨rfl, by rw [hU], by rw [hU]; exact hPc, va_K.moved hW.alike hKc, hDc.weaken (fun _ _ _ _ => trivial), (hXF.move hW (fun a h1 h2 => by rw [hU]; exact hS.2.1 a h1 h2)).narrow hFc⟩⟩ rfl rfl hl.1 rfl (lv_room (Nat.le_of_ble_eq_true rfl)) dW_span_7 ⟨by subst hR; exact Nat.le_of_ble_eq_true rfl, by subst hR; exact Nat.le_of_ble_eq_true rfl⟩) hS (fun q9 _ h9 => hFc q9 h9) hFc (fun q9 _ h9 => hFc q9 h9) (fun E9 ce9 q9 u9 t9 H1 locs1 ht9 hvm9 hpx9 hB9 hz9 hk9 hS1 hce9 hcv9 hcl9 => ?_) (fun r_7 u_7 t9 H1 locs1 ht9 hvm9 hw_7 hB9 hz9 hk9 hS1 => ?_)
  · obtain ⟨hC9, hP9, hK9⟩ := hB9
    rw [ht9] at hP9
    have hP : va_P (dC, dI) vwCl (((cW ad cs nc np op par X Y O PQ Wd pw pf pu ps) ++ va_pl LP (pG G)) ++ [(ao, .inl (co, 1, .inr (.inl (aL Fo))))]) H1 := xs_PL hP hD hP9 hk9
    have hD : va_D A (((cW ad cs nc np op par X Y O PQ Wd pw pf pu ps) ++ va_pl LP (pG G)) ++ [(ao, .inl (co, 1, .inr (.inl (aL Fo))))]) := hD
    have hS := hS1
    clear hP9 hK9 hPc hKc hDc hFc hz9 hk9 ht9 hvm9 hS1
    obtain ⟨hE9, hf9⟩ := hC9
    subst hE9
    refine vx_catch (own := RW) (name := IOB) (E := IOB) hown [] ⟨0, 12, 15, 33⟩ [] htab (fun z9 h9 => nomatch h9) rfl (by decide) (hts _ (List.mem_cons_of_mem _ clW_33)) (hXF.cast IOB (by decide +kernel)) hce9 hcv9 hcl9 ?_
    refine lv_astore (lv' := [(5, .ref q9), (0, .ref (ad 0)), (1, .int (iI q)), (2, .int (iI k)), (3, .int (iI (bz en))), (4, .ref ao)]) hx hb dW_span_15 hl (by decide) rfl (fun ls hl => ?_)
    refine xi_iconst hx hb dW_span_17 ?_
    subst hQ
    refine W.widen (k := 1) (n := 6) (by omega) (by omega) ?_
    exact W.iret (v := (iI 1)) hx hb hr (fun t9 ht9 hW9 => ⟨⟨_, (Wd, pw, pf, pu, ps, Fo), rfl, (⟨by rw [hf9], fun h => absurd h (by rw [hf9]; decide)⟩), by rw [ht9]; exact hP, va_K.moved hW9.alike hK, hD⟩, hS.F ht9⟩) hS.2.2 dW_span_18
  · obtain ⟨hP1, hK1, hD1⟩ := hB9
    rw [ht9] at hP1
    obtain ⟨f9, z9, hr9, hzz⟩ := hw_7; subst hr9
    have hDn : va_D A (((cW ad cs nc np op par X Y O PQ u_7.1 u_7.2.1 u_7.2.2.1 u_7.2.2.2.1 u_7.2.2.2.2) ++ va_pl LP (pG G)) ++ [(ao, .inl (co, 1, .inr (.inl (aL Fo))))]) := xs_DL hP hD hD1 hFc
    have hP : va_P (dC, dI) vwCl (((cW ad cs nc np op par X Y O PQ u_7.1 u_7.2.1 u_7.2.2.1 u_7.2.2.2.1 u_7.2.2.2.2) ++ va_pl LP (pG G)) ++ [(ao, .inl (co, 1, .inr (.inl (aL Fo))))]) H1 := xs_PL hP hD hP1 hk9
    have hD := hDn
    have hS := hS1
    clear hDn hP1 hK1 hD1 hPc hKc hDc hFc hz9 hk9 ht9 hvm9 hS1
    have b9 := spC_bd hzz
    refine xl_i2l hx hb dW_span_10 (by omega) ?_
    refine xa_last (z := 0) (v := z9) hx hb hK hP hD hS _ 5 xl_at rfl (by decide) (by omega) dW_span_11 (fun H locs hP hD hS => ?_)
    rw [xl_set] at hP hD
    have hP : va_P (dC, dI) vwCl (((cW ad cs nc np op par X Y O PQ u_7.1 u_7.2.1 u_7.2.2.1 u_7.2.2.2.1 u_7.2.2.2.2) ++ va_pl LP (pG G)) ++ [(ao, .inl (co, 1, .inr (.inl (aL (up Fo 0 z9)))))]) H := hP
    have hD : va_D A (((cW ad cs nc np op par X Y O PQ u_7.1 u_7.2.1 u_7.2.2.1 u_7.2.2.2.1 u_7.2.2.2.2) ++ va_pl LP (pG G)) ++ [(ao, .inl (co, 1, .inr (.inl (aL (up Fo 0 z9)))))]) := hD
    refine lv_goto (tgt := 19) hx hb dW_span_12 (by decide) ?_
    refine xi_iconst hx hb dW_span_19 ?_
    subst hQ
    refine W.widen (k := 1) (n := 6) (by omega) (by omega) ?_
    exact W.iret (v := (iI 0)) hx hb hr (fun t9 ht9 hW9 => ⟨⟨_, (u_7.1, u_7.2.1, u_7.2.2.1, u_7.2.2.2.1, u_7.2.2.2.2, up Fo 0 z9), rfl, (⟨by rw [f9], fun _ => by (show spC _ _ _ (up Fo 0 z9 0); rw [up_s]; exact hzz)⟩), by rw [ht9]; exact hP, va_K.moved hW9.alike hK, hD⟩, hS.F ht9⟩) hS.2.2 dW_span_20
set_option maxHeartbeats 4000000 in
set_option maxRecDepth 100000 in
/-- extent -/
theorem h_extent (l : Launch) (dC : Nat → ClassId) (dI : Nat → Nat → Nat) (ad : Nat → Nat) (cs : Nat → ClassId) (sz : Nat) (hlt : l.stackTraces = false) (sa : Nat → Nat) (ao : Nat) (co : ClassId) (LP : List Nat) (G : Nat → PD) (nc np op : Int) (par : Bool) (X Y : Int → Int) (O : Int → Bool) (PQ : Int → Option Nat) (Wd : Int → Int) (pw pf pu ps : Int) (Fo : Int → Int) (w : Int) (hop : 0 ≤ op ∧ op ≤ 512) (hG : cOk LP G PQ op) (hw0 : -2147483648 ≤ w ∧ w ≤ 2147483647) (hnc : 0 ≤ nc ∧ nc ≤ 64) : Met l yW_extent wW_extent ({ frames := 7, cells := 1, slots := 6, locals := 108 }) (va_Pc [.ref (ad 0), .int (iI w), .ref ao] (fun U => U.heap.size = sz ∧ va_P (dC, dI) vwCl (((cW ad cs nc np op par X Y O PQ Wd pw pf pu ps) ++ va_pl LP (pG G)) ++ [(ao, .inl (co, 1, .inr (.inl (aL Fo))))]) U.heap ∧ va_K (dC, dI) vwCl (cT cs ++ [(co, .long)]) U ∧ va_D (fun _ => True) (((cW ad cs nc np op par X Y O PQ Wd pw pf pu ps) ++ va_pl LP (pG G)) ++ [(ao, .inl (co, 1, .inr (.inl (aL Fo))))]) ∧ xHk (va_A (((cW ad cs nc np op par X Y O PQ Wd pw pf pu ps) ++ va_pl LP (pG G)) ++ [(ao, .inl (co, 1, .inr (.inl (aL Fo))))]) sz) sa U)) (va_Qi (fun (r : Int32) (u : (Int → Int) × Int × Int × Int × Int × (Int → Int)) => r = iI (fE w nc) ∧ (fE w nc = 0 → exC PQ G w op (u.2.2.2.2.2 0))) (fun (u : (Int → Int) × Int × Int × Int × Int × (Int → Int)) t9 => va_P (dC, dI) vwCl (((cW ad cs nc np op par X Y O PQ u.1 u.2.1 u.2.2.1 u.2.2.2.1 u.2.2.2.2.1) ++ va_pl LP (pG G)) ++ [(ao, .inl (co, 1, .inr (.inl (aL u.2.2.2.2.2))))]) t9.heap ∧ va_K (dC, dI) vwCl (cT cs ++ [(co, .long)]) t9 ∧ va_D (va_A (((cW ad cs nc np op par X Y O PQ Wd pw pf pu ps) ++ va_pl LP (pG G)) ++ [(ao, .inl (co, 1, .inr (.inl (aL Fo))))]) sz) (((cW ad cs nc np op par X Y O PQ u.1 u.2.1 u.2.2.1 u.2.2.2.1 u.2.2.2.2.1) ++ va_pl LP (pG G)) ++ [(ao, .inl (co, 1, .inr (.inl (aL u.2.2.2.2.2))))])) (va_A (((cW ad cs nc np op par X Y O PQ Wd pw pf pu ps) ++ va_pl LP (pG G)) ++ [(ao, .inl (co, 1, .inr (.inl (aL Fo))))]) sz)) 1 6 (va_A (((cW ad cs nc np op par X Y O PQ Wd pw pf pu ps) ++ va_pl LP (pG G)) ++ [(ao, .inl (co, 1, .inr (.inl (aL Fo))))]) sz) := by
  refine va_MetW (cc := cW_extent) (maxL := 4) (ret := (some .int)) (hh := [(0, 9, 12, 33), (0, 9, 15, 15)]) (by decide) rfl ?_
  intro p e s m args below meth c s₁ B hml hv
  obtain ⟨hargs, hsz, hP, hK, hD0, hXH⟩ := hv
  have hx := B.exec
  have hb := B.bytes
  have hr := B.returns
  have hts := atoms_spec (ws := wW_extent) B.pre
  have hown : s.vm.findClass RW = some m.cls := findClass_of_methodNamed B.named
  have hlocks := B.notSynchronized
  have htab := vx_table (x := yW_extent) B (hts _ List.mem_cons_self)
  subst hsz
  have hD := hD0.self (sz := s.heap.size)
  generalize hAe : va_A (((cW ad cs nc np op par X Y O PQ Wd pw pf pu ps) ++ va_pl LP (pG G)) ++ [(ao, .inl (co, 1, .inr (.inl (aL Fo))))]) s.heap.size = A at hD hXH ⊢
  have hA : ∀ q : Nat, s.heap.size ≤ q → A q := fun q h => by rw [← hAe]; exact Or.inr h
  have hS0 : va_S A s.heap s.heap [] := va_S.rf
  refine x_name (fun R Q H locs hR hQ hH hlo => ?_)
  rw [← hH] at hP
  have hS : va_S A s.heap H locs := by rw [hH, hlo]; exact hS0
  refine x_entry hargs (Nat.le_of_ble_eq_true rfl) (fun ls hl => ?_)
  have hl : lv_has ls 4 [(0, .ref (ad 0)), (1, .int (iI w)), (2, .ref ao)] := hl
  have hP : va_P (dC, dI) vwCl (((cW ad cs nc np op par X Y O PQ Wd pw pf pu ps) ++ va_pl LP (pG G)) ++ [(ao, .inl (co, 1, .inr (.inl (aL Fo))))]) H := hP
  obtain ⟨hXF, hNIAE, hNIOB⟩ := hXH
  refine lv_aload_n hx hb dW_extent_0 rfl (lv_at hl 2 rfl) ?_
  refine xi_iconst hx hb dW_extent_1 ?_
  refine lv_aload_n hx hb dW_extent_2 rfl (lv_at hl 0 rfl) ?_
  refine lv_iload_n hx hb dW_extent_3 rfl (lv_at hl 1 rfl) ?_
  have hPc := xs_L hP
  have hKc := hK.sub (tys' := cT cs) [0, 1, 2, 3, 4] rfl
  have hDc := xd_L hD
  have hFc := xs_fL hD hS hA
  refine vx_calli (SX := Unit) (vx_runV (As := [.int (iI w)]) (rest := [.int (iI 0), .ref ao]) ⟨hx, hb, hml, hown, hts⟩ (k_extent l hlt sa dC dI ad cs H.size LP G nc np op par X Y O PQ Wd pw pf pu ps w hop hG hw0 hnc) (cwV 1 hts (tb_V mlW_45 imC_extent seC_extent iniC coC_extent) rfl rfl rfl (by decide +kernel) (by subst hR; exact ⟨Nat.le_of_ble_eq_true rfl, Nat.le_of_ble_eq_true rfl⟩)) ⟨fun a9 U9 g9 mk9 q9 => by obtain ⟨q0, q1, qP, qK, qD, qF⟩ := q9; exact ⟨q0, q1, qP, va_K.moved (u := U9) (U := U9.calling g9 mk9 a9) (Vm.Alike.refl U9.vm) qK, qD, qF.calling g9 mk9 a9⟩, va_recv hKc hPc (ci := 2) (q0 := 0) rfl rfl, fun U hU hW => ⟨rfl, by rw [hU], by rw [hU]; exact hPc, va_K.moved hW.alike hKc, hDc.weaken (fun _ _ _ _ => trivial), (hXF.move hW (fun a h1 h2 => by rw [hU]; exact hS.2.1 a h1 h2)).narrow hFc⟩⟩ rfl rfl hl.1 rfl (lv_room (Nat.le_of_ble_eq_true rfl)) dW_extent_4 ⟨by subst hR; exact Nat.le_of_ble_eq_true rfl, by subst hR; exact Nat.le_of_ble_eq_true rfl⟩) hS (fun q9 _ h9 => hFc q9 h9) hFc (fun q9 _ h9 => hFc q9 h9) (fun E9 ce9 q9 u9 t9 H1 locs1 ht9 hvm9 hpx9 hB9 hz9 hk9 hS1 hce9 hcv9 hcl9 => ?_) (fun r_4 u_4 t9 H1 locs1 ht9 hvm9 hw_4 hB9 hz9 hk9 hS1 => ?_)
  · obtain ⟨hC9, hP9, hK9⟩ := hB9
    rw [ht9] at hP9
    have hP : va_P (dC, dI) vwCl (((cW ad cs nc np op par X Y O PQ Wd pw pf pu ps) ++ va_pl LP (pG G)) ++ [(ao, .inl (co, 1, .inr (.inl (aL Fo))))]) H1 := xs_PL hP hD hP9 hk9
    have hD : va_D A (((cW ad cs nc np op par X Y O PQ Wd pw pf pu ps) ++ va_pl LP (pG G)) ++ [(ao, .inl (co, 1, .inr (.inl (aL Fo))))]) := hD
    have hS := hS1
    clear hP9 hK9 hPc hKc hDc hFc hz9 hk9 ht9 hvm9 hS1
    rcases hC9 with ⟨hE9, hf9⟩ | ⟨hE9, hf9⟩
    · subst hE9
      refine vx_catch (own := RW) (name := IOB) (E := IOB) hown [] ⟨0, 9, 12, 33⟩ [⟨0, 9, 15, 15⟩] htab (fun z9 h9 => nomatch h9) rfl (by decide) (hts _ (List.mem_cons_of_mem _ clW_33)) (hXF.cast IOB (by decide +kernel)) hce9 hcv9 hcl9 ?_
      refine lv_astore_n (lv' := [(3, .ref q9), (0, .ref (ad 0)), (1, .int (iI w)), (2, .ref ao)]) hx hb dW_extent_12 rfl hl (by decide) rfl (fun ls hl => ?_)
      refine xi_iconst hx hb dW_extent_13 ?_
      subst hQ
      refine W.widen (k := 1) (n := 6) (by omega) (by omega) ?_
      exact W.iret (v := (iI 1)) hx hb hr (fun t9 ht9 hW9 => ⟨⟨_, (Wd, pw, pf, pu, ps, Fo), rfl, (⟨by rw [hf9], fun h => absurd h (by rw [hf9]; decide)⟩), by rw [ht9]; exact hP, va_K.moved hW9.alike hK, hD⟩, hS.F ht9⟩) hS.2.2 dW_extent_14
    · subst hE9
      refine vx_catch (own := RW) (name := ISE) (E := ISE) hown [⟨0, 9, 12, 33⟩] ⟨0, 9, 15, 15⟩ [] htab (fun z9 h9 => by rw [List.mem_singleton.mp h9]; exact Or.inr ⟨by decide, IOB, (hts _ (List.mem_cons_of_mem _ clW_33)), hNIOB⟩) rfl (by decide) (hts _ (List.mem_cons_of_mem _ clW_15)) (hXF.cast ISE (by decide +kernel)) hce9 hcv9 hcl9 ?_
      refine lv_astore_n (lv' := [(3, .ref q9), (0, .ref (ad 0)), (1, .int (iI w)), (2, .ref ao)]) hx hb dW_extent_15 rfl hl (by decide) rfl (fun ls hl => ?_)
      refine xi_iconst hx hb dW_extent_16 ?_
      subst hQ
      refine W.widen (k := 1) (n := 6) (by omega) (by omega) ?_
      exact W.iret (v := (iI 2)) hx hb hr (fun t9 ht9 hW9 => ⟨⟨_, (Wd, pw, pf, pu, ps, Fo), rfl, (⟨by rw [hf9], fun h => absurd h (by rw [hf9]; decide)⟩), by rw [ht9]; exact hP, va_K.moved hW9.alike hK, hD⟩, hS.F ht9⟩) hS.2.2 dW_extent_17
  · obtain ⟨hP1, hK1, hD1⟩ := hB9
    rw [ht9] at hP1
    obtain ⟨f9, z9, hr9, hzz⟩ := hw_4; subst hr9
    have hDn : va_D A (((cW ad cs nc np op par X Y O PQ Wd pw pf pu ps) ++ va_pl LP (pG G)) ++ [(ao, .inl (co, 1, .inr (.inl (aL Fo))))]) := xs_DL hP hD hD1 hFc
    have hP : va_P (dC, dI) vwCl (((cW ad cs nc np op par X Y O PQ Wd pw pf pu ps) ++ va_pl LP (pG G)) ++ [(ao, .inl (co, 1, .inr (.inl (aL Fo))))]) H1 := xs_PL hP hD hP1 hk9
    have hD := hDn
    have hS := hS1
    clear hDn hP1 hK1 hD1 hPc hKc hDc hFc hz9 hk9 ht9 hvm9 hS1
    have b9 := exC_bd hG hzz
    refine xl_i2l hx hb dW_extent_7 (by omega) ?_
    refine xa_last (z := 0) (v := z9) hx hb hK hP hD hS _ 5 xl_at rfl (by decide) (by omega) dW_extent_8 (fun H locs hP hD hS => ?_)
    rw [xl_set] at hP hD
    have hP : va_P (dC, dI) vwCl (((cW ad cs nc np op par X Y O PQ Wd pw pf pu ps) ++ va_pl LP (pG G)) ++ [(ao, .inl (co, 1, .inr (.inl (aL (up Fo 0 z9)))))]) H := hP
    have hD : va_D A (((cW ad cs nc np op par X Y O PQ Wd pw pf pu ps) ++ va_pl LP (pG G)) ++ [(ao, .inl (co, 1, .inr (.inl (aL (up Fo 0 z9)))))]) := hD
    refine lv_goto (tgt := 18) hx hb dW_extent_9 (by decide) ?_
    refine xi_iconst hx hb dW_extent_18 ?_
    subst hQ
    refine W.widen (k := 1) (n := 6) (by omega) (by omega) ?_
    exact W.iret (v := (iI 0)) hx hb hr (fun t9 ht9 hW9 => ⟨⟨_, (Wd, pw, pf, pu, ps, up Fo 0 z9), rfl, (⟨by rw [f9], fun _ => by (show exC _ _ _ _ (up Fo 0 z9 0); rw [up_s]; exact hzz)⟩), by rw [ht9]; exact hP, va_K.moved hW9.alike hK, hD⟩, hS.F ht9⟩) hS.2.2 dW_extent_19
