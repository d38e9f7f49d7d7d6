/-! the law: its calls, one by one -/
theorem xs_as {D : va_G} {cl : List vw_C} {a b c : va_W} {H : Heap} (h : va_P D cl ((a ++ b) ++ c) H) : va_P D cl (a ++ (b ++ c)) H := by rw [← List.append_assoc]; exact h
theorem xs_sa {D : va_G} {cl : List vw_C} {a b c : va_W} {H : Heap} (h : va_P D cl (a ++ (b ++ c)) H) : va_P D cl ((a ++ b) ++ c) H := by rw [List.append_assoc]; exact h
theorem xd_as {A : Nat → Prop} {a b c : va_W} (h : va_D A ((a ++ b) ++ c)) : va_D A (a ++ (b ++ c)) := by rw [← List.append_assoc]; exact h
theorem xd_sa {A : Nat → Prop} {a b c : va_W} (h : va_D A (a ++ (b ++ c))) : va_D A ((a ++ b) ++ c) := by rw [List.append_assoc]; exact h
/-- the script, as whole numbers -/
def sc (xs : Nat → Int32) (k : Int) : Int := (xs k.toNat).toInt
theorem sc_in (xs : Nat → Int32) (k : Int) : -2147483648 ≤ sc xs k ∧ sc xs k ≤ 2147483647 := by
  obtain ⟨z, hz, e⟩ := iI_of (xs k.toNat)
  unfold sc; rw [e, iI_toInt hz]; exact hz
theorem sc_at (xs : Nat → Int32) {k : Int} (h : 0 ≤ k ∧ k ≤ 2147483647) : xs (iI k).toNatClampNeg = iI (sc xs k) := by
  rw [iI_n h]
  obtain ⟨z, hz, e⟩ := iI_of (xs k.toNat)
  unfold sc; rw [e, iI_toInt hz]
theorem vp_ini {k : Int} {L : Nat} (h : 0 ≤ k ∧ k < (L : Int)) (hL : L ≤ 2048) : vp_in (iI k) L := by
  have : iI k = nI k.toNat := by rw [iI_nI, Int.toNat_of_nonneg h.1]
  rw [this]; exact vp_in_nI (by omega) (by omega)
theorem lN_tb (n : Nat) : -9223372036854775808 ≤ (lN n).toInt ∧ (lN n).toInt ≤ 9223372036854775807 := by
  obtain ⟨z, hz, e⟩ := lI_of (lN n)
  rw [e, lI_toInt hz]; exact hz
/-- where the calls of the law come together -/
def LJoin (p : Program) (l : Launch) (e : Env) (R : Room) (s : State) (m : MethodId) (args : Array Value) (below : List Frame) (meth : Method) (c : Code) (Q : State → Prop) (A : Nat → Prop) (dC : Nat → ClassId) (dI : Nat → Nat → Nat) (ad am : Nat → Nat) (cs cm : Nat → ClassId) (ao : Nat) (co : ClassId) (b : Nat) (i : Int) (K N : Nat) : Prop :=
  ∀ (LP : List Nat) (G : Nat → PD) (nc np : Int) (par : Bool) (X Y : Int → Int) (O : Int → Bool) (E : Int → Int) (PQ : Int → Option Nat) (Wd : Int → Int) (pw pf pu ps : Int) (Fo : Int → Int) (ft rs npc hi lo : Int) (RX RY : Int → Int) (RO : Int → Bool) (PC : Int → Int) (CV : Int → Bool) (k9 n9 : Nat) (H : Heap) (locs : List Loc) (ls : Array Slot), k9 ≤ K + 512 → n9 ≤ N + 5632 → cInv LP G PQ X Y O E nc → lInv X Y E nc np → va_P (dC, dI) vwCl ((((cW ad cs nc np (clo nc E) par X Y O PQ Wd pw pf pu ps) ++ va_pl LP (pG G)) ++ [(ao, .inl (co, 1, .inr (.inl (aL Fo))))]) ++ (mW am cm ft par np nc rs npc hi lo X Y O E RX RY RO PC CV)) H → va_D A ((((cW ad cs nc np (clo nc E) par X Y O PQ Wd pw pf pu ps) ++ va_pl LP (pG G)) ++ [(ao, .inl (co, 1, .inr (.inl (aL Fo))))]) ++ (mW am cm ft par np nc rs npc hi lo X Y O E RX RY RO PC CV)) → va_S A s.heap H locs → lv_has ls 8 [(0, .ref b), (1, .ref (ad 0)), (2, .ref (am 0)), (3, .ref ao), (4, .int (iI i))] → W p l e R s m args below meth c H locs k9 n9 Q (F0 m 783 ls [])

set_option maxHeartbeats 4000000 in
set_option maxRecDepth 100000 in
theorem law_2 (l : Launch) (hlt : l.stackTraces = false) {p : Program} {e : Env} {R : Room} {s : State} {m : MethodId} {args : Array Value} {below : List Frame} {meth : Method} {c : Code} {Q : State → Prop} {A : Nat → Prop} {dC : Nat → ClassId} {dI : Nat → Nat → Nat} {ad am : Nat → Nat} {cs cm : Nat → ClassId} {ao : Nat} {co : ClassId} {b L : Nat} {xs : Nat → Int32} {sa : Nat → Nat} (hx : p.tables.exec = Jvm.exec) (hb : c.code = cW_law) (hml : c.maxLocals = 8) (hown : s.vm.findClass RW = some m.cls) (hts : ∀ w ∈ Cond.initialized RW :: TB, w.before args s = true) (hX : va_X b L xs s s.heap) (hbl : b < s.heap.size) (hA : ∀ q : Nat, s.heap.size ≤ q → A q) (hbA : ¬ A b) (hXH : xHk A sa s) (hK : va_K (dC, dI) vwCl ((cT cs ++ [(co, .long)]) ++ mT cm) s) (hR : R = room_1) (hLL : L ≤ 2048) {i : Int} (hi4 : 0 ≤ i ∧ i + 4 ≤ (L : Int)) {K N : Nat} (hKN : K + 512 ≤ R.cells ∧ N + 5632 ≤ R.slots) (hj : LJoin p l e R s m args below meth c Q A dC dI ad am cs cm ao co b i K N) (LP : List Nat) (G : Nat → PD) (nc np : Int) (par : Bool) (X Y : Int → Int) (O : Int → Bool) (E : Int → Int) (PQ : Int → Option Nat) (Wd : Int → Int) (pw pf pu ps : Int) (Fo : Int → Int) (ft rs npc hi lo : Int) (RX RY : Int → Int) (RO : Int → Bool) (PC : Int → Int) (CV : Int → Bool) {H : Heap} {locs : List Loc} {ls : Array Slot} (hI : cInv LP G PQ X Y O E nc) (hL : lInv X Y E nc np) (hP : va_P (dC, dI) vwCl ((((cW ad cs nc np (clo nc E) par X Y O PQ Wd pw pf pu ps) ++ va_pl LP (pG G)) ++ [(ao, .inl (co, 1, .inr (.inl (aL Fo))))]) ++ (mW am cm ft par np nc rs npc hi lo X Y O E RX RY RO PC CV)) H) (hD : va_D A ((((cW ad cs nc np (clo nc E) par X Y O PQ Wd pw pf pu ps) ++ va_pl LP (pG G)) ++ [(ao, .inl (co, 1, .inr (.inl (aL Fo))))]) ++ (mW am cm ft par np nc rs npc hi lo X Y O E RX RY RO PC CV))) (hS : va_S A s.heap H locs) (hl : lv_has ls 8 [(0, .ref b), (1, .ref (ad 0)), (2, .ref (am 0)), (3, .ref ao), (4, .int (iI i))]) : W p l e R s m args below meth c H locs K N Q (F0 m 244 ls []) := by
  have hLi := hL.1
  have hL3 := hL.2.2.1
  have hok := inv_ok hI hL
  refine lv_aload_n hx hb dW_law_244 rfl (lv_at hl 1 rfl) ?_
  have hPa := xs_as hP
  have hDa := xd_as hD
  have hPc := xs_L hPa
  have hKc := hK.sub (tys' := cT cs) [0, 1, 2, 3, 4] rfl
  have hDc := xd_L hDa
  have hFc := xs_fL hDa hS hA
  refine va_calli (va_runV (As := []) (rest := []) ⟨hx, hb, hml, hown, hts⟩ (k_drop l dC dI ad cs H.size LP G nc np (clo nc E) par X Y O PQ Wd pw pf pu ps ) (cwV 0 hts (tb_V mlW_65 imC_drop seC_drop iniC coC_drop) rfl rfl rfl (by decide +kernel) (by subst hR; exact ⟨Nat.le_of_ble_eq_true rfl, Nat.le_of_ble_eq_true rfl⟩)) ⟨fun a9 U9 g9 mk9 q9 => by obtain ⟨q0, q1, qP, qK, qD⟩ := q9; exact ⟨q0, q1, qP, va_K.moved (u := U9) (U := U9.calling g9 mk9 a9) (Vm.Alike.refl U9.vm) qK, qD⟩, va_recv hKc hPc (ci := 2) (q0 := 0) rfl rfl, fun U hU hW => ⟨rfl, by rw [hU], by rw [hU]; exact hPc, va_K.moved hW.alike hKc, hDc.weaken (fun _ _ _ _ => trivial)⟩⟩ rfl rfl hl.1 rfl (lv_room (Nat.le_of_ble_eq_true rfl)) dW_law_245 ⟨by omega, by omega⟩) hS (fun q9 _ h9 => hFc q9 h9) hFc (fun r_245 u_245 t9 H1 locs1 ht9 hvm9 hw_245 hB9 hz9 hk9 hS1 => ?_)
  obtain ⟨hP1, hK1, hD1⟩ := hB9
  rw [ht9] at hP1
  have hDn : va_D A ((((cW ad cs nc (clo nc E) (clo nc E) par X Y O PQ Wd pw pf pu ps) ++ va_pl LP (pG G)) ++ [(ao, .inl (co, 1, .inr (.inl (aL Fo))))]) ++ (mW am cm ft par np nc rs npc hi lo X Y O E RX RY RO PC CV)) := xd_sa (xs_DL hPa hDa hD1 hFc)
  have hP : va_P (dC, dI) vwCl ((((cW ad cs nc (clo nc E) (clo nc E) par X Y O PQ Wd pw pf pu ps) ++ va_pl LP (pG G)) ++ [(ao, .inl (co, 1, .inr (.inl (aL Fo))))]) ++ (mW am cm ft par np nc rs npc hi lo X Y O E RX RY RO PC CV)) H1 := xs_sa (xs_PL hPa hDa hP1 hk9)
  clear hPa hDa
  have hD := hDn
  have hS := hS1
  clear hDn hP1 hK1 hD1 hPc hKc hDc hFc hz9 hk9 ht9 hvm9 hS1
  revert hP hD hS; generalize H1 = H; generalize locs1 = locs; intro hP hD hS
  obtain ⟨hr_245, hw_245⟩ := hw_245; subst hr_245
  refine lv_aload_n hx hb dW_law_248 rfl (lv_at hl 2 rfl) ?_
  have hPc := xs_R hP
  have hKc := hK.sub (tys' := mT cm) [6, 7, 8, 9, 10, 11, 12, 13, 14] rfl
  have hDc := xd_R hD
  have hFc := xs_fR hD hS hA
  refine va_calli (va_runV (As := []) (rest := [.int (iI (np - clo nc E))]) ⟨hx, hb, hml, hown, hts⟩ (m_drop l dC dI am cm H.size ft par np nc rs npc hi lo X Y O E RX RY RO PC CV hLi) (cwV 0 hts (tb_V mlW_68 imM_drop seM_drop iniM coM_drop) rfl rfl rfl (by decide +kernel) (by subst hR; exact ⟨Nat.le_of_ble_eq_true rfl, Nat.le_of_ble_eq_true rfl⟩)) ⟨fun a9 U9 g9 mk9 q9 => by obtain ⟨q0, q1, qP, qK, qD⟩ := q9; exact ⟨q0, q1, qP, va_K.moved (u := U9) (U := U9.calling g9 mk9 a9) (Vm.Alike.refl U9.vm) qK, qD⟩, va_recv hKc hPc (ci := 3) (q0 := 0) rfl rfl, fun U hU hW => ⟨rfl, by rw [hU], by rw [hU]; exact hPc, va_K.moved hW.alike hKc, hDc.weaken (fun _ _ _ _ => trivial)⟩⟩ rfl rfl hl.1 rfl (lv_room (Nat.le_of_ble_eq_true rfl)) dW_law_249 ⟨by omega, by omega⟩) hS (fun q9 _ h9 => hFc q9 h9) hFc (fun r_249 v_249 t9 H1 locs1 ht9 hvm9 hw_249 hB9 hz9 hk9 hS1 => ?_)
  obtain ⟨hP1, hK1, hD1⟩ := hB9
  rw [ht9] at hP1
  have hDn : va_D A ((((cW ad cs nc (clo nc E) (clo nc E) par X Y O PQ Wd pw pf pu ps) ++ va_pl LP (pG G)) ++ [(ao, .inl (co, 1, .inr (.inl (aL Fo))))]) ++ (mW am cm 0 par (clo nc E) nc rs npc hi lo X Y O E RX RY RO PC CV)) := xs_DR hP hD hD1 hFc
  have hP : va_P (dC, dI) vwCl ((((cW ad cs nc (clo nc E) (clo nc E) par X Y O PQ Wd pw pf pu ps) ++ va_pl LP (pG G)) ++ [(ao, .inl (co, 1, .inr (.inl (aL Fo))))]) ++ (mW am cm 0 par (clo nc E) nc rs npc hi lo X Y O E RX RY RO PC CV)) H1 := xs_PR hP hD hP1 hk9
  have hD := hDn
  have hS := hS1
  clear hDn hP1 hK1 hD1 hPc hKc hDc hFc hz9 hk9 ht9 hvm9 hS1
  revert hP hD hS; generalize H1 = H; generalize locs1 = locs; intro hP hD hS
  obtain ⟨hr_249, -⟩ := hw_249; subst hr_249
  refine lv_icmp_eq (tgt := 783) hx hb dW_law_252 (by decide) (fun _ => ?_) (fun c9 => absurd rfl c9)
  exact hj LP G nc (clo nc E) par X Y O E PQ Wd pw pf pu ps Fo 0 rs npc hi lo RX RY RO PC CV _ _ _ _ _ (by omega) (by omega) (inv_drop hI hL).1 (inv_drop hI hL).2 hP hD hS (lv_sub hl [0, 1, 2, 3, 4] rfl)
set_option maxHeartbeats 4000000 in
set_option maxRecDepth 100000 in
theorem law_3 (l : Launch) (hlt : l.stackTraces = false) {p : Program} {e : Env} {R : Room} {s : State} {m : MethodId} {args : Array Value} {below : List Frame} {meth : Method} {c : Code} {Q : State → Prop} {A : Nat → Prop} {dC : Nat → ClassId} {dI : Nat → Nat → Nat} {ad am : Nat → Nat} {cs cm : Nat → ClassId} {ao : Nat} {co : ClassId} {b L : Nat} {xs : Nat → Int32} {sa : Nat → Nat} (hx : p.tables.exec = Jvm.exec) (hb : c.code = cW_law) (hml : c.maxLocals = 8) (hown : s.vm.findClass RW = some m.cls) (hts : ∀ w ∈ Cond.initialized RW :: TB, w.before args s = true) (hX : va_X b L xs s s.heap) (hbl : b < s.heap.size) (hA : ∀ q : Nat, s.heap.size ≤ q → A q) (hbA : ¬ A b) (hXH : xHk A sa s) (hK : va_K (dC, dI) vwCl ((cT cs ++ [(co, .long)]) ++ mT cm) s) (hR : R = room_1) (hLL : L ≤ 2048) {i : Int} (hi4 : 0 ≤ i ∧ i + 4 ≤ (L : Int)) {K N : Nat} (hKN : K + 512 ≤ R.cells ∧ N + 5632 ≤ R.slots) (hj : LJoin p l e R s m args below meth c Q A dC dI ad am cs cm ao co b i K N) (LP : List Nat) (G : Nat → PD) (nc np : Int) (par : Bool) (X Y : Int → Int) (O : Int → Bool) (E : Int → Int) (PQ : Int → Option Nat) (Wd : Int → Int) (pw pf pu ps : Int) (Fo : Int → Int) (ft rs npc hi lo : Int) (RX RY : Int → Int) (RO : Int → Bool) (PC : Int → Int) (CV : Int → Bool) {H : Heap} {locs : List Loc} {ls : Array Slot} (hI : cInv LP G PQ X Y O E nc) (hL : lInv X Y E nc np) (hP : va_P (dC, dI) vwCl ((((cW ad cs nc np (clo nc E) par X Y O PQ Wd pw pf pu ps) ++ va_pl LP (pG G)) ++ [(ao, .inl (co, 1, .inr (.inl (aL Fo))))]) ++ (mW am cm ft par np nc rs npc hi lo X Y O E RX RY RO PC CV)) H) (hD : va_D A ((((cW ad cs nc np (clo nc E) par X Y O PQ Wd pw pf pu ps) ++ va_pl LP (pG G)) ++ [(ao, .inl (co, 1, .inr (.inl (aL Fo))))]) ++ (mW am cm ft par np nc rs npc hi lo X Y O E RX RY RO PC CV))) (hS : va_S A s.heap H locs) (hl : lv_has ls 8 [(0, .ref b), (1, .ref (ad 0)), (2, .ref (am 0)), (3, .ref ao), (4, .int (iI i))]) : W p l e R s m args below meth c H locs K N Q (F0 m 257 ls []) := by
  have hLi := hL.1
  have hL3 := hL.2.2.1
  have hok := inv_ok hI hL
  refine lv_aload_n hx hb dW_law_257 rfl (lv_at hl 1 rfl) ?_
  have hPa := xs_as hP
  have hDa := xd_as hD
  have hPc := xs_L hPa
  have hKc := hK.sub (tys' := cT cs) [0, 1, 2, 3, 4] rfl
  have hDc := xd_L hDa
  have hFc := xs_fL hDa hS hA
  refine va_calli (va_runV (As := []) (rest := []) ⟨hx, hb, hml, hown, hts⟩ (k_clear l dC dI ad cs H.size LP G nc np (clo nc E) par X Y O PQ Wd pw pf pu ps ) (cwV 0 hts (tb_V mlW_69 imC_clear seC_clear iniC coC_clear) rfl rfl rfl (by decide +kernel) (by subst hR; exact ⟨Nat.le_of_ble_eq_true rfl, Nat.le_of_ble_eq_true rfl⟩)) ⟨fun a9 U9 g9 mk9 q9 => by obtain ⟨q0, q1, qP, qK, qD⟩ := q9; exact ⟨q0, q1, qP, va_K.moved (u := U9) (U := U9.calling g9 mk9 a9) (Vm.Alike.refl U9.vm) qK, qD⟩, va_recv hKc hPc (ci := 2) (q0 := 0) rfl rfl, fun U hU hW => ⟨rfl, by rw [hU], by rw [hU]; exact hPc, va_K.moved hW.alike hKc, hDc.weaken (fun _ _ _ _ => trivial)⟩⟩ rfl rfl hl.1 rfl (lv_room (Nat.le_of_ble_eq_true rfl)) dW_law_258 ⟨by omega, by omega⟩) hS (fun q9 _ h9 => hFc q9 h9) hFc (fun r_258 u_258 t9 H1 locs1 ht9 hvm9 hw_258 hB9 hz9 hk9 hS1 => ?_)
  obtain ⟨hP1, hK1, hD1⟩ := hB9
  rw [ht9] at hP1
  have hDn : va_D A ((((cW ad cs 0 0 (clo 0 E) par X Y O PQ Wd pw pf pu ps) ++ va_pl LP (pG G)) ++ [(ao, .inl (co, 1, .inr (.inl (aL Fo))))]) ++ (mW am cm ft par np nc rs npc hi lo X Y O E RX RY RO PC CV)) := xd_sa (xs_DL hPa hDa hD1 hFc)
  have hP : va_P (dC, dI) vwCl ((((cW ad cs 0 0 (clo 0 E) par X Y O PQ Wd pw pf pu ps) ++ va_pl LP (pG G)) ++ [(ao, .inl (co, 1, .inr (.inl (aL Fo))))]) ++ (mW am cm ft par np nc rs npc hi lo X Y O E RX RY RO PC CV)) H1 := xs_sa (xs_PL hPa hDa hP1 hk9)
  clear hPa hDa
  have hD := hDn
  have hS := hS1
  clear hDn hP1 hK1 hD1 hPc hKc hDc hFc hz9 hk9 ht9 hvm9 hS1
  revert hP hD hS; generalize H1 = H; generalize locs1 = locs; intro hP hD hS
  obtain ⟨hr_258, hw_258⟩ := hw_258; subst hr_258
  refine lv_aload_n hx hb dW_law_261 rfl (lv_at hl 2 rfl) ?_
  have hPc := xs_R hP
  have hKc := hK.sub (tys' := mT cm) [6, 7, 8, 9, 10, 11, 12, 13, 14] rfl
  have hDc := xd_R hD
  have hFc := xs_fR hD hS hA
  refine va_calli (va_runV (As := []) (rest := [.int (iI nc)]) ⟨hx, hb, hml, hown, hts⟩ (m_clear l dC dI am cm H.size ft par np nc rs npc hi lo X Y O E RX RY RO PC CV ) (cwV 0 hts (tb_V mlW_72 imM_clear seM_clear iniM coM_clear) rfl rfl rfl (by decide +kernel) (by subst hR; exact ⟨Nat.le_of_ble_eq_true rfl, Nat.le_of_ble_eq_true rfl⟩)) ⟨fun a9 U9 g9 mk9 q9 => by obtain ⟨q0, q1, qP, qK, qD⟩ := q9; exact ⟨q0, q1, qP, va_K.moved (u := U9) (U := U9.calling g9 mk9 a9) (Vm.Alike.refl U9.vm) qK, qD⟩, va_recv hKc hPc (ci := 3) (q0 := 0) rfl rfl, fun U hU hW => ⟨rfl, by rw [hU], by rw [hU]; exact hPc, va_K.moved hW.alike hKc, hDc.weaken (fun _ _ _ _ => trivial)⟩⟩ rfl rfl hl.1 rfl (lv_room (Nat.le_of_ble_eq_true rfl)) dW_law_262 ⟨by omega, by omega⟩) hS (fun q9 _ h9 => hFc q9 h9) hFc (fun r_262 v_262 t9 H1 locs1 ht9 hvm9 hw_262 hB9 hz9 hk9 hS1 => ?_)
  obtain ⟨hP1, hK1, hD1⟩ := hB9
  rw [ht9] at hP1
  have hDn : va_D A ((((cW ad cs 0 0 (clo 0 E) par X Y O PQ Wd pw pf pu ps) ++ va_pl LP (pG G)) ++ [(ao, .inl (co, 1, .inr (.inl (aL Fo))))]) ++ (mW am cm 0 par 0 0 rs npc hi lo X Y O E RX RY RO PC CV)) := xs_DR hP hD hD1 hFc
  have hP : va_P (dC, dI) vwCl ((((cW ad cs 0 0 (clo 0 E) par X Y O PQ Wd pw pf pu ps) ++ va_pl LP (pG G)) ++ [(ao, .inl (co, 1, .inr (.inl (aL Fo))))]) ++ (mW am cm 0 par 0 0 rs npc hi lo X Y O E RX RY RO PC CV)) H1 := xs_PR hP hD hP1 hk9
  have hD := hDn
  have hS := hS1
  clear hDn hP1 hK1 hD1 hPc hKc hDc hFc hz9 hk9 ht9 hvm9 hS1
  revert hP hD hS; generalize H1 = H; generalize locs1 = locs; intro hP hD hS
  obtain ⟨hr_262, -⟩ := hw_262; subst hr_262
  refine lv_icmp_eq (tgt := 783) hx hb dW_law_265 (by decide) (fun _ => ?_) (fun c9 => absurd rfl c9)
  exact hj LP G 0 0 par X Y O E PQ Wd pw pf pu ps Fo 0 rs npc hi lo RX RY RO PC CV _ _ _ _ _ (by omega) (by omega) (inv_0 (LP := LP) (G := G) (PQ := PQ) (X := X) (Y := Y) (O := O) (E := E)).1 (inv_0 (LP := LP) (G := G) (PQ := PQ) (X := X) (Y := Y) (O := O) (E := E)).2 hP hD hS (lv_sub hl [0, 1, 2, 3, 4] rfl)
set_option maxHeartbeats 4000000 in
set_option maxRecDepth 100000 in
theorem law_5 (l : Launch) (hlt : l.stackTraces = false) {p : Program} {e : Env} {R : Room} {s : State} {m : MethodId} {args : Array Value} {below : List Frame} {meth : Method} {c : Code} {Q : State → Prop} {A : Nat → Prop} {dC : Nat → ClassId} {dI : Nat → Nat → Nat} {ad am : Nat → Nat} {cs cm : Nat → ClassId} {ao : Nat} {co : ClassId} {b L : Nat} {xs : Nat → Int32} {sa : Nat → Nat} (hx : p.tables.exec = Jvm.exec) (hb : c.code = cW_law) (hml : c.maxLocals = 8) (hown : s.vm.findClass RW = some m.cls) (hts : ∀ w ∈ Cond.initialized RW :: TB, w.before args s = true) (hX : va_X b L xs s s.heap) (hbl : b < s.heap.size) (hA : ∀ q : Nat, s.heap.size ≤ q → A q) (hbA : ¬ A b) (hXH : xHk A sa s) (hK : va_K (dC, dI) vwCl ((cT cs ++ [(co, .long)]) ++ mT cm) s) (hR : R = room_1) (hLL : L ≤ 2048) {i : Int} (hi4 : 0 ≤ i ∧ i + 4 ≤ (L : Int)) {K N : Nat} (hKN : K + 512 ≤ R.cells ∧ N + 5632 ≤ R.slots) (hj : LJoin p l e R s m args below meth c Q A dC dI ad am cs cm ao co b i K N) (LP : List Nat) (G : Nat → PD) (nc np : Int) (par : Bool) (X Y : Int → Int) (O : Int → Bool) (E : Int → Int) (PQ : Int → Option Nat) (Wd : Int → Int) (pw pf pu ps : Int) (Fo : Int → Int) (ft rs npc hi lo : Int) (RX RY : Int → Int) (RO : Int → Bool) (PC : Int → Int) (CV : Int → Bool) {H : Heap} {locs : List Loc} {ls : Array Slot} (hI : cInv LP G PQ X Y O E nc) (hL : lInv X Y E nc np) (hP : va_P (dC, dI) vwCl ((((cW ad cs nc np (clo nc E) par X Y O PQ Wd pw pf pu ps) ++ va_pl LP (pG G)) ++ [(ao, .inl (co, 1, .inr (.inl (aL Fo))))]) ++ (mW am cm ft par np nc rs npc hi lo X Y O E RX RY RO PC CV)) H) (hD : va_D A ((((cW ad cs nc np (clo nc E) par X Y O PQ Wd pw pf pu ps) ++ va_pl LP (pG G)) ++ [(ao, .inl (co, 1, .inr (.inl (aL Fo))))]) ++ (mW am cm ft par np nc rs npc hi lo X Y O E RX RY RO PC CV))) (hS : va_S A s.heap H locs) (hl : lv_has ls 8 [(0, .ref b), (1, .ref (ad 0)), (2, .ref (am 0)), (3, .ref ao), (4, .int (iI i))]) : W p l e R s m args below meth c H locs K N Q (F0 m 318 ls []) := by
  have hLi := hL.1
  have hL3 := hL.2.2.1
  have hok := inv_ok hI hL
  refine lv_aload_n hx hb dW_law_318 rfl (lv_at hl 1 rfl) ?_
  have cut_333_1 : ∀ (ls : Array Slot), lv_has ls 8 [(0, .ref b), (1, .ref (ad 0)), (2, .ref (am 0)), (3, .ref ao), (4, .int (iI i))] → W p l e R s m args below meth c H locs K N Q (F0 m 333 ls [.int (iI (bz (decide (sc xs (i + 1) ≠ 0)))), .ref (ad 0)]) := by
    intro  ls hl
    have hPa := xs_as hP
    have hDa := xd_as hD
    have hPc := xs_L hPa
    have hKc := hK.sub (tys' := cT cs) [0, 1, 2, 3, 4] rfl
    have hDc := xd_L hDa
    have hFc := xs_fL hDa hS hA
    refine va_calli (va_runV (As := [.int (iI (bz (decide (sc xs (i + 1) ≠ 0))))]) (rest := []) ⟨hx, hb, hml, hown, hts⟩ (k_parity l dC dI ad cs H.size LP G nc np (clo nc E) par X Y O PQ Wd pw pf pu ps (decide (sc xs (i + 1) ≠ 0))) (cwV 1 hts (tb_V mlW_77 imC_parity seC_parity iniC coC_parity) rfl rfl rfl (by decide +kernel) (by subst hR; exact ⟨Nat.le_of_ble_eq_true rfl, Nat.le_of_ble_eq_true rfl⟩)) ⟨fun a9 U9 g9 mk9 q9 => by obtain ⟨q0, q1, qP, qK, qD⟩ := q9; exact ⟨q0, q1, qP, va_K.moved (u := U9) (U := U9.calling g9 mk9 a9) (Vm.Alike.refl U9.vm) qK, qD⟩, va_recv hKc hPc (ci := 2) (q0 := 0) rfl rfl, fun U hU hW => ⟨rfl, by rw [hU], by rw [hU]; exact hPc, va_K.moved hW.alike hKc, hDc.weaken (fun _ _ _ _ => trivial)⟩⟩ rfl rfl hl.1 rfl (lv_room (Nat.le_of_ble_eq_true rfl)) dW_law_333 ⟨by omega, by omega⟩) hS (fun q9 _ h9 => hFc q9 h9) hFc (fun r_333 u_333 t9 H1 locs1 ht9 hvm9 hw_333 hB9 hz9 hk9 hS1 => ?_)
    obtain ⟨hP1, hK1, hD1⟩ := hB9
    rw [ht9] at hP1
    have hDn : va_D A ((((cW ad cs nc np (clo nc E) (decide (sc xs (i + 1) ≠ 0)) X Y O PQ Wd pw pf pu ps) ++ va_pl LP (pG G)) ++ [(ao, .inl (co, 1, .inr (.inl (aL Fo))))]) ++ (mW am cm ft par np nc rs npc hi lo X Y O E RX RY RO PC CV)) := xd_sa (xs_DL hPa hDa hD1 hFc)
    have hP : va_P (dC, dI) vwCl ((((cW ad cs nc np (clo nc E) (decide (sc xs (i + 1) ≠ 0)) X Y O PQ Wd pw pf pu ps) ++ va_pl LP (pG G)) ++ [(ao, .inl (co, 1, .inr (.inl (aL Fo))))]) ++ (mW am cm ft par np nc rs npc hi lo X Y O E RX RY RO PC CV)) H1 := xs_sa (xs_PL hPa hDa hP1 hk9)
    clear hPa hDa
    have hD := hDn
    have hS := hS1
    clear hDn hP1 hK1 hD1 hPc hKc hDc hFc hz9 hk9 ht9 hvm9 hS1
    revert hP hD hS; generalize H1 = H; generalize locs1 = locs; intro hP hD hS
    obtain ⟨hr_333, hw_333⟩ := hw_333; subst hr_333
    refine lv_aload_n hx hb dW_law_336 rfl (lv_at hl 2 rfl) ?_
    have cut_351_2 : ∀ (ls : Array Slot), lv_has ls 8 [(0, .ref b), (1, .ref (ad 0)), (2, .ref (am 0)), (3, .ref ao), (4, .int (iI i))] → W p l e R s m args below meth c H locs K N Q (F0 m 351 ls [.int (iI (bz (decide (sc xs (i + 1) ≠ 0)))), .ref (am 0), .int (iI (bz par))]) := by
      intro  ls hl
      have hPc := xs_R hP
      have hKc := hK.sub (tys' := mT cm) [6, 7, 8, 9, 10, 11, 12, 13, 14] rfl
      have hDc := xd_R hD
      have hFc := xs_fR hD hS hA
      refine va_calli (va_runV (As := [.int (iI (bz (decide (sc xs (i + 1) ≠ 0))))]) (rest := [.int (iI (bz par))]) ⟨hx, hb, hml, hown, hts⟩ (m_parity l dC dI am cm H.size ft par np nc rs npc hi lo X Y O E RX RY RO PC CV (decide (sc xs (i + 1) ≠ 0))) (cwV 1 hts (tb_V mlW_81 imM_parity seM_parity iniM coM_parity) rfl rfl rfl (by decide +kernel) (by subst hR; exact ⟨Nat.le_of_ble_eq_true rfl, Nat.le_of_ble_eq_true rfl⟩)) ⟨fun a9 U9 g9 mk9 q9 => by obtain ⟨q0, q1, qP, qK, qD⟩ := q9; exact ⟨q0, q1, qP, va_K.moved (u := U9) (U := U9.calling g9 mk9 a9) (Vm.Alike.refl U9.vm) qK, qD⟩, va_recv hKc hPc (ci := 3) (q0 := 0) rfl rfl, fun U hU hW => ⟨rfl, by rw [hU], by rw [hU]; exact hPc, va_K.moved hW.alike hKc, hDc.weaken (fun _ _ _ _ => trivial)⟩⟩ rfl rfl hl.1 rfl (lv_room (Nat.le_of_ble_eq_true rfl)) dW_law_351 ⟨by omega, by omega⟩) hS (fun q9 _ h9 => hFc q9 h9) hFc (fun r_351 v_351 t9 H1 locs1 ht9 hvm9 hw_351 hB9 hz9 hk9 hS1 => ?_)
      obtain ⟨hP1, hK1, hD1⟩ := hB9
      rw [ht9] at hP1
      have hDn : va_D A ((((cW ad cs nc np (clo nc E) (decide (sc xs (i + 1) ≠ 0)) X Y O PQ Wd pw pf pu ps) ++ va_pl LP (pG G)) ++ [(ao, .inl (co, 1, .inr (.inl (aL Fo))))]) ++ (mW am cm 0 (decide (sc xs (i + 1) ≠ 0)) np nc rs npc hi lo X Y O E RX RY RO PC CV)) := xs_DR hP hD hD1 hFc
      have hP : va_P (dC, dI) vwCl ((((cW ad cs nc np (clo nc E) (decide (sc xs (i + 1) ≠ 0)) X Y O PQ Wd pw pf pu ps) ++ va_pl LP (pG G)) ++ [(ao, .inl (co, 1, .inr (.inl (aL Fo))))]) ++ (mW am cm 0 (decide (sc xs (i + 1) ≠ 0)) np nc rs npc hi lo X Y O E RX RY RO PC CV)) H1 := xs_PR hP hD hP1 hk9
      have hD := hDn
      have hS := hS1
      clear hDn hP1 hK1 hD1 hPc hKc hDc hFc hz9 hk9 ht9 hvm9 hS1
      revert hP hD hS; generalize H1 = H; generalize locs1 = locs; intro hP hD hS
      obtain ⟨hr_351, -⟩ := hw_351; subst hr_351
      refine lv_icmp_eq (tgt := 783) hx hb dW_law_354 (by decide) (fun _ => ?_) (fun c9 => absurd rfl c9)
      exact hj LP G nc np (decide (sc xs (i + 1) ≠ 0)) X Y O E PQ Wd pw pf pu ps Fo 0 rs npc hi lo RX RY RO PC CV _ _ _ _ _ (by omega) (by omega) ((show cInv LP G PQ X Y O E nc ∧ lInv X Y E nc np from ⟨hI, hL⟩)).1 ((show cInv LP G PQ X Y O E nc ∧ lInv X Y E nc np from ⟨hI, hL⟩)).2 hP hD hS (lv_sub hl [0, 1, 2, 3, 4] rfl)
    refine lv_aload_n hx hb dW_law_337 rfl (lv_at hl 0 rfl) ?_
    refine lv_iload hx hb dW_law_338 (lv_at hl 4 rfl) ?_
    refine xi_iconst hx hb dW_law_340 ?_
    refine xi_add (z := i + 1) hx hb dW_law_341 rfl ?_
    refine va_sld hx hb hX hbl hbA hS (vp_ini (by omega) hLL) dW_law_342 ?_
    refine xi_top (y := .int (iI (sc xs (i + 1)))) (by rw [sc_at xs (by omega)]) ?_
    refine xi_if_eq (tgt := 350) hx hb dW_law_343 (by decide) (sc_in xs _) (fun c_343 => ?_) (fun c_343 => ?_)
    · skip
      refine xi_iconst hx hb dW_law_350 ?_
      refine xi_top (y := .int (iI (bz (decide (sc xs (i + 1) ≠ 0))))) (by rw [decide_eq_false (fun h9 => h9 c_343)]; rfl) ?_
      exact cut_351_2 _ (lv_sub hl [0, 1, 2, 3, 4] rfl)
    · skip
      refine xi_iconst hx hb dW_law_346 ?_
      refine lv_goto (tgt := 351) hx hb dW_law_347 (by decide) ?_
      refine xi_top (y := .int (iI (bz (decide (sc xs (i + 1) ≠ 0))))) (by rw [decide_eq_true c_343]; rfl) ?_
      exact cut_351_2 _ (lv_sub hl [0, 1, 2, 3, 4] rfl)
  refine lv_aload_n hx hb dW_law_319 rfl (lv_at hl 0 rfl) ?_
  refine lv_iload hx hb dW_law_320 (lv_at hl 4 rfl) ?_
  refine xi_iconst hx hb dW_law_322 ?_
  refine xi_add (z := i + 1) hx hb dW_law_323 rfl ?_
  refine va_sld hx hb hX hbl hbA hS (vp_ini (by omega) hLL) dW_law_324 ?_
  refine xi_top (y := .int (iI (sc xs (i + 1)))) (by rw [sc_at xs (by omega)]) ?_
  refine xi_if_eq (tgt := 332) hx hb dW_law_325 (by decide) (sc_in xs _) (fun c_325 => ?_) (fun c_325 => ?_)
  · skip
    refine xi_iconst hx hb dW_law_332 ?_
    refine xi_top (y := .int (iI (bz (decide (sc xs (i + 1) ≠ 0))))) (by rw [decide_eq_false (fun h9 => h9 c_325)]; rfl) ?_
    exact cut_333_1 _ (lv_sub hl [0, 1, 2, 3, 4] rfl)
  · skip
    refine xi_iconst hx hb dW_law_328 ?_
    refine lv_goto (tgt := 333) hx hb dW_law_329 (by decide) ?_
    refine xi_top (y := .int (iI (bz (decide (sc xs (i + 1) ≠ 0))))) (by rw [decide_eq_true c_325]; rfl) ?_
    exact cut_333_1 _ (lv_sub hl [0, 1, 2, 3, 4] rfl)
set_option maxHeartbeats 4000000 in
set_option maxRecDepth 100000 in
theorem law_6 (l : Launch) (hlt : l.stackTraces = false) {p : Program} {e : Env} {R : Room} {s : State} {m : MethodId} {args : Array Value} {below : List Frame} {meth : Method} {c : Code} {Q : State → Prop} {A : Nat → Prop} {dC : Nat → ClassId} {dI : Nat → Nat → Nat} {ad am : Nat → Nat} {cs cm : Nat → ClassId} {ao : Nat} {co : ClassId} {b L : Nat} {xs : Nat → Int32} {sa : Nat → Nat} (hx : p.tables.exec = Jvm.exec) (hb : c.code = cW_law) (hml : c.maxLocals = 8) (hown : s.vm.findClass RW = some m.cls) (hts : ∀ w ∈ Cond.initialized RW :: TB, w.before args s = true) (hX : va_X b L xs s s.heap) (hbl : b < s.heap.size) (hA : ∀ q : Nat, s.heap.size ≤ q → A q) (hbA : ¬ A b) (hXH : xHk A sa s) (hK : va_K (dC, dI) vwCl ((cT cs ++ [(co, .long)]) ++ mT cm) s) (hR : R = room_1) (hLL : L ≤ 2048) {i : Int} (hi4 : 0 ≤ i ∧ i + 4 ≤ (L : Int)) {K N : Nat} (hKN : K + 512 ≤ R.cells ∧ N + 5632 ≤ R.slots) (hj : LJoin p l e R s m args below meth c Q A dC dI ad am cs cm ao co b i K N) (LP : List Nat) (G : Nat → PD) (nc np : Int) (par : Bool) (X Y : Int → Int) (O : Int → Bool) (E : Int → Int) (PQ : Int → Option Nat) (Wd : Int → Int) (pw pf pu ps : Int) (Fo : Int → Int) (ft rs npc hi lo : Int) (RX RY : Int → Int) (RO : Int → Bool) (PC : Int → Int) (CV : Int → Bool) {H : Heap} {locs : List Loc} {ls : Array Slot} (hI : cInv LP G PQ X Y O E nc) (hL : lInv X Y E nc np) (hP : va_P (dC, dI) vwCl ((((cW ad cs nc np (clo nc E) par X Y O PQ Wd pw pf pu ps) ++ va_pl LP (pG G)) ++ [(ao, .inl (co, 1, .inr (.inl (aL Fo))))]) ++ (mW am cm ft par np nc rs npc hi lo X Y O E RX RY RO PC CV)) H) (hD : va_D A ((((cW ad cs nc np (clo nc E) par X Y O PQ Wd pw pf pu ps) ++ va_pl LP (pG G)) ++ [(ao, .inl (co, 1, .inr (.inl (aL Fo))))]) ++ (mW am cm ft par np nc rs npc hi lo X Y O E RX RY RO PC CV))) (hS : va_S A s.heap H locs) (hl : lv_has ls 8 [(0, .ref b), (1, .ref (ad 0)), (2, .ref (am 0)), (3, .ref ao), (4, .int (iI i))]) : W p l e R s m args below meth c H locs K N Q (F0 m 359 ls []) := by
  have hLi := hL.1
  have hL3 := hL.2.2.1
  have hok := inv_ok hI hL
  refine lv_aload_n hx hb dW_law_359 rfl (lv_at hl 1 rfl) ?_
  refine lv_aload_n hx hb dW_law_360 rfl (lv_at hl 0 rfl) ?_
  refine lv_iload hx hb dW_law_361 (lv_at hl 4 rfl) ?_
  refine xi_iconst hx hb dW_law_363 ?_
  refine xi_add (z := i + 1) hx hb dW_law_364 rfl ?_
  refine va_sld hx hb hX hbl hbA hS (vp_ini (by omega) hLL) dW_law_365 ?_
  refine xi_top (y := .int (iI (sc xs (i + 1)))) (by rw [sc_at xs (by omega)]) ?_
  have hPa := xs_as hP
  have hDa := xd_as hD
  have hPc := xs_L hPa
  have hKc := hK.sub (tys' := cT cs) [0, 1, 2, 3, 4] rfl
  have hDc := xd_L hDa
  have hFc := xs_fL hDa hS hA
  refine va_calli (va_runV (As := [.int (iI (sc xs (i + 1)))]) (rest := []) ⟨hx, hb, hml, hown, hts⟩ (k_count l dC dI ad cs H.size LP G nc np (clo nc E) par X Y O PQ Wd pw pf pu ps (sc xs (i + 1)) (by omega) hok (sc_in xs _)) (cwV 1 hts (tb_V mlW_82 imC_count seC_count iniC coC_count) rfl rfl rfl (by decide +kernel) (by subst hR; exact ⟨Nat.le_of_ble_eq_true rfl, Nat.le_of_ble_eq_true rfl⟩)) ⟨fun a9 U9 g9 mk9 q9 => by obtain ⟨q0, q1, qP, qK, qD⟩ := q9; exact ⟨q0, q1, qP, va_K.moved (u := U9) (U := U9.calling g9 mk9 a9) (Vm.Alike.refl U9.vm) qK, qD⟩, va_recv hKc hPc (ci := 2) (q0 := 0) rfl rfl, fun U hU hW => ⟨rfl, by rw [hU], by rw [hU]; exact hPc, va_K.moved hW.alike hKc, hDc.weaken (fun _ _ _ _ => trivial)⟩⟩ rfl rfl hl.1 rfl (lv_room (Nat.le_of_ble_eq_true rfl)) dW_law_366 ⟨by omega, by omega⟩) hS (fun q9 _ h9 => hFc q9 h9) hFc (fun r_366 u_366 t9 H1 locs1 ht9 hvm9 hw_366 hB9 hz9 hk9 hS1 => ?_)
  obtain ⟨hP1, hK1, hD1⟩ := hB9
  rw [ht9] at hP1
  obtain ⟨Wd1, pw1, pf1, pu1, ps1⟩ := u_366
  have hDn : va_D A ((((cW ad cs nc np (clo nc E) par X Y O PQ Wd1 pw1 pf1 pu1 ps1) ++ va_pl LP (pG G)) ++ [(ao, .inl (co, 1, .inr (.inl (aL Fo))))]) ++ (mW am cm ft par np nc rs npc hi lo X Y O E RX RY RO PC CV)) := xd_sa (xs_DL hPa hDa hD1 hFc)
  have hP : va_P (dC, dI) vwCl ((((cW ad cs nc np (clo nc E) par X Y O PQ Wd1 pw1 pf1 pu1 ps1) ++ va_pl LP (pG G)) ++ [(ao, .inl (co, 1, .inr (.inl (aL Fo))))]) ++ (mW am cm ft par np nc rs npc hi lo X Y O E RX RY RO PC CV)) H1 := xs_sa (xs_PL hPa hDa hP1 hk9)
  clear hPa hDa
  have hD := hDn
  have hS := hS1
  clear hDn hP1 hK1 hD1 hPc hKc hDc hFc hz9 hk9 ht9 hvm9 hS1
  revert hP hD hS; generalize H1 = H; generalize locs1 = locs; intro hP hD hS
  obtain ⟨hr_366, hw_366⟩ := hw_366; subst hr_366
  refine xi_top (y := .int (iI (cnR X Y O E np nc par (sc xs (i + 1))))) (by rw [cnt_eq hI hL]) ?_
  refine lv_aload_n hx hb dW_law_369 rfl (lv_at hl 2 rfl) ?_
  refine lv_aload_n hx hb dW_law_370 rfl (lv_at hl 0 rfl) ?_
  refine lv_iload hx hb dW_law_371 (lv_at hl 4 rfl) ?_
  refine xi_iconst hx hb dW_law_373 ?_
  refine xi_add (z := i + 1) hx hb dW_law_374 rfl ?_
  refine va_sld hx hb hX hbl hbA hS (vp_ini (by omega) hLL) dW_law_375 ?_
  refine xi_top (y := .int (iI (sc xs (i + 1)))) (by rw [sc_at xs (by omega)]) ?_
  have hPc := xs_R hP
  have hKc := hK.sub (tys' := mT cm) [6, 7, 8, 9, 10, 11, 12, 13, 14] rfl
  have hDc := xd_R hD
  have hFc := xs_fR hD hS hA
  refine va_calli (va_runV (As := [.int (iI (sc xs (i + 1)))]) (rest := [.int (iI (cnR X Y O E np nc par (sc xs (i + 1))))]) ⟨hx, hb, hml, hown, hts⟩ (m_count l dC dI am cm H.size ft par np nc rs npc hi lo X Y O E RX RY RO PC CV (sc xs (i + 1)) hLi hL.2.1 (by omega) (fun k h1 h2 => hL.2.2.2 k h1 (by omega)) (sc_in xs _)) (cwV 1 hts (tb_V mlW_85 imM_count seM_count iniM coM_count) rfl rfl rfl (by decide +kernel) (by subst hR; exact ⟨Nat.le_of_ble_eq_true rfl, Nat.le_of_ble_eq_true rfl⟩)) ⟨fun a9 U9 g9 mk9 q9 => by obtain ⟨q0, q1, qP, qK, qD⟩ := q9; exact ⟨q0, q1, qP, va_K.moved (u := U9) (U := U9.calling g9 mk9 a9) (Vm.Alike.refl U9.vm) qK, qD⟩, va_recv hKc hPc (ci := 3) (q0 := 0) rfl rfl, fun U hU hW => ⟨rfl, by rw [hU], by rw [hU]; exact hPc, va_K.moved hW.alike hKc, hDc.weaken (fun _ _ _ _ => trivial)⟩⟩ rfl rfl hl.1 rfl (lv_room (Nat.le_of_ble_eq_true rfl)) dW_law_376 ⟨by omega, by omega⟩) hS (fun q9 _ h9 => hFc q9 h9) hFc (fun r_376 v_376 t9 H1 locs1 ht9 hvm9 hw_376 hB9 hz9 hk9 hS1 => ?_)
  obtain ⟨hP1, hK1, hD1⟩ := hB9
  rw [ht9] at hP1
  obtain ⟨ft1, rs1, npc1, hi1, lo1, RX1, RY1, RO1, PC1, CV1⟩ := v_376
  have hDn : va_D A ((((cW ad cs nc np (clo nc E) par X Y O PQ Wd1 pw1 pf1 pu1 ps1) ++ va_pl LP (pG G)) ++ [(ao, .inl (co, 1, .inr (.inl (aL Fo))))]) ++ (mW am cm ft1 par np nc rs1 npc1 hi1 lo1 X Y O E RX1 RY1 RO1 PC1 CV1)) := xs_DR hP hD hD1 hFc
  have hP : va_P (dC, dI) vwCl ((((cW ad cs nc np (clo nc E) par X Y O PQ Wd1 pw1 pf1 pu1 ps1) ++ va_pl LP (pG G)) ++ [(ao, .inl (co, 1, .inr (.inl (aL Fo))))]) ++ (mW am cm ft1 par np nc rs1 npc1 hi1 lo1 X Y O E RX1 RY1 RO1 PC1 CV1)) H1 := xs_PR hP hD hP1 hk9
  have hD := hDn
  have hS := hS1
  clear hDn hP1 hK1 hD1 hPc hKc hDc hFc hz9 hk9 ht9 hvm9 hS1
  revert hP hD hS; generalize H1 = H; generalize locs1 = locs; intro hP hD hS
  obtain ⟨hr_376, -⟩ := hw_376; subst hr_376
  refine lv_icmp_eq (tgt := 783) hx hb dW_law_379 (by decide) (fun _ => ?_) (fun c9 => absurd rfl c9)
  exact hj LP G nc np par X Y O E PQ Wd1 pw1 pf1 pu1 ps1 Fo ft1 rs1 npc1 hi1 lo1 RX1 RY1 RO1 PC1 CV1 _ _ _ _ _ (by omega) (by omega) ((show cInv LP G PQ X Y O E nc ∧ lInv X Y E nc np from ⟨hI, hL⟩)).1 ((show cInv LP G PQ X Y O E nc ∧ lInv X Y E nc np from ⟨hI, hL⟩)).2 hP hD hS (lv_sub hl [0, 1, 2, 3, 4] rfl)
set_option maxHeartbeats 4000000 in
set_option maxRecDepth 100000 in
theorem law_7 (l : Launch) (hlt : l.stackTraces = false) {p : Program} {e : Env} {R : Room} {s : State} {m : MethodId} {args : Array Value} {below : List Frame} {meth : Method} {c : Code} {Q : State → Prop} {A : Nat → Prop} {dC : Nat → ClassId} {dI : Nat → Nat → Nat} {ad am : Nat → Nat} {cs cm : Nat → ClassId} {ao : Nat} {co : ClassId} {b L : Nat} {xs : Nat → Int32} {sa : Nat → Nat} (hx : p.tables.exec = Jvm.exec) (hb : c.code = cW_law) (hml : c.maxLocals = 8) (hown : s.vm.findClass RW = some m.cls) (hts : ∀ w ∈ Cond.initialized RW :: TB, w.before args s = true) (hX : va_X b L xs s s.heap) (hbl : b < s.heap.size) (hA : ∀ q : Nat, s.heap.size ≤ q → A q) (hbA : ¬ A b) (hXH : xHk A sa s) (hK : va_K (dC, dI) vwCl ((cT cs ++ [(co, .long)]) ++ mT cm) s) (hR : R = room_1) (hLL : L ≤ 2048) {i : Int} (hi4 : 0 ≤ i ∧ i + 4 ≤ (L : Int)) {K N : Nat} (hKN : K + 512 ≤ R.cells ∧ N + 5632 ≤ R.slots) (hj : LJoin p l e R s m args below meth c Q A dC dI ad am cs cm ao co b i K N) (LP : List Nat) (G : Nat → PD) (nc np : Int) (par : Bool) (X Y : Int → Int) (O : Int → Bool) (E : Int → Int) (PQ : Int → Option Nat) (Wd : Int → Int) (pw pf pu ps : Int) (Fo : Int → Int) (ft rs npc hi lo : Int) (RX RY : Int → Int) (RO : Int → Bool) (PC : Int → Int) (CV : Int → Bool) {H : Heap} {locs : List Loc} {ls : Array Slot} (hI : cInv LP G PQ X Y O E nc) (hL : lInv X Y E nc np) (hP : va_P (dC, dI) vwCl ((((cW ad cs nc np (clo nc E) par X Y O PQ Wd pw pf pu ps) ++ va_pl LP (pG G)) ++ [(ao, .inl (co, 1, .inr (.inl (aL Fo))))]) ++ (mW am cm ft par np nc rs npc hi lo X Y O E RX RY RO PC CV)) H) (hD : va_D A ((((cW ad cs nc np (clo nc E) par X Y O PQ Wd pw pf pu ps) ++ va_pl LP (pG G)) ++ [(ao, .inl (co, 1, .inr (.inl (aL Fo))))]) ++ (mW am cm ft par np nc rs npc hi lo X Y O E RX RY RO PC CV))) (hS : va_S A s.heap H locs) (hl : lv_has ls 8 [(0, .ref b), (1, .ref (ad 0)), (2, .ref (am 0)), (3, .ref ao), (4, .int (iI i))]) : W p l e R s m args below meth c H locs K N Q (F0 m 384 ls []) := by
  have hLi := hL.1
  have hL3 := hL.2.2.1
  have hok := inv_ok hI hL
  refine lv_aload_n hx hb dW_law_384 rfl (lv_at hl 1 rfl) ?_
  refine lv_aload_n hx hb dW_law_385 rfl (lv_at hl 0 rfl) ?_
  refine lv_iload hx hb dW_law_386 (lv_at hl 4 rfl) ?_
  refine xi_iconst hx hb dW_law_388 ?_
  refine xi_add (z := i + 1) hx hb dW_law_389 rfl ?_
  refine va_sld hx hb hX hbl hbA hS (vp_ini (by omega) hLL) dW_law_390 ?_
  refine xi_top (y := .int (iI (sc xs (i + 1)))) (by rw [sc_at xs (by omega)]) ?_
  refine lv_aload_n hx hb dW_law_391 rfl (lv_at hl 0 rfl) ?_
  refine lv_iload hx hb dW_law_392 (lv_at hl 4 rfl) ?_
  refine xi_iconst hx hb dW_law_394 ?_
  refine xi_add (z := i + 2) hx hb dW_law_395 rfl ?_
  refine va_sld hx hb hX hbl hbA hS (vp_ini (by omega) hLL) dW_law_396 ?_
  refine xi_top (y := .int (iI (sc xs (i + 2)))) (by rw [sc_at xs (by omega)]) ?_
  refine lv_aload_n hx hb dW_law_397 rfl (lv_at hl 3 rfl) ?_
  have hPc := xs_L hP
  have hKc := hK.sub (tys' := cT cs ++ [(co, .long)]) [0, 1, 2, 3, 4, 5] rfl
  have hDc := xd_L hD
  have hFc := xs_fL hD hS hA
  refine va_calli (vx_runSW (As := [.ref (ad 0), .int (iI (sc xs (i + 1))), .int (iI (sc xs (i + 2))), .ref ao]) (rest := []) ⟨hx, hb, hml, hown, hts⟩ (h_winding l dC dI ad cs H.size hlt sa ao co LP G nc np (clo nc E) par X Y O PQ Wd pw pf pu ps Fo (sc xs (i + 1)) (sc xs (i + 2)) (by omega) hok (sc_in xs _) (sc_in xs _)) (vx_cwSW 4 hts (tb_S mlW_86 smW_winding iniW coW_winding) rfl rfl rfl (by decide +kernel) (by subst hR; exact ⟨Nat.le_of_ble_eq_true rfl, Nat.le_of_ble_eq_true rfl⟩)) ⟨fun a9 U9 g9 mk9 q9 => by obtain ⟨q0, q1, qP, qK, qD, qF⟩ := q9; exact ⟨q0, q1, qP, va_K.moved (u := U9) (U := U9.calling g9 mk9 a9) (Vm.Alike.refl U9.vm) qK, qD, qF.calling g9 mk9 a9⟩, fun U hU hW => ⟨rfl, by rw [hU], by rw [hU]; exact hPc, va_K.moved hW.alike hKc, hDc.weaken (fun _ _ _ _ => trivial), (hXH.move hW (fun a h1 h2 => by rw [hU]; exact hS.2.1 a h1 h2)).narrow hFc⟩⟩ rfl rfl hl.1 rfl (lv_room (Nat.le_of_ble_eq_true rfl)) dW_law_398 ⟨by omega, by omega⟩) hS (fun q9 _ h9 => hFc q9 h9) hFc (fun r_398 u_398 t9 H1 locs1 ht9 hvm9 hw_398 hB9 hz9 hk9 hS1 => ?_)
  obtain ⟨hP1, hK1, hD1⟩ := hB9
  rw [ht9] at hP1
  obtain ⟨Wd1, pw1, pf1, pu1, ps1, Fo1⟩ := u_398
  have hDn : va_D A ((((cW ad cs nc np (clo nc E) par X Y O PQ Wd1 pw1 pf1 pu1 ps1) ++ va_pl LP (pG G)) ++ [(ao, .inl (co, 1, .inr (.inl (aL Fo1))))]) ++ (mW am cm ft par np nc rs npc hi lo X Y O E RX RY RO PC CV)) := xs_DL hP hD hD1 hFc
  have hP : va_P (dC, dI) vwCl ((((cW ad cs nc np (clo nc E) par X Y O PQ Wd1 pw1 pf1 pu1 ps1) ++ va_pl LP (pG G)) ++ [(ao, .inl (co, 1, .inr (.inl (aL Fo1))))]) ++ (mW am cm ft par np nc rs npc hi lo X Y O E RX RY RO PC CV)) H1 := xs_PL hP hD hP1 hk9
  have hD := hDn
  have hS := hS1
  clear hDn hP1 hK1 hD1 hPc hKc hDc hFc hz9 hk9 ht9 hvm9 hS1
  revert hP hD hS; generalize H1 = H; generalize locs1 = locs; intro hP hD hS
  obtain ⟨hr_398, hz_398⟩ := hw_398; subst hr_398
  refine lv_istore (lv' := [(5, .int (iI (fW (sc xs (i + 1)) (sc xs (i + 2))))), (0, .ref b), (1, .ref (ad 0)), (2, .ref (am 0)), (3, .ref ao), (4, .int (iI i))]) hx hb dW_law_401 hl (by decide) rfl (fun ls hl => ?_)
  refine lv_aload_n hx hb dW_law_403 rfl (lv_at hl 3 rfl) ?_
  refine lv_aload_n hx hb dW_law_404 rfl (lv_at hl 1 rfl) ?_
  refine lv_iload hx hb dW_law_405 (lv_at hl 5 rfl) ?_
  refine xi_iconst hx hb dW_law_407 ?_
  refine xi_add (z := i + 1) hx hb dW_law_408 rfl ?_
  refine va_sld hx hb hX hbl hbA hS (vp_ini (by omega) hLL) dW_law_409 ?_
  refine xi_top (y := .int (iI (sc xs (i + 1)))) (by rw [sc_at xs (by omega)]) ?_
  refine lv_aload_n hx hb dW_law_410 rfl (lv_at hl 1 rfl) ?_
  refine lv_iload hx hb dW_law_411 (lv_at hl 5 rfl) ?_
  refine xi_iconst hx hb dW_law_413 ?_
  refine xi_add (z := i + 2) hx hb dW_law_414 rfl ?_
  refine va_sld hx hb hX hbl hbA hS (vp_ini (by omega) hLL) dW_law_415 ?_
  refine xi_top (y := .int (iI (sc xs (i + 2)))) (by rw [sc_at xs (by omega)]) ?_
  have hPc := xs_R hP
  have hKc := hK.sub (tys' := mT cm) [6, 7, 8, 9, 10, 11, 12, 13, 14] rfl
  have hDc := xd_R hD
  have hFc := xs_fR hD hS hA
  refine va_calli (va_runV (As := [.int (iI (sc xs (i + 1))), .int (iI (sc xs (i + 2)))]) (rest := []) ⟨hx, hb, hml, hown, hts⟩ (m_winding l dC dI am cm H.size ft par np nc rs npc hi lo X Y O E RX RY RO PC CV (sc xs (i + 1)) (sc xs (i + 2)) hLi hL.2.1 (by omega) (fun k h1 h2 => hL.2.2.2 k h1 (by omega)) (sc_in xs _) (sc_in xs _)) (cwV 2 hts (tb_V mlW_89 imM_winding seM_winding iniM coM_winding) rfl rfl rfl (by decide +kernel) (by subst hR; exact ⟨Nat.le_of_ble_eq_true rfl, Nat.le_of_ble_eq_true rfl⟩)) ⟨fun a9 U9 g9 mk9 q9 => by obtain ⟨q0, q1, qP, qK, qD⟩ := q9; exact ⟨q0, q1, qP, va_K.moved (u := U9) (U := U9.calling g9 mk9 a9) (Vm.Alike.refl U9.vm) qK, qD⟩, va_recv hKc hPc (ci := 3) (q0 := 0) rfl rfl, fun U hU hW => ⟨rfl, by rw [hU], by rw [hU]; exact hPc, va_K.moved hW.alike hKc, hDc.weaken (fun _ _ _ _ => trivial)⟩⟩ rfl rfl hl.1 rfl (lv_room (Nat.le_of_ble_eq_true rfl)) dW_law_416 ⟨by omega, by omega⟩) hS (fun q9 _ h9 => hFc q9 h9) hFc (fun r_416 v_416 t9 H1 locs1 ht9 hvm9 hw_416 hB9 hz9 hk9 hS1 => ?_)
  obtain ⟨hP1, hK1, hD1⟩ := hB9
  rw [ht9] at hP1
  obtain ⟨ft1, rs1, npc1, hi1, lo1, RX1, RY1, RO1, PC1, CV1⟩ := v_416
  have hDn : va_D A ((((cW ad cs nc np (clo nc E) par X Y O PQ Wd1 pw1 pf1 pu1 ps1) ++ va_pl LP (pG G)) ++ [(ao, .inl (co, 1, .inr (.inl (aL Fo1))))]) ++ (mW am cm ft1 par np nc rs1 npc1 hi1 lo1 X Y O E RX1 RY1 RO1 PC1 CV1)) := xs_DR hP hD hD1 hFc
  have hP : va_P (dC, dI) vwCl ((((cW ad cs nc np (clo nc E) par X Y O PQ Wd1 pw1 pf1 pu1 ps1) ++ va_pl LP (pG G)) ++ [(ao, .inl (co, 1, .inr (.inl (aL Fo1))))]) ++ (mW am cm ft1 par np nc rs1 npc1 hi1 lo1 X Y O E RX1 RY1 RO1 PC1 CV1)) H1 := xs_PR hP hD hP1 hk9
  have hD := hDn
  have hS := hS1
  clear hDn hP1 hK1 hD1 hPc hKc hDc hFc hz9 hk9 ht9 hvm9 hS1
  revert hP hD hS; generalize H1 = H; generalize locs1 = locs; intro hP hD hS
  obtain ⟨hf_416, hm_416⟩ := hw_416
  have hf_416 : ft1 = fW (sc xs (i + 1)) (sc xs (i + 2)) := hf_416
  subst hf_416
  have bF : 0 ≤ fW (sc xs (i + 1)) (sc xs (i + 2)) ∧ fW (sc xs (i + 1)) (sc xs (i + 2)) ≤ 2 := by (unfold fW; split <;> omega)
  refine lv_istore (lv' := [(6, .int r_416), (5, .int (iI (fW (sc xs (i + 1)) (sc xs (i + 2))))), (0, .ref b), (1, .ref (ad 0)), (2, .ref (am 0)), (3, .ref ao), (4, .int (iI i))]) hx hb dW_law_419 hl (by decide) rfl (fun ls hl => ?_)
  refine lv_aload_n hx hb dW_law_421 rfl (lv_at hl 4 rfl) ?_
  have hPc := xs_R hP
  have hKc := hK.sub (tys' := mT cm) [6, 7, 8, 9, 10, 11, 12, 13, 14] rfl
  have hDc := xd_R hD
  have hFc := xs_fR hD hS hA
  refine vp_callSi (W.runV (As := []) (rest := []) ⟨hx, hb, hml, hown, hts⟩ (m_thrown l dC dI am cm (fW (sc xs (i + 1)) (sc xs (i + 2))) par np nc rs1 npc1 hi1 lo1 X Y O E RX1 RY1 RO1 PC1 CV1 ) (cwV 0 hts (tb_V mlW_58 imM_thrown seM_thrown iniM coM_thrown) rfl rfl rfl (by decide +kernel) (by subst hR; exact ⟨Nat.le_of_ble_eq_true rfl, Nat.le_of_ble_eq_true rfl⟩)) ⟨fun a9 U9 g9 mk9 q9 => by obtain ⟨q0, qP, qK⟩ := q9; exact ⟨q0, qP, va_K.moved (u := U9) (U := U9.calling g9 mk9 a9) (Vm.Alike.refl U9.vm) qK⟩, va_recv hKc hPc (ci := 3) (q0 := 0) rfl rfl, fun U hU hW => ⟨rfl, by rw [hU]; exact hPc, va_K.moved hW.alike hKc⟩⟩ rfl rfl hl.1 rfl (lv_room (Nat.le_of_ble_eq_true rfl)) dW_law_422 ⟨by omega, by omega⟩) (fun r_422 hw_422 => ?_)
  subst hw_422
  clear hPc hKc hDc hFc
  refine lv_iload hx hb dW_law_425 (lv_at hl 1 rfl) ?_
  refine lv_icmp_eq (tgt := 432) hx hb dW_law_427 (by decide) (fun _ => ?_) (fun c9 => absurd rfl c9)
  refine lv_iload hx hb dW_law_432 (lv_at hl 1 rfl) ?_
  refine xi_if_ne (tgt := 449) hx hb dW_law_434 (by decide) (by omega) (fun c_434 => ?_) (fun c_434 => ?_)
  · skip
    refine lv_goto (tgt := 783) hx hb dW_law_449 (by decide) ?_
    exact hj LP G nc np par X Y O E PQ Wd1 pw1 pf1 pu1 ps1 Fo1 (fW (sc xs (i + 1)) (sc xs (i + 2))) rs1 npc1 hi1 lo1 RX1 RY1 RO1 PC1 CV1 _ _ _ _ _ (by omega) (by omega) ((show cInv LP G PQ X Y O E nc ∧ lInv X Y E nc np from ⟨hI, hL⟩)).1 ((show cInv LP G PQ X Y O E nc ∧ lInv X Y E nc np from ⟨hI, hL⟩)).2 hP hD hS (lv_sub hl [2, 3, 4, 5, 6] rfl)
  · skip
    have f0 : fW (sc xs (i + 1)) (sc xs (i + 2)) = 0 := by omega
    have e5 : Fo1 0 = wR X Y O E nc (sc xs (i + 1)) (sc xs (i + 2)) := (hz_398 f0).trans (wC_wR hI hL _ _)
    have bV := wC_bd PQ G (sc xs (i + 1)) (sc xs (i + 2)) (op := clo nc E) (by omega)
    rw [wC_wR hI hL] at bV
    have hm := hm_416 f0; subst hm
    refine lv_aload_n hx hb dW_law_437 rfl (lv_at hl 5 rfl) ?_
    refine xi_iconst hx hb dW_law_438 ?_
    have hPo := xs_R (xs_L hP)
    refine xa_lald (F := Fo1) hx hb hK hPo 0 5 rfl rfl (by decide) (by omega) dW_law_439 ?_
    refine xi_top (y := .long (lI (wR X Y O E nc (sc xs (i + 1)) (sc xs (i + 2))))) (by rw [e5]) ?_
    refine lv_iload hx hb dW_law_440 (lv_at hl 0 rfl) ?_
    refine xl_i2l hx hb dW_law_442 (by omega) ?_
    refine xl_eq (tgt := 449) hx hb dW_law_443 dW_law_444 (by decide) (by omega) (by omega) (fun _ => ?_) (fun c9 => absurd rfl c9)
    refine lv_goto (tgt := 783) hx hb dW_law_449 (by decide) ?_
    exact hj LP G nc np par X Y O E PQ Wd1 pw1 pf1 pu1 ps1 Fo1 (fW (sc xs (i + 1)) (sc xs (i + 2))) rs1 npc1 hi1 lo1 RX1 RY1 RO1 PC1 CV1 _ _ _ _ _ (by omega) (by omega) ((show cInv LP G PQ X Y O E nc ∧ lInv X Y E nc np from ⟨hI, hL⟩)).1 ((show cInv LP G PQ X Y O E nc ∧ lInv X Y E nc np from ⟨hI, hL⟩)).2 hP hD hS (lv_sub hl [2, 3, 4, 5, 6] rfl)
set_option maxHeartbeats 4000000 in
set_option maxRecDepth 100000 in
theorem law_8 (l : Launch) (hlt : l.stackTraces = false) {p : Program} {e : Env} {R : Room} {s : State} {m : MethodId} {args : Array Value} {below : List Frame} {meth : Method} {c : Code} {Q : State → Prop} {A : Nat → Prop} {dC : Nat → ClassId} {dI : Nat → Nat → Nat} {ad am : Nat → Nat} {cs cm : Nat → ClassId} {ao : Nat} {co : ClassId} {b L : Nat} {xs : Nat → Int32} {sa : Nat → Nat} (hx : p.tables.exec = Jvm.exec) (hb : c.code = cW_law) (hml : c.maxLocals = 8) (hown : s.vm.findClass RW = some m.cls) (hts : ∀ w ∈ Cond.initialized RW :: TB, w.before args s = true) (hX : va_X b L xs s s.heap) (hbl : b < s.heap.size) (hA : ∀ q : Nat, s.heap.size ≤ q → A q) (hbA : ¬ A b) (hXH : xHk A sa s) (hK : va_K (dC, dI) vwCl ((cT cs ++ [(co, .long)]) ++ mT cm) s) (hR : R = room_1) (hLL : L ≤ 2048) {i : Int} (hi4 : 0 ≤ i ∧ i + 4 ≤ (L : Int)) {K N : Nat} (hKN : K + 512 ≤ R.cells ∧ N + 5632 ≤ R.slots) (hj : LJoin p l e R s m args below meth c Q A dC dI ad am cs cm ao co b i K N) (LP : List Nat) (G : Nat → PD) (nc np : Int) (par : Bool) (X Y : Int → Int) (O : Int → Bool) (E : Int → Int) (PQ : Int → Option Nat) (Wd : Int → Int) (pw pf pu ps : Int) (Fo : Int → Int) (ft rs npc hi lo : Int) (RX RY : Int → Int) (RO : Int → Bool) (PC : Int → Int) (CV : Int → Bool) {H : Heap} {locs : List Loc} {ls : Array Slot} (hI : cInv LP G PQ X Y O E nc) (hL : lInv X Y E nc np) (hP : va_P (dC, dI) vwCl ((((cW ad cs nc np (clo nc E) par X Y O PQ Wd pw pf pu ps) ++ va_pl LP (pG G)) ++ [(ao, .inl (co, 1, .inr (.inl (aL Fo))))]) ++ (mW am cm ft par np nc rs npc hi lo X Y O E RX RY RO PC CV)) H) (hD : va_D A ((((cW ad cs nc np (clo nc E) par X Y O PQ Wd pw pf pu ps) ++ va_pl LP (pG G)) ++ [(ao, .inl (co, 1, .inr (.inl (aL Fo))))]) ++ (mW am cm ft par np nc rs npc hi lo X Y O E RX RY RO PC CV))) (hS : va_S A s.heap H locs) (hl : lv_has ls 8 [(0, .ref b), (1, .ref (ad 0)), (2, .ref (am 0)), (3, .ref ao), (4, .int (iI i))]) : W p l e R s m args below meth c H locs K N Q (F0 m 452 ls []) := by
  have hLi := hL.1
  have hL3 := hL.2.2.1
  have hok := inv_ok hI hL
  refine lv_aload_n hx hb dW_law_452 rfl (lv_at hl 1 rfl) ?_
  refine lv_aload_n hx hb dW_law_453 rfl (lv_at hl 0 rfl) ?_
  refine lv_iload hx hb dW_law_454 (lv_at hl 4 rfl) ?_
  refine xi_iconst hx hb dW_law_456 ?_
  refine xi_add (z := i + 1) hx hb dW_law_457 rfl ?_
  refine va_sld hx hb hX hbl hbA hS (vp_ini (by omega) hLL) dW_law_458 ?_
  refine xi_top (y := .int (iI (sc xs (i + 1)))) (by rw [sc_at xs (by omega)]) ?_
  refine lv_aload_n hx hb dW_law_459 rfl (lv_at hl 3 rfl) ?_
  have hPc := xs_L hP
  have hKc := hK.sub (tys' := cT cs ++ [(co, .long)]) [0, 1, 2, 3, 4, 5] rfl
  have hDc := xd_L hD
  have hFc := xs_fL hD hS hA
  refine va_calli (vx_runSW (As := [.ref (ad 0), .int (iI (sc xs (i + 1))), .ref ao]) (rest := []) ⟨hx, hb, hml, hown, hts⟩ (h_row l dC dI ad cs H.size hlt sa ao co LP G nc np (clo nc E) par X Y O PQ Wd pw pf pu ps Fo (sc xs (i + 1)) (by omega) hok (sc_in xs _)) (vx_cwSW 3 hts (tb_S mlW_90 smW_row iniW coW_row) rfl rfl rfl (by decide +kernel) (by subst hR; exact ⟨Nat.le_of_ble_eq_true rfl, Nat.le_of_ble_eq_true rfl⟩)) ⟨fun a9 U9 g9 mk9 q9 => by obtain ⟨q0, q1, qP, qK, qD, qF⟩ := q9; exact ⟨q0, q1, qP, va_K.moved (u := U9) (U := U9.calling g9 mk9 a9) (Vm.Alike.refl U9.vm) qK, qD, qF.calling g9 mk9 a9⟩, fun U hU hW => ⟨rfl, by rw [hU], by rw [hU]; exact hPc, va_K.moved hW.alike hKc, hDc.weaken (fun _ _ _ _ => trivial), (hXH.move hW (fun a h1 h2 => by rw [hU]; exact hS.2.1 a h1 h2)).narrow hFc⟩⟩ rfl rfl hl.1 rfl (lv_room (Nat.le_of_ble_eq_true rfl)) dW_law_460 ⟨by omega, by omega⟩) hS (fun q9 _ h9 => hFc q9 h9) hFc (fun r_460 u_460 t9 H1 locs1 ht9 hvm9 hw_460 hB9 hz9 hk9 hS1 => ?_)
  obtain ⟨hP1, hK1, hD1⟩ := hB9
  rw [ht9] at hP1
  obtain ⟨Wd1, pw1, pf1, pu1, ps1, Fo1⟩ := u_460
  have hDn : va_D A ((((cW ad cs nc np (clo nc E) par X Y O PQ Wd1 pw1 pf1 pu1 ps1) ++ va_pl LP (pG G)) ++ [(ao, .inl (co, 1, .inr (.inl (aL Fo1))))]) ++ (mW am cm ft par np nc rs npc hi lo X Y O E RX RY RO PC CV)) := xs_DL hP hD hD1 hFc
  have hP : va_P (dC, dI) vwCl ((((cW ad cs nc np (clo nc E) par X Y O PQ Wd1 pw1 pf1 pu1 ps1) ++ va_pl LP (pG G)) ++ [(ao, .inl (co, 1, .inr (.inl (aL Fo1))))]) ++ (mW am cm ft par np nc rs npc hi lo X Y O E RX RY RO PC CV)) H1 := xs_PL hP hD hP1 hk9
  have hD := hDn
  have hS := hS1
  clear hDn hP1 hK1 hD1 hPc hKc hDc hFc hz9 hk9 ht9 hvm9 hS1
  revert hP hD hS; generalize H1 = H; generalize locs1 = locs; intro hP hD hS
  obtain ⟨hr_460, hz_460⟩ := hw_460; subst hr_460
  refine lv_istore (lv' := [(5, .int (iI (fR (sc xs (i + 1))))), (0, .ref b), (1, .ref (ad 0)), (2, .ref (am 0)), (3, .ref ao), (4, .int (iI i))]) hx hb dW_law_463 hl (by decide) rfl (fun ls hl => ?_)
  refine lv_aload_n hx hb dW_law_465 rfl (lv_at hl 3 rfl) ?_
  refine lv_aload_n hx hb dW_law_466 rfl (lv_at hl 1 rfl) ?_
  refine lv_iload hx hb dW_law_467 (lv_at hl 5 rfl) ?_
  refine xi_iconst hx hb dW_law_469 ?_
  refine xi_add (z := i + 1) hx hb dW_law_470 rfl ?_
  refine va_sld hx hb hX hbl hbA hS (vp_ini (by omega) hLL) dW_law_471 ?_
  refine xi_top (y := .int (iI (sc xs (i + 1)))) (by rw [sc_at xs (by omega)]) ?_
  have hPc := xs_R hP
  have hKc := hK.sub (tys' := mT cm) [6, 7, 8, 9, 10, 11, 12, 13, 14] rfl
  have hDc := xd_R hD
  have hFc := xs_fR hD hS hA
  refine va_calll (va_runV (As := [.int (iI (sc xs (i + 1)))]) (rest := []) ⟨hx, hb, hml, hown, hts⟩ (m_row l dC dI am cm H.size ft par np nc rs npc hi lo X Y O E RX RY RO PC CV (sc xs (i + 1)) hLi hL.2.1 (by omega) (fun k h1 h2 => hL.2.2.2 k h1 (by omega)) (sc_in xs _)) (cwV 1 hts (tb_V mlW_93 imM_row seM_row iniM coM_row) rfl rfl rfl (by decide +kernel) (by subst hR; exact ⟨Nat.le_of_ble_eq_true rfl, Nat.le_of_ble_eq_true rfl⟩)) ⟨fun a9 U9 g9 mk9 q9 => by obtain ⟨q0, q1, qP, qK, qD⟩ := q9; exact ⟨q0, q1, qP, va_K.moved (u := U9) (U := U9.calling g9 mk9 a9) (Vm.Alike.refl U9.vm) qK, qD⟩, va_recv hKc hPc (ci := 3) (q0 := 0) rfl rfl, fun U hU hW => ⟨rfl, by rw [hU], by rw [hU]; exact hPc, va_K.moved hW.alike hKc, hDc.weaken (fun _ _ _ _ => trivial)⟩⟩ rfl rfl hl.1 rfl (lv_room (Nat.le_of_ble_eq_true rfl)) dW_law_472 ⟨by omega, by omega⟩) hS (fun q9 _ h9 => hFc q9 h9) hFc (fun r_472 v_472 t9 H1 locs1 ht9 hvm9 hw_472 hB9 hz9 hk9 hS1 => ?_)
  obtain ⟨hP1, hK1, hD1⟩ := hB9
  rw [ht9] at hP1
  obtain ⟨ft1, rs1, npc1, hi1, lo1, RX1, RY1, RO1, PC1, CV1⟩ := v_472
  have hDn : va_D A ((((cW ad cs nc np (clo nc E) par X Y O PQ Wd1 pw1 pf1 pu1 ps1) ++ va_pl LP (pG G)) ++ [(ao, .inl (co, 1, .inr (.inl (aL Fo1))))]) ++ (mW am cm ft1 par np nc rs1 npc1 hi1 lo1 X Y O E RX1 RY1 RO1 PC1 CV1)) := xs_DR hP hD hD1 hFc
  have hP : va_P (dC, dI) vwCl ((((cW ad cs nc np (clo nc E) par X Y O PQ Wd1 pw1 pf1 pu1 ps1) ++ va_pl LP (pG G)) ++ [(ao, .inl (co, 1, .inr (.inl (aL Fo1))))]) ++ (mW am cm ft1 par np nc rs1 npc1 hi1 lo1 X Y O E RX1 RY1 RO1 PC1 CV1)) H1 := xs_PR hP hD hP1 hk9
  have hD := hDn
  have hS := hS1
  clear hDn hP1 hK1 hD1 hPc hKc hDc hFc hz9 hk9 ht9 hvm9 hS1
  revert hP hD hS; generalize H1 = H; generalize locs1 = locs; intro hP hD hS
  obtain ⟨hf_472, hm_472⟩ := hw_472
  have hf_472 : ft1 = fR (sc xs (i + 1)) := hf_472
  subst hf_472
  have bF : 0 ≤ fR (sc xs (i + 1)) ∧ fR (sc xs (i + 1)) ≤ 2 := by (unfold fR; split <;> omega)
  refine lv_lstore (lv' := [(6, .long r_472), (5, .int (iI (fR (sc xs (i + 1))))), (0, .ref b), (1, .ref (ad 0)), (2, .ref (am 0)), (3, .ref ao), (4, .int (iI i))]) hx hb dW_law_475 hl (by decide) rfl (fun ls hl => ?_)
  refine lv_aload_n hx hb dW_law_477 rfl (lv_at hl 4 rfl) ?_
  have hPc := xs_R hP
  have hKc := hK.sub (tys' := mT cm) [6, 7, 8, 9, 10, 11, 12, 13, 14] rfl
  have hDc := xd_R hD
  have hFc := xs_fR hD hS hA
  refine vp_callSi (W.runV (As := []) (rest := []) ⟨hx, hb, hml, hown, hts⟩ (m_thrown l dC dI am cm (fR (sc xs (i + 1))) par np nc rs1 npc1 hi1 lo1 X Y O E RX1 RY1 RO1 PC1 CV1 ) (cwV 0 hts (tb_V mlW_58 imM_thrown seM_thrown iniM coM_thrown) rfl rfl rfl (by decide +kernel) (by subst hR; exact ⟨Nat.le_of_ble_eq_true rfl, Nat.le_of_ble_eq_true rfl⟩)) ⟨fun a9 U9 g9 mk9 q9 => by obtain ⟨q0, qP, qK⟩ := q9; exact ⟨q0, qP, va_K.moved (u := U9) (U := U9.calling g9 mk9 a9) (Vm.Alike.refl U9.vm) qK⟩, va_recv hKc hPc (ci := 3) (q0 := 0) rfl rfl, fun U hU hW => ⟨rfl, by rw [hU]; exact hPc, va_K.moved hW.alike hKc⟩⟩ rfl rfl hl.1 rfl (lv_room (Nat.le_of_ble_eq_true rfl)) dW_law_478 ⟨by omega, by omega⟩) (fun r_478 hw_478 => ?_)
  subst hw_478
  clear hPc hKc hDc hFc
  refine lv_iload hx hb dW_law_481 (lv_at hl 1 rfl) ?_
  refine lv_icmp_eq (tgt := 488) hx hb dW_law_483 (by decide) (fun _ => ?_) (fun c9 => absurd rfl c9)
  refine lv_iload hx hb dW_law_488 (lv_at hl 1 rfl) ?_
  refine xi_if_ne (tgt := 504) hx hb dW_law_490 (by decide) (by omega) (fun c_490 => ?_) (fun c_490 => ?_)
  · skip
    refine lv_goto (tgt := 783) hx hb dW_law_504 (by decide) ?_
    exact hj LP G nc np par X Y O E PQ Wd1 pw1 pf1 pu1 ps1 Fo1 (fR (sc xs (i + 1))) rs1 npc1 hi1 lo1 RX1 RY1 RO1 PC1 CV1 _ _ _ _ _ (by omega) (by omega) ((show cInv LP G PQ X Y O E nc ∧ lInv X Y E nc np from ⟨hI, hL⟩)).1 ((show cInv LP G PQ X Y O E nc ∧ lInv X Y E nc np from ⟨hI, hL⟩)).2 hP hD hS (lv_sub hl [2, 3, 4, 5, 6] rfl)
  · skip
    have f0 : fR (sc xs (i + 1)) = 0 := by omega
    have e5 : Fo1 0 = (lN (bitsF (pxR X Y O E nc par (sc xs (i + 1))) 64)).toInt := (hz_460 f0).trans (by rw [pxC_pxR hI hL])
    have bV := lN_tb (bitsF (pxR X Y O E nc par (sc xs (i + 1))) 64)
    have hm := (hm_472 f0).trans (lI_lN _); subst hm
    refine lv_aload_n hx hb dW_law_493 rfl (lv_at hl 5 rfl) ?_
    refine xi_iconst hx hb dW_law_494 ?_
    have hPo := xs_R (xs_L hP)
    refine xa_lald (F := Fo1) hx hb hK hPo 0 5 rfl rfl (by decide) (by omega) dW_law_495 ?_
    refine xi_top (y := .long (lI ((lN (bitsF (pxR X Y O E nc par (sc xs (i + 1))) 64)).toInt))) (by rw [e5]) ?_
    refine lv_lload hx hb dW_law_496 (lv_at hl 0 rfl) ?_
    refine xl_eq (tgt := 504) hx hb dW_law_498 dW_law_499 (by decide) (by omega) (by omega) (fun _ => ?_) (fun c9 => absurd rfl c9)
    refine lv_goto (tgt := 783) hx hb dW_law_504 (by decide) ?_
    exact hj LP G nc np par X Y O E PQ Wd1 pw1 pf1 pu1 ps1 Fo1 (fR (sc xs (i + 1))) rs1 npc1 hi1 lo1 RX1 RY1 RO1 PC1 CV1 _ _ _ _ _ (by omega) (by omega) ((show cInv LP G PQ X Y O E nc ∧ lInv X Y E nc np from ⟨hI, hL⟩)).1 ((show cInv LP G PQ X Y O E nc ∧ lInv X Y E nc np from ⟨hI, hL⟩)).2 hP hD hS (lv_sub hl [2, 3, 4, 5, 6] rfl)
set_option maxHeartbeats 4000000 in
set_option maxRecDepth 100000 in
theorem law_9 (l : Launch) (hlt : l.stackTraces = false) {p : Program} {e : Env} {R : Room} {s : State} {m : MethodId} {args : Array Value} {below : List Frame} {meth : Method} {c : Code} {Q : State → Prop} {A : Nat → Prop} {dC : Nat → ClassId} {dI : Nat → Nat → Nat} {ad am : Nat → Nat} {cs cm : Nat → ClassId} {ao : Nat} {co : ClassId} {b L : Nat} {xs : Nat → Int32} {sa : Nat → Nat} (hx : p.tables.exec = Jvm.exec) (hb : c.code = cW_law) (hml : c.maxLocals = 8) (hown : s.vm.findClass RW = some m.cls) (hts : ∀ w ∈ Cond.initialized RW :: TB, w.before args s = true) (hX : va_X b L xs s s.heap) (hbl : b < s.heap.size) (hA : ∀ q : Nat, s.heap.size ≤ q → A q) (hbA : ¬ A b) (hXH : xHk A sa s) (hK : va_K (dC, dI) vwCl ((cT cs ++ [(co, .long)]) ++ mT cm) s) (hR : R = room_1) (hLL : L ≤ 2048) {i : Int} (hi4 : 0 ≤ i ∧ i + 4 ≤ (L : Int)) {K N : Nat} (hKN : K + 512 ≤ R.cells ∧ N + 5632 ≤ R.slots) (hj : LJoin p l e R s m args below meth c Q A dC dI ad am cs cm ao co b i K N) (LP : List Nat) (G : Nat → PD) (nc np : Int) (par : Bool) (X Y : Int → Int) (O : Int → Bool) (E : Int → Int) (PQ : Int → Option Nat) (Wd : Int → Int) (pw pf pu ps : Int) (Fo : Int → Int) (ft rs npc hi lo : Int) (RX RY : Int → Int) (RO : Int → Bool) (PC : Int → Int) (CV : Int → Bool) {H : Heap} {locs : List Loc} {ls : Array Slot} (hI : cInv LP G PQ X Y O E nc) (hL : lInv X Y E nc np) (hP : va_P (dC, dI) vwCl ((((cW ad cs nc np (clo nc E) par X Y O PQ Wd pw pf pu ps) ++ va_pl LP (pG G)) ++ [(ao, .inl (co, 1, .inr (.inl (aL Fo))))]) ++ (mW am cm ft par np nc rs npc hi lo X Y O E RX RY RO PC CV)) H) (hD : va_D A ((((cW ad cs nc np (clo nc E) par X Y O PQ Wd pw pf pu ps) ++ va_pl LP (pG G)) ++ [(ao, .inl (co, 1, .inr (.inl (aL Fo))))]) ++ (mW am cm ft par np nc rs npc hi lo X Y O E RX RY RO PC CV))) (hS : va_S A s.heap H locs) (hl : lv_has ls 8 [(0, .ref b), (1, .ref (ad 0)), (2, .ref (am 0)), (3, .ref ao), (4, .int (iI i))]) : W p l e R s m args below meth c H locs K N Q (F0 m 507 ls []) := by
  have hLi := hL.1
  have hL3 := hL.2.2.1
  have hok := inv_ok hI hL
  refine lv_aload_n hx hb dW_law_507 rfl (lv_at hl 1 rfl) ?_
  refine lv_aload_n hx hb dW_law_508 rfl (lv_at hl 0 rfl) ?_
  refine lv_iload hx hb dW_law_509 (lv_at hl 4 rfl) ?_
  refine xi_iconst hx hb dW_law_511 ?_
  refine xi_add (z := i + 1) hx hb dW_law_512 rfl ?_
  refine va_sld hx hb hX hbl hbA hS (vp_ini (by omega) hLL) dW_law_513 ?_
  refine xi_top (y := .int (iI (sc xs (i + 1)))) (by rw [sc_at xs (by omega)]) ?_
  refine lv_aload_n hx hb dW_law_514 rfl (lv_at hl 0 rfl) ?_
  refine lv_iload hx hb dW_law_515 (lv_at hl 4 rfl) ?_
  refine xi_iconst hx hb dW_law_517 ?_
  refine xi_add (z := i + 2) hx hb dW_law_518 rfl ?_
  refine va_sld hx hb hX hbl hbA hS (vp_ini (by omega) hLL) dW_law_519 ?_
  refine xi_top (y := .int (iI (sc xs (i + 2)))) (by rw [sc_at xs (by omega)]) ?_
  refine lv_aload_n hx hb dW_law_520 rfl (lv_at hl 3 rfl) ?_
  have hPc := xs_L hP
  have hKc := hK.sub (tys' := cT cs ++ [(co, .long)]) [0, 1, 2, 3, 4, 5] rfl
  have hDc := xd_L hD
  have hFc := xs_fL hD hS hA
  refine va_calli (vx_runSW (As := [.ref (ad 0), .int (iI (sc xs (i + 1))), .int (iI (sc xs (i + 2))), .ref ao]) (rest := []) ⟨hx, hb, hml, hown, hts⟩ (h_share l dC dI ad cs H.size hlt sa ao co LP G nc np (clo nc E) par X Y O PQ Wd pw pf pu ps Fo (sc xs (i + 1)) (sc xs (i + 2)) (by omega) hok (sc_in xs _) (sc_in xs _)) (vx_cwSW 4 hts (tb_S mlW_94 smW_share iniW coW_share) rfl rfl rfl (by decide +kernel) (by subst hR; exact ⟨Nat.le_of_ble_eq_true rfl, Nat.le_of_ble_eq_true rfl⟩)) ⟨fun a9 U9 g9 mk9 q9 => by obtain ⟨q0, q1, qP, qK, qD, qF⟩ := q9; exact ⟨q0, q1, qP, va_K.moved (u := U9) (U := U9.calling g9 mk9 a9) (Vm.Alike.refl U9.vm) qK, qD, qF.calling g9 mk9 a9⟩, fun U hU hW => ⟨rfl, by rw [hU], by rw [hU]; exact hPc, va_K.moved hW.alike hKc, hDc.weaken (fun _ _ _ _ => trivial), (hXH.move hW (fun a h1 h2 => by rw [hU]; exact hS.2.1 a h1 h2)).narrow hFc⟩⟩ rfl rfl hl.1 rfl (lv_room (Nat.le_of_ble_eq_true rfl)) dW_law_521 ⟨by omega, by omega⟩) hS (fun q9 _ h9 => hFc q9 h9) hFc (fun r_521 u_521 t9 H1 locs1 ht9 hvm9 hw_521 hB9 hz9 hk9 hS1 => ?_)
  obtain ⟨hP1, hK1, hD1⟩ := hB9
  rw [ht9] at hP1
  obtain ⟨Wd1, pw1, pf1, pu1, ps1, Fo1⟩ := u_521
  have hDn : va_D A ((((cW ad cs nc np (clo nc E) par X Y O PQ Wd1 pw1 pf1 pu1 ps1) ++ va_pl LP (pG G)) ++ [(ao, .inl (co, 1, .inr (.inl (aL Fo1))))]) ++ (mW am cm ft par np nc rs npc hi lo X Y O E RX RY RO PC CV)) := xs_DL hP hD hD1 hFc
  have hP : va_P (dC, dI) vwCl ((((cW ad cs nc np (clo nc E) par X Y O PQ Wd1 pw1 pf1 pu1 ps1) ++ va_pl LP (pG G)) ++ [(ao, .inl (co, 1, .inr (.inl (aL Fo1))))]) ++ (mW am cm ft par np nc rs npc hi lo X Y O E RX RY RO PC CV)) H1 := xs_PL hP hD hP1 hk9
  have hD := hDn
  have hS := hS1
  clear hDn hP1 hK1 hD1 hPc hKc hDc hFc hz9 hk9 ht9 hvm9 hS1
  revert hP hD hS; generalize H1 = H; generalize locs1 = locs; intro hP hD hS
  obtain ⟨hr_521, hz_521⟩ := hw_521; subst hr_521
  refine lv_istore (lv' := [(5, .int (iI (fS (sc xs (i + 1)) (sc xs (i + 2))))), (0, .ref b), (1, .ref (ad 0)), (2, .ref (am 0)), (3, .ref ao), (4, .int (iI i))]) hx hb dW_law_524 hl (by decide) rfl (fun ls hl => ?_)
  refine lv_aload_n hx hb dW_law_526 rfl (lv_at hl 3 rfl) ?_
  refine lv_aload_n hx hb dW_law_527 rfl (lv_at hl 1 rfl) ?_
  refine lv_iload hx hb dW_law_528 (lv_at hl 5 rfl) ?_
  refine xi_iconst hx hb dW_law_530 ?_
  refine xi_add (z := i + 1) hx hb dW_law_531 rfl ?_
  refine va_sld hx hb hX hbl hbA hS (vp_ini (by omega) hLL) dW_law_532 ?_
  refine xi_top (y := .int (iI (sc xs (i + 1)))) (by rw [sc_at xs (by omega)]) ?_
  refine lv_aload_n hx hb dW_law_533 rfl (lv_at hl 1 rfl) ?_
  refine lv_iload hx hb dW_law_534 (lv_at hl 5 rfl) ?_
  refine xi_iconst hx hb dW_law_536 ?_
  refine xi_add (z := i + 2) hx hb dW_law_537 rfl ?_
  refine va_sld hx hb hX hbl hbA hS (vp_ini (by omega) hLL) dW_law_538 ?_
  refine xi_top (y := .int (iI (sc xs (i + 2)))) (by rw [sc_at xs (by omega)]) ?_
  have hPc := xs_R hP
  have hKc := hK.sub (tys' := mT cm) [6, 7, 8, 9, 10, 11, 12, 13, 14] rfl
  have hDc := xd_R hD
  have hFc := xs_fR hD hS hA
  refine va_calli (va_runV (As := [.int (iI (sc xs (i + 1))), .int (iI (sc xs (i + 2)))]) (rest := []) ⟨hx, hb, hml, hown, hts⟩ (m_share l dC dI am cm H.size ft par np nc rs npc hi lo X Y O E RX RY RO PC CV (sc xs (i + 1)) (sc xs (i + 2)) hLi hL.2.1 (by omega) (fun k h1 h2 => hL.2.2.2 k h1 (by omega)) (sc_in xs _) (sc_in xs _)) (cwV 2 hts (tb_V mlW_96 imM_share seM_share iniM coM_share) rfl rfl rfl (by decide +kernel) (by subst hR; exact ⟨Nat.le_of_ble_eq_true rfl, Nat.le_of_ble_eq_true rfl⟩)) ⟨fun a9 U9 g9 mk9 q9 => by obtain ⟨q0, q1, qP, qK, qD⟩ := q9; exact ⟨q0, q1, qP, va_K.moved (u := U9) (U := U9.calling g9 mk9 a9) (Vm.Alike.refl U9.vm) qK, qD⟩, va_recv hKc hPc (ci := 3) (q0 := 0) rfl rfl, fun U hU hW => ⟨rfl, by rw [hU], by rw [hU]; exact hPc, va_K.moved hW.alike hKc, hDc.weaken (fun _ _ _ _ => trivial)⟩⟩ rfl rfl hl.1 rfl (lv_room (Nat.le_of_ble_eq_true rfl)) dW_law_539 ⟨by omega, by omega⟩) hS (fun q9 _ h9 => hFc q9 h9) hFc (fun r_539 v_539 t9 H1 locs1 ht9 hvm9 hw_539 hB9 hz9 hk9 hS1 => ?_)
  obtain ⟨hP1, hK1, hD1⟩ := hB9
  rw [ht9] at hP1
  obtain ⟨ft1, rs1, npc1, hi1, lo1, RX1, RY1, RO1, PC1, CV1⟩ := v_539
  have hDn : va_D A ((((cW ad cs nc np (clo nc E) par X Y O PQ Wd1 pw1 pf1 pu1 ps1) ++ va_pl LP (pG G)) ++ [(ao, .inl (co, 1, .inr (.inl (aL Fo1))))]) ++ (mW am cm ft1 par np nc rs1 npc1 hi1 lo1 X Y O E RX1 RY1 RO1 PC1 CV1)) := xs_DR hP hD hD1 hFc
  have hP : va_P (dC, dI) vwCl ((((cW ad cs nc np (clo nc E) par X Y O PQ Wd1 pw1 pf1 pu1 ps1) ++ va_pl LP (pG G)) ++ [(ao, .inl (co, 1, .inr (.inl (aL Fo1))))]) ++ (mW am cm ft1 par np nc rs1 npc1 hi1 lo1 X Y O E RX1 RY1 RO1 PC1 CV1)) H1 := xs_PR hP hD hP1 hk9
  have hD := hDn
  have hS := hS1
  clear hDn hP1 hK1 hD1 hPc hKc hDc hFc hz9 hk9 ht9 hvm9 hS1
  revert hP hD hS; generalize H1 = H; generalize locs1 = locs; intro hP hD hS
  obtain ⟨hf_539, hm_539⟩ := hw_539
  have hf_539 : ft1 = fS (sc xs (i + 1)) (sc xs (i + 2)) := hf_539
  subst hf_539
  have bF : 0 ≤ fS (sc xs (i + 1)) (sc xs (i + 2)) ∧ fS (sc xs (i + 1)) (sc xs (i + 2)) ≤ 2 := by (unfold fS; split <;> omega)
  refine lv_istore (lv' := [(6, .int r_539), (5, .int (iI (fS (sc xs (i + 1)) (sc xs (i + 2))))), (0, .ref b), (1, .ref (ad 0)), (2, .ref (am 0)), (3, .ref ao), (4, .int (iI i))]) hx hb dW_law_542 hl (by decide) rfl (fun ls hl => ?_)
  refine lv_aload_n hx hb dW_law_544 rfl (lv_at hl 4 rfl) ?_
  have hPc := xs_R hP
  have hKc := hK.sub (tys' := mT cm) [6, 7, 8, 9, 10, 11, 12, 13, 14] rfl
  have hDc := xd_R hD
  have hFc := xs_fR hD hS hA
  refine vp_callSi (W.runV (As := []) (rest := []) ⟨hx, hb, hml, hown, hts⟩ (m_thrown l dC dI am cm (fS (sc xs (i + 1)) (sc xs (i + 2))) par np nc rs1 npc1 hi1 lo1 X Y O E RX1 RY1 RO1 PC1 CV1 ) (cwV 0 hts (tb_V mlW_58 imM_thrown seM_thrown iniM coM_thrown) rfl rfl rfl (by decide +kernel) (by subst hR; exact ⟨Nat.le_of_ble_eq_true rfl, Nat.le_of_ble_eq_true rfl⟩)) ⟨fun a9 U9 g9 mk9 q9 => by obtain ⟨q0, qP, qK⟩ := q9; exact ⟨q0, qP, va_K.moved (u := U9) (U := U9.calling g9 mk9 a9) (Vm.Alike.refl U9.vm) qK⟩, va_recv hKc hPc (ci := 3) (q0 := 0) rfl rfl, fun U hU hW => ⟨rfl, by rw [hU]; exact hPc, va_K.moved hW.alike hKc⟩⟩ rfl rfl hl.1 rfl (lv_room (Nat.le_of_ble_eq_true rfl)) dW_law_545 ⟨by omega, by omega⟩) (fun r_545 hw_545 => ?_)
  subst hw_545
  clear hPc hKc hDc hFc
  refine lv_iload hx hb dW_law_548 (lv_at hl 1 rfl) ?_
  refine lv_icmp_eq (tgt := 555) hx hb dW_law_550 (by decide) (fun _ => ?_) (fun c9 => absurd rfl c9)
  refine lv_iload hx hb dW_law_555 (lv_at hl 1 rfl) ?_
  refine xi_if_ne (tgt := 572) hx hb dW_law_557 (by decide) (by omega) (fun c_557 => ?_) (fun c_557 => ?_)
  · skip
    refine lv_goto (tgt := 783) hx hb dW_law_572 (by decide) ?_
    exact hj LP G nc np par X Y O E PQ Wd1 pw1 pf1 pu1 ps1 Fo1 (fS (sc xs (i + 1)) (sc xs (i + 2))) rs1 npc1 hi1 lo1 RX1 RY1 RO1 PC1 CV1 _ _ _ _ _ (by omega) (by omega) ((show cInv LP G PQ X Y O E nc ∧ lInv X Y E nc np from ⟨hI, hL⟩)).1 ((show cInv LP G PQ X Y O E nc ∧ lInv X Y E nc np from ⟨hI, hL⟩)).2 hP hD hS (lv_sub hl [2, 3, 4, 5, 6] rfl)
  · skip
    have f0 : fS (sc xs (i + 1)) (sc xs (i + 2)) = 0 := by omega
    have e5 : Fo1 0 = shR X Y O E nc par (sc xs (i + 1)) (sc xs (i + 2)) := (hz_521 f0).trans (shr_eq hI hL par _ _)
    have bV : 0 ≤ shR X Y O E nc par (sc xs (i + 1)) (sc xs (i + 2)) ∧ shR X Y O E nc par (sc xs (i + 1)) (sc xs (i + 2)) ≤ (16 : Int) := isum_nn (fun k => bz_in _) 16
    have hm := hm_539 f0; subst hm
    refine lv_aload_n hx hb dW_law_560 rfl (lv_at hl 5 rfl) ?_
    refine xi_iconst hx hb dW_law_561 ?_
    have hPo := xs_R (xs_L hP)
    refine xa_lald (F := Fo1) hx hb hK hPo 0 5 rfl rfl (by decide) (by omega) dW_law_562 ?_
    refine xi_top (y := .long (lI (shR X Y O E nc par (sc xs (i + 1)) (sc xs (i + 2))))) (by rw [e5]) ?_
    refine lv_iload hx hb dW_law_563 (lv_at hl 0 rfl) ?_
    refine xl_i2l hx hb dW_law_565 (by omega) ?_
    refine xl_eq (tgt := 572) hx hb dW_law_566 dW_law_567 (by decide) (by omega) (by omega) (fun _ => ?_) (fun c9 => absurd rfl c9)
    refine lv_goto (tgt := 783) hx hb dW_law_572 (by decide) ?_
    exact hj LP G nc np par X Y O E PQ Wd1 pw1 pf1 pu1 ps1 Fo1 (fS (sc xs (i + 1)) (sc xs (i + 2))) rs1 npc1 hi1 lo1 RX1 RY1 RO1 PC1 CV1 _ _ _ _ _ (by omega) (by omega) ((show cInv LP G PQ X Y O E nc ∧ lInv X Y E nc np from ⟨hI, hL⟩)).1 ((show cInv LP G PQ X Y O E nc ∧ lInv X Y E nc np from ⟨hI, hL⟩)).2 hP hD hS (lv_sub hl [2, 3, 4, 5, 6] rfl)
set_option maxHeartbeats 4000000 in
set_option maxRecDepth 100000 in
theorem law_10 (l : Launch) (hlt : l.stackTraces = false) {p : Program} {e : Env} {R : Room} {s : State} {m : MethodId} {args : Array Value} {below : List Frame} {meth : Method} {c : Code} {Q : State → Prop} {A : Nat → Prop} {dC : Nat → ClassId} {dI : Nat → Nat → Nat} {ad am : Nat → Nat} {cs cm : Nat → ClassId} {ao : Nat} {co : ClassId} {b L : Nat} {xs : Nat → Int32} {sa : Nat → Nat} (hx : p.tables.exec = Jvm.exec) (hb : c.code = cW_law) (hml : c.maxLocals = 8) (hown : s.vm.findClass RW = some m.cls) (hts : ∀ w ∈ Cond.initialized RW :: TB, w.before args s = true) (hX : va_X b L xs s s.heap) (hbl : b < s.heap.size) (hA : ∀ q : Nat, s.heap.size ≤ q → A q) (hbA : ¬ A b) (hXH : xHk A sa s) (hK : va_K (dC, dI) vwCl ((cT cs ++ [(co, .long)]) ++ mT cm) s) (hR : R = room_1) (hLL : L ≤ 2048) {i : Int} (hi4 : 0 ≤ i ∧ i + 4 ≤ (L : Int)) {K N : Nat} (hKN : K + 512 ≤ R.cells ∧ N + 5632 ≤ R.slots) (hj : LJoin p l e R s m args below meth c Q A dC dI ad am cs cm ao co b i K N) (LP : List Nat) (G : Nat → PD) (nc np : Int) (par : Bool) (X Y : Int → Int) (O : Int → Bool) (E : Int → Int) (PQ : Int → Option Nat) (Wd : Int → Int) (pw pf pu ps : Int) (Fo : Int → Int) (ft rs npc hi lo : Int) (RX RY : Int → Int) (RO : Int → Bool) (PC : Int → Int) (CV : Int → Bool) {H : Heap} {locs : List Loc} {ls : Array Slot} (hI : cInv LP G PQ X Y O E nc) (hL : lInv X Y E nc np) (hP : va_P (dC, dI) vwCl ((((cW ad cs nc np (clo nc E) par X Y O PQ Wd pw pf pu ps) ++ va_pl LP (pG G)) ++ [(ao, .inl (co, 1, .inr (.inl (aL Fo))))]) ++ (mW am cm ft par np nc rs npc hi lo X Y O E RX RY RO PC CV)) H) (hD : va_D A ((((cW ad cs nc np (clo nc E) par X Y O PQ Wd pw pf pu ps) ++ va_pl LP (pG G)) ++ [(ao, .inl (co, 1, .inr (.inl (aL Fo))))]) ++ (mW am cm ft par np nc rs npc hi lo X Y O E RX RY RO PC CV))) (hS : va_S A s.heap H locs) (hl : lv_has ls 8 [(0, .ref b), (1, .ref (ad 0)), (2, .ref (am 0)), (3, .ref ao), (4, .int (iI i))]) : W p l e R s m args below meth c H locs K N Q (F0 m 575 ls []) := by
  have hLi := hL.1
  have hL3 := hL.2.2.1
  have hok := inv_ok hI hL
  refine lv_aload_n hx hb dW_law_575 rfl (lv_at hl 1 rfl) ?_
  refine lv_aload_n hx hb dW_law_576 rfl (lv_at hl 0 rfl) ?_
  refine lv_iload hx hb dW_law_577 (lv_at hl 4 rfl) ?_
  refine xi_iconst hx hb dW_law_579 ?_
  refine xi_add (z := i + 1) hx hb dW_law_580 rfl ?_
  refine va_sld hx hb hX hbl hbA hS (vp_ini (by omega) hLL) dW_law_581 ?_
  refine xi_top (y := .int (iI (sc xs (i + 1)))) (by rw [sc_at xs (by omega)]) ?_
  refine lv_aload_n hx hb dW_law_582 rfl (lv_at hl 3 rfl) ?_
  have hPc := xs_L hP
  have hKc := hK.sub (tys' := cT cs ++ [(co, .long)]) [0, 1, 2, 3, 4, 5] rfl
  have hDc := xd_L hD
  have hFc := xs_fL hD hS hA
  refine va_calli (vx_runSW (As := [.ref (ad 0), .int (iI (sc xs (i + 1))), .ref ao]) (rest := []) ⟨hx, hb, hml, hown, hts⟩ (h_spans l dC dI ad cs H.size hlt sa ao co LP G nc np (clo nc E) par X Y O PQ Wd pw pf pu ps Fo (sc xs (i + 1)) (by omega) hok (sc_in xs _)) (vx_cwSW 3 hts (tb_S mlW_97 smW_spans iniW coW_spans) rfl rfl rfl (by decide +kernel) (by subst hR; exact ⟨Nat.le_of_ble_eq_true rfl, Nat.le_of_ble_eq_true rfl⟩)) ⟨fun a9 U9 g9 mk9 q9 => by obtain ⟨q0, q1, qP, qK, qD, qF⟩ := q9; exact ⟨q0, q1, qP, va_K.moved (u := U9) (U := U9.calling g9 mk9 a9) (Vm.Alike.refl U9.vm) qK, qD, qF.calling g9 mk9 a9⟩, fun U hU hW => ⟨rfl, by rw [hU], by rw [hU]; exact hPc, va_K.moved hW.alike hKc, hDc.weaken (fun _ _ _ _ => trivial), (hXH.move hW (fun a h1 h2 => by rw [hU]; exact hS.2.1 a h1 h2)).narrow hFc⟩⟩ rfl rfl hl.1 rfl (lv_room (Nat.le_of_ble_eq_true rfl)) dW_law_583 ⟨by omega, by omega⟩) hS (fun q9 _ h9 => hFc q9 h9) hFc (fun r_583 u_583 t9 H1 locs1 ht9 hvm9 hw_583 hB9 hz9 hk9 hS1 => ?_)
  obtain ⟨hP1, hK1, hD1⟩ := hB9
  rw [ht9] at hP1
  obtain ⟨Wd1, pw1, pf1, pu1, ps1, Fo1⟩ := u_583
  have hDn : va_D A ((((cW ad cs nc np (clo nc E) par X Y O PQ Wd1 pw1 pf1 pu1 ps1) ++ va_pl LP (pG G)) ++ [(ao, .inl (co, 1, .inr (.inl (aL Fo1))))]) ++ (mW am cm ft par np nc rs npc hi lo X Y O E RX RY RO PC CV)) := xs_DL hP hD hD1 hFc
  have hP : va_P (dC, dI) vwCl ((((cW ad cs nc np (clo nc E) par X Y O PQ Wd1 pw1 pf1 pu1 ps1) ++ va_pl LP (pG G)) ++ [(ao, .inl (co, 1, .inr (.inl (aL Fo1))))]) ++ (mW am cm ft par np nc rs npc hi lo X Y O E RX RY RO PC CV)) H1 := xs_PL hP hD hP1 hk9
  have hD := hDn
  have hS := hS1
  clear hDn hP1 hK1 hD1 hPc hKc hDc hFc hz9 hk9 ht9 hvm9 hS1
  revert hP hD hS; generalize H1 = H; generalize locs1 = locs; intro hP hD hS
  obtain ⟨hr_583, hz_583⟩ := hw_583; subst hr_583
  refine lv_istore (lv' := [(5, .int (iI (fR (sc xs (i + 1))))), (0, .ref b), (1, .ref (ad 0)), (2, .ref (am 0)), (3, .ref ao), (4, .int (iI i))]) hx hb dW_law_586 hl (by decide) rfl (fun ls hl => ?_)
  refine lv_aload_n hx hb dW_law_588 rfl (lv_at hl 3 rfl) ?_
  refine lv_aload_n hx hb dW_law_589 rfl (lv_at hl 1 rfl) ?_
  refine lv_iload hx hb dW_law_590 (lv_at hl 5 rfl) ?_
  refine xi_iconst hx hb dW_law_592 ?_
  refine xi_add (z := i + 1) hx hb dW_law_593 rfl ?_
  refine va_sld hx hb hX hbl hbA hS (vp_ini (by omega) hLL) dW_law_594 ?_
  refine xi_top (y := .int (iI (sc xs (i + 1)))) (by rw [sc_at xs (by omega)]) ?_
  have hPc := xs_R hP
  have hKc := hK.sub (tys' := mT cm) [6, 7, 8, 9, 10, 11, 12, 13, 14] rfl
  have hDc := xd_R hD
  have hFc := xs_fR hD hS hA
  refine va_calli (va_runV (As := [.int (iI (sc xs (i + 1)))]) (rest := []) ⟨hx, hb, hml, hown, hts⟩ (m_spans l dC dI am cm H.size ft par np nc rs npc hi lo X Y O E RX RY RO PC CV (sc xs (i + 1)) hLi hL.2.1 (by omega) (fun k h1 h2 => hL.2.2.2 k h1 (by omega)) (sc_in xs _)) (cwV 1 hts (tb_V mlW_99 imM_spans seM_spans iniM coM_spans) rfl rfl rfl (by decide +kernel) (by subst hR; exact ⟨Nat.le_of_ble_eq_true rfl, Nat.le_of_ble_eq_true rfl⟩)) ⟨fun a9 U9 g9 mk9 q9 => by obtain ⟨q0, q1, qP, qK, qD⟩ := q9; exact ⟨q0, q1, qP, va_K.moved (u := U9) (U := U9.calling g9 mk9 a9) (Vm.Alike.refl U9.vm) qK, qD⟩, va_recv hKc hPc (ci := 3) (q0 := 0) rfl rfl, fun U hU hW => ⟨rfl, by rw [hU], by rw [hU]; exact hPc, va_K.moved hW.alike hKc, hDc.weaken (fun _ _ _ _ => trivial)⟩⟩ rfl rfl hl.1 rfl (lv_room (Nat.le_of_ble_eq_true rfl)) dW_law_595 ⟨by omega, by omega⟩) hS (fun q9 _ h9 => hFc q9 h9) hFc (fun r_595 v_595 t9 H1 locs1 ht9 hvm9 hw_595 hB9 hz9 hk9 hS1 => ?_)
  obtain ⟨hP1, hK1, hD1⟩ := hB9
  rw [ht9] at hP1
  obtain ⟨ft1, rs1, npc1, hi1, lo1, RX1, RY1, RO1, PC1, CV1⟩ := v_595
  have hDn : va_D A ((((cW ad cs nc np (clo nc E) par X Y O PQ Wd1 pw1 pf1 pu1 ps1) ++ va_pl LP (pG G)) ++ [(ao, .inl (co, 1, .inr (.inl (aL Fo1))))]) ++ (mW am cm ft1 par np nc rs1 npc1 hi1 lo1 X Y O E RX1 RY1 RO1 PC1 CV1)) := xs_DR hP hD hD1 hFc
  have hP : va_P (dC, dI) vwCl ((((cW ad cs nc np (clo nc E) par X Y O PQ Wd1 pw1 pf1 pu1 ps1) ++ va_pl LP (pG G)) ++ [(ao, .inl (co, 1, .inr (.inl (aL Fo1))))]) ++ (mW am cm ft1 par np nc rs1 npc1 hi1 lo1 X Y O E RX1 RY1 RO1 PC1 CV1)) H1 := xs_PR hP hD hP1 hk9
  have hD := hDn
  have hS := hS1
  clear hDn hP1 hK1 hD1 hPc hKc hDc hFc hz9 hk9 ht9 hvm9 hS1
  revert hP hD hS; generalize H1 = H; generalize locs1 = locs; intro hP hD hS
  obtain ⟨hf_595, hm_595⟩ := hw_595
  have hf_595 : ft1 = fR (sc xs (i + 1)) := hf_595
  subst hf_595
  have bF : 0 ≤ fR (sc xs (i + 1)) ∧ fR (sc xs (i + 1)) ≤ 2 := by (unfold fR; split <;> omega)
  refine lv_istore (lv' := [(6, .int r_595), (5, .int (iI (fR (sc xs (i + 1))))), (0, .ref b), (1, .ref (ad 0)), (2, .ref (am 0)), (3, .ref ao), (4, .int (iI i))]) hx hb dW_law_598 hl (by decide) rfl (fun ls hl => ?_)
  refine lv_aload_n hx hb dW_law_600 rfl (lv_at hl 4 rfl) ?_
  have hPc := xs_R hP
  have hKc := hK.sub (tys' := mT cm) [6, 7, 8, 9, 10, 11, 12, 13, 14] rfl
  have hDc := xd_R hD
  have hFc := xs_fR hD hS hA
  refine vp_callSi (W.runV (As := []) (rest := []) ⟨hx, hb, hml, hown, hts⟩ (m_thrown l dC dI am cm (fR (sc xs (i + 1))) par np nc rs1 npc1 hi1 lo1 X Y O E RX1 RY1 RO1 PC1 CV1 ) (cwV 0 hts (tb_V mlW_58 imM_thrown seM_thrown iniM coM_thrown) rfl rfl rfl (by decide +kernel) (by subst hR; exact ⟨Nat.le_of_ble_eq_true rfl, Nat.le_of_ble_eq_true rfl⟩)) ⟨fun a9 U9 g9 mk9 q9 => by obtain ⟨q0, qP, qK⟩ := q9; exact ⟨q0, qP, va_K.moved (u := U9) (U := U9.calling g9 mk9 a9) (Vm.Alike.refl U9.vm) qK⟩, va_recv hKc hPc (ci := 3) (q0 := 0) rfl rfl, fun U hU hW => ⟨rfl, by rw [hU]; exact hPc, va_K.moved hW.alike hKc⟩⟩ rfl rfl hl.1 rfl (lv_room (Nat.le_of_ble_eq_true rfl)) dW_law_601 ⟨by omega, by omega⟩) (fun r_601 hw_601 => ?_)
  subst hw_601
  clear hPc hKc hDc hFc
  refine lv_iload hx hb dW_law_604 (lv_at hl 1 rfl) ?_
  refine lv_icmp_eq (tgt := 611) hx hb dW_law_606 (by decide) (fun _ => ?_) (fun c9 => absurd rfl c9)
  refine lv_iload hx hb dW_law_611 (lv_at hl 1 rfl) ?_
  refine xi_if_ne (tgt := 628) hx hb dW_law_613 (by decide) (by omega) (fun c_613 => ?_) (fun c_613 => ?_)
  · skip
    refine lv_goto (tgt := 783) hx hb dW_law_628 (by decide) ?_
    exact hj LP G nc np par X Y O E PQ Wd1 pw1 pf1 pu1 ps1 Fo1 (fR (sc xs (i + 1))) rs1 npc1 hi1 lo1 RX1 RY1 RO1 PC1 CV1 _ _ _ _ _ (by omega) (by omega) ((show cInv LP G PQ X Y O E nc ∧ lInv X Y E nc np from ⟨hI, hL⟩)).1 ((show cInv LP G PQ X Y O E nc ∧ lInv X Y E nc np from ⟨hI, hL⟩)).2 hP hD hS (lv_sub hl [2, 3, 4, 5, 6] rfl)
  · skip
    have f0 : fR (sc xs (i + 1)) = 0 := by omega
    have e5 : Fo1 0 = isum (fun x => bz (spS (pxR X Y O E nc par (sc xs (i + 1))) x)) 64 := (hz_583 f0).trans (by rw [pxC_pxR hI hL])
    have bV : 0 ≤ isum (fun x => bz (spS (pxR X Y O E nc par (sc xs (i + 1))) x)) 64 ∧ isum (fun x => bz (spS (pxR X Y O E nc par (sc xs (i + 1))) x)) 64 ≤ (64 : Int) := isum_nn (fun k => bz_in _) 64
    have hm := hm_595 f0; subst hm
    refine lv_aload_n hx hb dW_law_616 rfl (lv_at hl 5 rfl) ?_
    refine xi_iconst hx hb dW_law_617 ?_
    have hPo := xs_R (xs_L hP)
    refine xa_lald (F := Fo1) hx hb hK hPo 0 5 rfl rfl (by decide) (by omega) dW_law_618 ?_
    refine xi_top (y := .long (lI (isum (fun x => bz (spS (pxR X Y O E nc par (sc xs (i + 1))) x)) 64))) (by rw [e5]) ?_
    refine lv_iload hx hb dW_law_619 (lv_at hl 0 rfl) ?_
    refine xl_i2l hx hb dW_law_621 (by omega) ?_
    refine xl_eq (tgt := 628) hx hb dW_law_622 dW_law_623 (by decide) (by omega) (by omega) (fun _ => ?_) (fun c9 => absurd rfl c9)
    refine lv_goto (tgt := 783) hx hb dW_law_628 (by decide) ?_
    exact hj LP G nc np par X Y O E PQ Wd1 pw1 pf1 pu1 ps1 Fo1 (fR (sc xs (i + 1))) rs1 npc1 hi1 lo1 RX1 RY1 RO1 PC1 CV1 _ _ _ _ _ (by omega) (by omega) ((show cInv LP G PQ X Y O E nc ∧ lInv X Y E nc np from ⟨hI, hL⟩)).1 ((show cInv LP G PQ X Y O E nc ∧ lInv X Y E nc np from ⟨hI, hL⟩)).2 hP hD hS (lv_sub hl [2, 3, 4, 5, 6] rfl)
set_option maxHeartbeats 4000000 in
set_option maxRecDepth 100000 in
theorem law_11 (l : Launch) (hlt : l.stackTraces = false) {p : Program} {e : Env} {R : Room} {s : State} {m : MethodId} {args : Array Value} {below : List Frame} {meth : Method} {c : Code} {Q : State → Prop} {A : Nat → Prop} {dC : Nat → ClassId} {dI : Nat → Nat → Nat} {ad am : Nat → Nat} {cs cm : Nat → ClassId} {ao : Nat} {co : ClassId} {b L : Nat} {xs : Nat → Int32} {sa : Nat → Nat} (hx : p.tables.exec = Jvm.exec) (hb : c.code = cW_law) (hml : c.maxLocals = 8) (hown : s.vm.findClass RW = some m.cls) (hts : ∀ w ∈ Cond.initialized RW :: TB, w.before args s = true) (hX : va_X b L xs s s.heap) (hbl : b < s.heap.size) (hA : ∀ q : Nat, s.heap.size ≤ q → A q) (hbA : ¬ A b) (hXH : xHk A sa s) (hK : va_K (dC, dI) vwCl ((cT cs ++ [(co, .long)]) ++ mT cm) s) (hR : R = room_1) (hLL : L ≤ 2048) {i : Int} (hi4 : 0 ≤ i ∧ i + 4 ≤ (L : Int)) {K N : Nat} (hKN : K + 512 ≤ R.cells ∧ N + 5632 ≤ R.slots) (hj : LJoin p l e R s m args below meth c Q A dC dI ad am cs cm ao co b i K N) (LP : List Nat) (G : Nat → PD) (nc np : Int) (par : Bool) (X Y : Int → Int) (O : Int → Bool) (E : Int → Int) (PQ : Int → Option Nat) (Wd : Int → Int) (pw pf pu ps : Int) (Fo : Int → Int) (ft rs npc hi lo : Int) (RX RY : Int → Int) (RO : Int → Bool) (PC : Int → Int) (CV : Int → Bool) {H : Heap} {locs : List Loc} {ls : Array Slot} (hI : cInv LP G PQ X Y O E nc) (hL : lInv X Y E nc np) (hP : va_P (dC, dI) vwCl ((((cW ad cs nc np (clo nc E) par X Y O PQ Wd pw pf pu ps) ++ va_pl LP (pG G)) ++ [(ao, .inl (co, 1, .inr (.inl (aL Fo))))]) ++ (mW am cm ft par np nc rs npc hi lo X Y O E RX RY RO PC CV)) H) (hD : va_D A ((((cW ad cs nc np (clo nc E) par X Y O PQ Wd pw pf pu ps) ++ va_pl LP (pG G)) ++ [(ao, .inl (co, 1, .inr (.inl (aL Fo))))]) ++ (mW am cm ft par np nc rs npc hi lo X Y O E RX RY RO PC CV))) (hS : va_S A s.heap H locs) (hl : lv_has ls 8 [(0, .ref b), (1, .ref (ad 0)), (2, .ref (am 0)), (3, .ref ao), (4, .int (iI i))]) : W p l e R s m args below meth c H locs K N Q (F0 m 631 ls []) := by
  have hLi := hL.1
  have hL3 := hL.2.2.1
  have hok := inv_ok hI hL
  refine lv_aload_n hx hb dW_law_631 rfl (lv_at hl 1 rfl) ?_
  refine lv_aload_n hx hb dW_law_632 rfl (lv_at hl 0 rfl) ?_
  refine lv_iload hx hb dW_law_633 (lv_at hl 4 rfl) ?_
  refine xi_iconst hx hb dW_law_635 ?_
  refine xi_add (z := i + 1) hx hb dW_law_636 rfl ?_
  refine va_sld hx hb hX hbl hbA hS (vp_ini (by omega) hLL) dW_law_637 ?_
  refine xi_top (y := .int (iI (sc xs (i + 1)))) (by rw [sc_at xs (by omega)]) ?_
  refine lv_aload_n hx hb dW_law_638 rfl (lv_at hl 0 rfl) ?_
  refine lv_iload hx hb dW_law_639 (lv_at hl 4 rfl) ?_
  refine xi_iconst hx hb dW_law_641 ?_
  refine xi_add (z := i + 2) hx hb dW_law_642 rfl ?_
  refine va_sld hx hb hX hbl hbA hS (vp_ini (by omega) hLL) dW_law_643 ?_
  refine xi_top (y := .int (iI (sc xs (i + 2)))) (by rw [sc_at xs (by omega)]) ?_
  have cut_658_1 : ∀ (ls : Array Slot), lv_has ls 8 [(0, .ref b), (1, .ref (ad 0)), (2, .ref (am 0)), (3, .ref ao), (4, .int (iI i))] → W p l e R s m args below meth c H locs K N Q (F0 m 658 ls [.int (iI (bz (decide (sc xs (i + 3) ≠ 0)))), .int (iI (sc xs (i + 2))), .int (iI (sc xs (i + 1))), .ref (ad 0)]) := by
    intro  ls hl
    refine lv_aload_n hx hb dW_law_658 rfl (lv_at hl 3 rfl) ?_
    have hPc := xs_L hP
    have hKc := hK.sub (tys' := cT cs ++ [(co, .long)]) [0, 1, 2, 3, 4, 5] rfl
    have hDc := xd_L hD
    have hFc := xs_fL hD hS hA
    refine va_calli (vx_runSW (As := [.ref (ad 0), .int (iI (sc xs (i + 1))), .int (iI (sc xs (i + 2))), .int (iI (bz (decide (sc xs (i + 3) ≠ 0)))), .ref ao]) (rest := []) ⟨hx, hb, hml, hown, hts⟩ (h_span l dC dI ad cs H.size hlt sa ao co LP G nc np (clo nc E) par X Y O PQ Wd pw pf pu ps Fo (sc xs (i + 1)) (sc xs (i + 2)) (decide (sc xs (i + 3) ≠ 0)) (by omega) hok (sc_in xs _) (sc_in xs _)) (vx_cwSW 5 hts (tb_S mlW_100 smW_span iniW coW_span) rfl rfl rfl (by decide +kernel) (by subst hR; exact ⟨Nat.le_of_ble_eq_true rfl, Nat.le_of_ble_eq_true rfl⟩)) ⟨fun a9 U9 g9 mk9 q9 => by obtain ⟨q0, q1, qP, qK, qD, qF⟩ := q9; exact ⟨q0, q1, qP, va_K.moved (u := U9) (U := U9.calling g9 mk9 a9) (Vm.Alike.refl U9.vm) qK, qD, qF.calling g9 mk9 a9⟩, fun U hU hW => ⟨rfl, by rw [hU], by rw [hU]; exact hPc, va_K.moved hW.alike hKc, hDc.weaken (fun _ _ _ _ => trivial), (hXH.move hW (fun a h1 h2 => by rw [hU]; exact hS.2.1 a h1 h2)).narrow hFc⟩⟩ rfl rfl hl.1 rfl (lv_room (Nat.le_of_ble_eq_true rfl)) dW_law_659 ⟨by omega, by omega⟩) hS (fun q9 _ h9 => hFc q9 h9) hFc (fun r_659 u_659 t9 H1 locs1 ht9 hvm9 hw_659 hB9 hz9 hk9 hS1 => ?_)
    obtain ⟨hP1, hK1, hD1⟩ := hB9
    rw [ht9] at hP1
    obtain ⟨Wd1, pw1, pf1, pu1, ps1, Fo1⟩ := u_659
    have hDn : va_D A ((((cW ad cs nc np (clo nc E) par X Y O PQ Wd1 pw1 pf1 pu1 ps1) ++ va_pl LP (pG G)) ++ [(ao, .inl (co, 1, .inr (.inl (aL Fo1))))]) ++ (mW am cm ft par np nc rs npc hi lo X Y O E RX RY RO PC CV)) := xs_DL hP hD hD1 hFc
    have hP : va_P (dC, dI) vwCl ((((cW ad cs nc np (clo nc E) par X Y O PQ Wd1 pw1 pf1 pu1 ps1) ++ va_pl LP (pG G)) ++ [(ao, .inl (co, 1, .inr (.inl (aL Fo1))))]) ++ (mW am cm ft par np nc rs npc hi lo X Y O E RX RY RO PC CV)) H1 := xs_PL hP hD hP1 hk9
    have hD := hDn
    have hS := hS1
    clear hDn hP1 hK1 hD1 hPc hKc hDc hFc hz9 hk9 ht9 hvm9 hS1
    revert hP hD hS; generalize H1 = H; generalize locs1 = locs; intro hP hD hS
    obtain ⟨hr_659, hz_659⟩ := hw_659; subst hr_659
    refine lv_istore (lv' := [(5, .int (iI (fR (sc xs (i + 1))))), (0, .ref b), (1, .ref (ad 0)), (2, .ref (am 0)), (3, .ref ao), (4, .int (iI i))]) hx hb dW_law_662 hl (by decide) rfl (fun ls hl => ?_)
    refine lv_aload_n hx hb dW_law_664 rfl (lv_at hl 3 rfl) ?_
    refine lv_aload_n hx hb dW_law_665 rfl (lv_at hl 1 rfl) ?_
    refine lv_iload hx hb dW_law_666 (lv_at hl 5 rfl) ?_
    refine xi_iconst hx hb dW_law_668 ?_
    refine xi_add (z := i + 1) hx hb dW_law_669 rfl ?_
    refine va_sld hx hb hX hbl hbA hS (vp_ini (by omega) hLL) dW_law_670 ?_
    refine xi_top (y := .int (iI (sc xs (i + 1)))) (by rw [sc_at xs (by omega)]) ?_
    refine lv_aload_n hx hb dW_law_671 rfl (lv_at hl 1 rfl) ?_
    refine lv_iload hx hb dW_law_672 (lv_at hl 5 rfl) ?_
    refine xi_iconst hx hb dW_law_674 ?_
    refine xi_add (z := i + 2) hx hb dW_law_675 rfl ?_
    refine va_sld hx hb hX hbl hbA hS (vp_ini (by omega) hLL) dW_law_676 ?_
    refine xi_top (y := .int (iI (sc xs (i + 2)))) (by rw [sc_at xs (by omega)]) ?_
    have cut_691_2 : ∀ (ls : Array Slot), lv_has ls 8 [(5, .int (iI (fR (sc xs (i + 1))))), (0, .ref b), (1, .ref (ad 0)), (2, .ref (am 0)), (3, .ref ao), (4, .int (iI i))] → W p l e R s m args below meth c H locs (K + 1) (N + 6) Q (F0 m 691 ls [.int (iI (bz (decide (sc xs (i + 3) ≠ 0)))), .int (iI (sc xs (i + 2))), .int (iI (sc xs (i + 1))), .ref (am 0)]) := by
      intro  ls hl
      have hPc := xs_R hP
      have hKc := hK.sub (tys' := mT cm) [6, 7, 8, 9, 10, 11, 12, 13, 14] rfl
      have hDc := xd_R hD
      have hFc := xs_fR hD hS hA
      refine va_calli (va_runV (As := [.int (iI (sc xs (i + 1))), .int (iI (sc xs (i + 2))), .int (iI (bz (decide (sc xs (i + 3) ≠ 0))))]) (rest := []) ⟨hx, hb, hml, hown, hts⟩ (m_span l dC dI am cm H.size ft par np nc rs npc hi lo X Y O E RX RY RO PC CV (sc xs (i + 1)) (sc xs (i + 2)) (decide (sc xs (i + 3) ≠ 0)) hLi hL.2.1 (by omega) (fun k h1 h2 => hL.2.2.2 k h1 (by omega)) (sc_in xs _) (sc_in xs _)) (cwV 3 hts (tb_V mlW_102 imM_span seM_span iniM coM_span) rfl rfl rfl (by decide +kernel) (by subst hR; exact ⟨Nat.le_of_ble_eq_true rfl, Nat.le_of_ble_eq_true rfl⟩)) ⟨fun a9 U9 g9 mk9 q9 => by obtain ⟨q0, q1, qP, qK, qD⟩ := q9; exact ⟨q0, q1, qP, va_K.moved (u := U9) (U := U9.calling g9 mk9 a9) (Vm.Alike.refl U9.vm) qK, qD⟩, va_recv hKc hPc (ci := 3) (q0 := 0) rfl rfl, fun U hU hW => ⟨rfl, by rw [hU], by rw [hU]; exact hPc, va_K.moved hW.alike hKc, hDc.weaken (fun _ _ _ _ => trivial)⟩⟩ rfl rfl hl.1 rfl (lv_room (Nat.le_of_ble_eq_true rfl)) dW_law_691 ⟨by omega, by omega⟩) hS (fun q9 _ h9 => hFc q9 h9) hFc (fun r_691 v_691 t9 H1 locs1 ht9 hvm9 hw_691 hB9 hz9 hk9 hS1 => ?_)
      obtain ⟨hP1, hK1, hD1⟩ := hB9
      rw [ht9] at hP1
      obtain ⟨ft1, rs1, npc1, hi1, lo1, RX1, RY1, RO1, PC1, CV1⟩ := v_691
      have hDn : va_D A ((((cW ad cs nc np (clo nc E) par X Y O PQ Wd1 pw1 pf1 pu1 ps1) ++ va_pl LP (pG G)) ++ [(ao, .inl (co, 1, .inr (.inl (aL Fo1))))]) ++ (mW am cm ft1 par np nc rs1 npc1 hi1 lo1 X Y O E RX1 RY1 RO1 PC1 CV1)) := xs_DR hP hD hD1 hFc
      have hP : va_P (dC, dI) vwCl ((((cW ad cs nc np (clo nc E) par X Y O PQ Wd1 pw1 pf1 pu1 ps1) ++ va_pl LP (pG G)) ++ [(ao, .inl (co, 1, .inr (.inl (aL Fo1))))]) ++ (mW am cm ft1 par np nc rs1 npc1 hi1 lo1 X Y O E RX1 RY1 RO1 PC1 CV1)) H1 := xs_PR hP hD hP1 hk9
      have hD := hDn
      have hS := hS1
      clear hDn hP1 hK1 hD1 hPc hKc hDc hFc hz9 hk9 ht9 hvm9 hS1
      revert hP hD hS; generalize H1 = H; generalize locs1 = locs; intro hP hD hS
      obtain ⟨hf_691, hm_691⟩ := hw_691
      have hf_691 : ft1 = fR (sc xs (i + 1)) := hf_691
      subst hf_691
      have bF : 0 ≤ fR (sc xs (i + 1)) ∧ fR (sc xs (i + 1)) ≤ 2 := by (unfold fR; split <;> omega)
      refine lv_istore (lv' := [(6, .int r_691), (5, .int (iI (fR (sc xs (i + 1))))), (0, .ref b), (1, .ref (ad 0)), (2, .ref (am 0)), (3, .ref ao), (4, .int (iI i))]) hx hb dW_law_694 hl (by decide) rfl (fun ls hl => ?_)
      refine lv_aload_n hx hb dW_law_696 rfl (lv_at hl 4 rfl) ?_
      have hPc := xs_R hP
      have hKc := hK.sub (tys' := mT cm) [6, 7, 8, 9, 10, 11, 12, 13, 14] rfl
      have hDc := xd_R hD
      have hFc := xs_fR hD hS hA
      refine vp_callSi (W.runV (As := []) (rest := []) ⟨hx, hb, hml, hown, hts⟩ (m_thrown l dC dI am cm (fR (sc xs (i + 1))) par np nc rs1 npc1 hi1 lo1 X Y O E RX1 RY1 RO1 PC1 CV1 ) (cwV 0 hts (tb_V mlW_58 imM_thrown seM_thrown iniM coM_thrown) rfl rfl rfl (by decide +kernel) (by subst hR; exact ⟨Nat.le_of_ble_eq_true rfl, Nat.le_of_ble_eq_true rfl⟩)) ⟨fun a9 U9 g9 mk9 q9 => by obtain ⟨q0, qP, qK⟩ := q9; exact ⟨q0, qP, va_K.moved (u := U9) (U := U9.calling g9 mk9 a9) (Vm.Alike.refl U9.vm) qK⟩, va_recv hKc hPc (ci := 3) (q0 := 0) rfl rfl, fun U hU hW => ⟨rfl, by rw [hU]; exact hPc, va_K.moved hW.alike hKc⟩⟩ rfl rfl hl.1 rfl (lv_room (Nat.le_of_ble_eq_true rfl)) dW_law_697 ⟨by omega, by omega⟩) (fun r_697 hw_697 => ?_)
      subst hw_697
      clear hPc hKc hDc hFc
      refine lv_iload hx hb dW_law_700 (lv_at hl 1 rfl) ?_
      refine lv_icmp_eq (tgt := 707) hx hb dW_law_702 (by decide) (fun _ => ?_) (fun c9 => absurd rfl c9)
      refine lv_iload hx hb dW_law_707 (lv_at hl 1 rfl) ?_
      refine xi_if_ne (tgt := 724) hx hb dW_law_709 (by decide) (by omega) (fun c_709 => ?_) (fun c_709 => ?_)
      · skip
        refine lv_goto (tgt := 783) hx hb dW_law_724 (by decide) ?_
        exact hj LP G nc np par X Y O E PQ Wd1 pw1 pf1 pu1 ps1 Fo1 (fR (sc xs (i + 1))) rs1 npc1 hi1 lo1 RX1 RY1 RO1 PC1 CV1 _ _ _ _ _ (by omega) (by omega) ((show cInv LP G PQ X Y O E nc ∧ lInv X Y E nc np from ⟨hI, hL⟩)).1 ((show cInv LP G PQ X Y O E nc ∧ lInv X Y E nc np from ⟨hI, hL⟩)).2 hP hD hS (lv_sub hl [2, 3, 4, 5, 6] rfl)
      · skip
        have f0 : fR (sc xs (i + 1)) = 0 := by omega
        have z5 := hz_659 f0
        have bV := spC_bd z5
        have e5 : Fo1 0 = fnd (p64 (pxR X Y O E nc par (sc xs (i + 1)))) (sc xs (i + 2)) (decide (sc xs (i + 3) ≠ 0)) 65 := (span_eq z5).trans (by rw [pxC_pxR hI hL])
        have e6 : (Wd1, pw1, pf1, pu1, ps1, Fo1).2.2.2.2.2 0 = Fo1 0 := rfl
        rw [e6, e5] at bV
        have hm := hm_691 f0; subst hm
        refine lv_aload_n hx hb dW_law_712 rfl (lv_at hl 5 rfl) ?_
        refine xi_iconst hx hb dW_law_713 ?_
        have hPo := xs_R (xs_L hP)
        refine xa_lald (F := Fo1) hx hb hK hPo 0 5 rfl rfl (by decide) (by omega) dW_law_714 ?_
        refine xi_top (y := .long (lI (fnd (p64 (pxR X Y O E nc par (sc xs (i + 1)))) (sc xs (i + 2)) (decide (sc xs (i + 3) ≠ 0)) 65))) (by rw [e5]) ?_
        refine lv_iload hx hb dW_law_715 (lv_at hl 0 rfl) ?_
        refine xl_i2l hx hb dW_law_717 (by omega) ?_
        refine xl_eq (tgt := 724) hx hb dW_law_718 dW_law_719 (by decide) (by omega) (by omega) (fun _ => ?_) (fun c9 => absurd rfl c9)
        refine lv_goto (tgt := 783) hx hb dW_law_724 (by decide) ?_
        exact hj LP G nc np par X Y O E PQ Wd1 pw1 pf1 pu1 ps1 Fo1 (fR (sc xs (i + 1))) rs1 npc1 hi1 lo1 RX1 RY1 RO1 PC1 CV1 _ _ _ _ _ (by omega) (by omega) ((show cInv LP G PQ X Y O E nc ∧ lInv X Y E nc np from ⟨hI, hL⟩)).1 ((show cInv LP G PQ X Y O E nc ∧ lInv X Y E nc np from ⟨hI, hL⟩)).2 hP hD hS (lv_sub hl [2, 3, 4, 5, 6] rfl)
    refine lv_aload_n hx hb dW_law_677 rfl (lv_at hl 1 rfl) ?_
    refine lv_iload hx hb dW_law_678 (lv_at hl 5 rfl) ?_
    refine xi_iconst hx hb dW_law_680 ?_
    refine xi_add (z := i + 3) hx hb dW_law_681 rfl ?_
    refine va_sld hx hb hX hbl hbA hS (vp_ini (by omega) hLL) dW_law_682 ?_
    refine xi_top (y := .int (iI (sc xs (i + 3)))) (by rw [sc_at xs (by omega)]) ?_
    refine xi_if_eq (tgt := 690) hx hb dW_law_683 (by decide) (sc_in xs _) (fun c_683 => ?_) (fun c_683 => ?_)
    · skip
      refine xi_iconst hx hb dW_law_690 ?_
      refine xi_top (y := .int (iI (bz (decide (sc xs (i + 3) ≠ 0))))) (by rw [decide_eq_false (fun h9 => h9 c_683)]; rfl) ?_
      exact cut_691_2 _ (lv_sub hl [0, 1, 2, 3, 4, 5] rfl)
    · skip
      refine xi_iconst hx hb dW_law_686 ?_
      refine lv_goto (tgt := 691) hx hb dW_law_687 (by decide) ?_
      refine xi_top (y := .int (iI (bz (decide (sc xs (i + 3) ≠ 0))))) (by rw [decide_eq_true c_683]; rfl) ?_
      exact cut_691_2 _ (lv_sub hl [0, 1, 2, 3, 4, 5] rfl)
  refine lv_aload_n hx hb dW_law_644 rfl (lv_at hl 0 rfl) ?_
  refine lv_iload hx hb dW_law_645 (lv_at hl 4 rfl) ?_
  refine xi_iconst hx hb dW_law_647 ?_
  refine xi_add (z := i + 3) hx hb dW_law_648 rfl ?_
  refine va_sld hx hb hX hbl hbA hS (vp_ini (by omega) hLL) dW_law_649 ?_
  refine xi_top (y := .int (iI (sc xs (i + 3)))) (by rw [sc_at xs (by omega)]) ?_
  refine xi_if_eq (tgt := 657) hx hb dW_law_650 (by decide) (sc_in xs _) (fun c_650 => ?_) (fun c_650 => ?_)
  · skip
    refine xi_iconst hx hb dW_law_657 ?_
    refine xi_top (y := .int (iI (bz (decide (sc xs (i + 3) ≠ 0))))) (by rw [decide_eq_false (fun h9 => h9 c_650)]; rfl) ?_
    exact cut_658_1 _ (lv_sub hl [0, 1, 2, 3, 4] rfl)
  · skip
    refine xi_iconst hx hb dW_law_653 ?_
    refine lv_goto (tgt := 658) hx hb dW_law_654 (by decide) ?_
    refine xi_top (y := .int (iI (bz (decide (sc xs (i + 3) ≠ 0))))) (by rw [decide_eq_true c_650]; rfl) ?_
    exact cut_658_1 _ (lv_sub hl [0, 1, 2, 3, 4] rfl)
set_option maxHeartbeats 4000000 in
set_option maxRecDepth 100000 in
theorem law_12 (l : Launch) (hlt : l.stackTraces = false) {p : Program} {e : Env} {R : Room} {s : State} {m : MethodId} {args : Array Value} {below : List Frame} {meth : Method} {c : Code} {Q : State → Prop} {A : Nat → Prop} {dC : Nat → ClassId} {dI : Nat → Nat → Nat} {ad am : Nat → Nat} {cs cm : Nat → ClassId} {ao : Nat} {co : ClassId} {b L : Nat} {xs : Nat → Int32} {sa : Nat → Nat} (hx : p.tables.exec = Jvm.exec) (hb : c.code = cW_law) (hml : c.maxLocals = 8) (hown : s.vm.findClass RW = some m.cls) (hts : ∀ w ∈ Cond.initialized RW :: TB, w.before args s = true) (hX : va_X b L xs s s.heap) (hbl : b < s.heap.size) (hA : ∀ q : Nat, s.heap.size ≤ q → A q) (hbA : ¬ A b) (hXH : xHk A sa s) (hK : va_K (dC, dI) vwCl ((cT cs ++ [(co, .long)]) ++ mT cm) s) (hR : R = room_1) (hLL : L ≤ 2048) {i : Int} (hi4 : 0 ≤ i ∧ i + 4 ≤ (L : Int)) {K N : Nat} (hKN : K + 512 ≤ R.cells ∧ N + 5632 ≤ R.slots) (hj : LJoin p l e R s m args below meth c Q A dC dI ad am cs cm ao co b i K N) (LP : List Nat) (G : Nat → PD) (nc np : Int) (par : Bool) (X Y : Int → Int) (O : Int → Bool) (E : Int → Int) (PQ : Int → Option Nat) (Wd : Int → Int) (pw pf pu ps : Int) (Fo : Int → Int) (ft rs npc hi lo : Int) (RX RY : Int → Int) (RO : Int → Bool) (PC : Int → Int) (CV : Int → Bool) {H : Heap} {locs : List Loc} {ls : Array Slot} (hI : cInv LP G PQ X Y O E nc) (hL : lInv X Y E nc np) (hP : va_P (dC, dI) vwCl ((((cW ad cs nc np (clo nc E) par X Y O PQ Wd pw pf pu ps) ++ va_pl LP (pG G)) ++ [(ao, .inl (co, 1, .inr (.inl (aL Fo))))]) ++ (mW am cm ft par np nc rs npc hi lo X Y O E RX RY RO PC CV)) H) (hD : va_D A ((((cW ad cs nc np (clo nc E) par X Y O PQ Wd pw pf pu ps) ++ va_pl LP (pG G)) ++ [(ao, .inl (co, 1, .inr (.inl (aL Fo))))]) ++ (mW am cm ft par np nc rs npc hi lo X Y O E RX RY RO PC CV))) (hS : va_S A s.heap H locs) (hl : lv_has ls 8 [(0, .ref b), (1, .ref (ad 0)), (2, .ref (am 0)), (3, .ref ao), (4, .int (iI i))]) : W p l e R s m args below meth c H locs K N Q (F0 m 727 ls []) := by
  have hLi := hL.1
  have hL3 := hL.2.2.1
  have hok := inv_ok hI hL
  refine lv_aload_n hx hb dW_law_727 rfl (lv_at hl 1 rfl) ?_
  refine lv_aload_n hx hb dW_law_728 rfl (lv_at hl 0 rfl) ?_
  refine lv_iload hx hb dW_law_729 (lv_at hl 4 rfl) ?_
  refine xi_iconst hx hb dW_law_731 ?_
  refine xi_add (z := i + 1) hx hb dW_law_732 rfl ?_
  refine va_sld hx hb hX hbl hbA hS (vp_ini (by omega) hLL) dW_law_733 ?_
  refine xi_top (y := .int (iI (sc xs (i + 1)))) (by rw [sc_at xs (by omega)]) ?_
  refine lv_aload_n hx hb dW_law_734 rfl (lv_at hl 3 rfl) ?_
  have hPc := xs_L hP
  have hKc := hK.sub (tys' := cT cs ++ [(co, .long)]) [0, 1, 2, 3, 4, 5] rfl
  have hDc := xd_L hD
  have hFc := xs_fL hD hS hA
  refine va_calli (vx_runSW (As := [.ref (ad 0), .int (iI (sc xs (i + 1))), .ref ao]) (rest := []) ⟨hx, hb, hml, hown, hts⟩ (h_extent l dC dI ad cs H.size hlt sa ao co LP G nc np (clo nc E) par X Y O PQ Wd pw pf pu ps Fo (sc xs (i + 1)) (by omega) hok (sc_in xs _) hLi) (vx_cwSW 3 hts (tb_S mlW_103 smW_extent iniW coW_extent) rfl rfl rfl (by decide +kernel) (by subst hR; exact ⟨Nat.le_of_ble_eq_true rfl, Nat.le_of_ble_eq_true rfl⟩)) ⟨fun a9 U9 g9 mk9 q9 => by obtain ⟨q0, q1, qP, qK, qD, qF⟩ := q9; exact ⟨q0, q1, qP, va_K.moved (u := U9) (U := U9.calling g9 mk9 a9) (Vm.Alike.refl U9.vm) qK, qD, qF.calling g9 mk9 a9⟩, fun U hU hW => ⟨rfl, by rw [hU], by rw [hU]; exact hPc, va_K.moved hW.alike hKc, hDc.weaken (fun _ _ _ _ => trivial), (hXH.move hW (fun a h1 h2 => by rw [hU]; exact hS.2.1 a h1 h2)).narrow hFc⟩⟩ rfl rfl hl.1 rfl (lv_room (Nat.le_of_ble_eq_true rfl)) dW_law_735 ⟨by omega, by omega⟩) hS (fun q9 _ h9 => hFc q9 h9) hFc (fun r_735 u_735 t9 H1 locs1 ht9 hvm9 hw_735 hB9 hz9 hk9 hS1 => ?_)
  obtain ⟨hP1, hK1, hD1⟩ := hB9
  rw [ht9] at hP1
  obtain ⟨Wd1, pw1, pf1, pu1, ps1, Fo1⟩ := u_735
  have hDn : va_D A ((((cW ad cs nc np (clo nc E) par X Y O PQ Wd1 pw1 pf1 pu1 ps1) ++ va_pl LP (pG G)) ++ [(ao, .inl (co, 1, .inr (.inl (aL Fo1))))]) ++ (mW am cm ft par np nc rs npc hi lo X Y O E RX RY RO PC CV)) := xs_DL hP hD hD1 hFc
  have hP : va_P (dC, dI) vwCl ((((cW ad cs nc np (clo nc E) par X Y O PQ Wd1 pw1 pf1 pu1 ps1) ++ va_pl LP (pG G)) ++ [(ao, .inl (co, 1, .inr (.inl (aL Fo1))))]) ++ (mW am cm ft par np nc rs npc hi lo X Y O E RX RY RO PC CV)) H1 := xs_PL hP hD hP1 hk9
  have hD := hDn
  have hS := hS1
  clear hDn hP1 hK1 hD1 hPc hKc hDc hFc hz9 hk9 ht9 hvm9 hS1
  revert hP hD hS; generalize H1 = H; generalize locs1 = locs; intro hP hD hS
  obtain ⟨hr_735, hz_735⟩ := hw_735; subst hr_735
  refine lv_istore (lv' := [(5, .int (iI (fE (sc xs (i + 1)) nc))), (0, .ref b), (1, .ref (ad 0)), (2, .ref (am 0)), (3, .ref ao), (4, .int (iI i))]) hx hb dW_law_738 hl (by decide) rfl (fun ls hl => ?_)
  refine lv_aload_n hx hb dW_law_740 rfl (lv_at hl 3 rfl) ?_
  refine lv_aload_n hx hb dW_law_741 rfl (lv_at hl 1 rfl) ?_
  refine lv_iload hx hb dW_law_742 (lv_at hl 5 rfl) ?_
  refine xi_iconst hx hb dW_law_744 ?_
  refine xi_add (z := i + 1) hx hb dW_law_745 rfl ?_
  refine va_sld hx hb hX hbl hbA hS (vp_ini (by omega) hLL) dW_law_746 ?_
  refine xi_top (y := .int (iI (sc xs (i + 1)))) (by rw [sc_at xs (by omega)]) ?_
  have hPc := xs_R hP
  have hKc := hK.sub (tys' := mT cm) [6, 7, 8, 9, 10, 11, 12, 13, 14] rfl
  have hDc := xd_R hD
  have hFc := xs_fR hD hS hA
  refine va_calli (va_runV (As := [.int (iI (sc xs (i + 1)))]) (rest := []) ⟨hx, hb, hml, hown, hts⟩ (m_extent l dC dI am cm H.size ft par np nc rs npc hi lo X Y O E RX RY RO PC CV (sc xs (i + 1)) hLi hL.2.1 (by omega) (fun k h1 h2 => hL.2.2.2 k h1 (by omega)) (sc_in xs _)) (cwV 1 hts (tb_V mlW_105 imM_extent seM_extent iniM coM_extent) rfl rfl rfl (by decide +kernel) (by subst hR; exact ⟨Nat.le_of_ble_eq_true rfl, Nat.le_of_ble_eq_true rfl⟩)) ⟨fun a9 U9 g9 mk9 q9 => by obtain ⟨q0, q1, qP, qK, qD⟩ := q9; exact ⟨q0, q1, qP, va_K.moved (u := U9) (U := U9.calling g9 mk9 a9) (Vm.Alike.refl U9.vm) qK, qD⟩, va_recv hKc hPc (ci := 3) (q0 := 0) rfl rfl, fun U hU hW => ⟨rfl, by rw [hU], by rw [hU]; exact hPc, va_K.moved hW.alike hKc, hDc.weaken (fun _ _ _ _ => trivial)⟩⟩ rfl rfl hl.1 rfl (lv_room (Nat.le_of_ble_eq_true rfl)) dW_law_747 ⟨by omega, by omega⟩) hS (fun q9 _ h9 => hFc q9 h9) hFc (fun r_747 v_747 t9 H1 locs1 ht9 hvm9 hw_747 hB9 hz9 hk9 hS1 => ?_)
  obtain ⟨hP1, hK1, hD1⟩ := hB9
  rw [ht9] at hP1
  obtain ⟨ft1, rs1, npc1, hi1, lo1, RX1, RY1, RO1, PC1, CV1⟩ := v_747
  have hDn : va_D A ((((cW ad cs nc np (clo nc E) par X Y O PQ Wd1 pw1 pf1 pu1 ps1) ++ va_pl LP (pG G)) ++ [(ao, .inl (co, 1, .inr (.inl (aL Fo1))))]) ++ (mW am cm ft1 par np nc rs1 npc1 hi1 lo1 X Y O E RX1 RY1 RO1 PC1 CV1)) := xs_DR hP hD hD1 hFc
  have hP : va_P (dC, dI) vwCl ((((cW ad cs nc np (clo nc E) par X Y O PQ Wd1 pw1 pf1 pu1 ps1) ++ va_pl LP (pG G)) ++ [(ao, .inl (co, 1, .inr (.inl (aL Fo1))))]) ++ (mW am cm ft1 par np nc rs1 npc1 hi1 lo1 X Y O E RX1 RY1 RO1 PC1 CV1)) H1 := xs_PR hP hD hP1 hk9
  have hD := hDn
  have hS := hS1
  clear hDn hP1 hK1 hD1 hPc hKc hDc hFc hz9 hk9 ht9 hvm9 hS1
  revert hP hD hS; generalize H1 = H; generalize locs1 = locs; intro hP hD hS
  obtain ⟨hf_747, hm_747⟩ := hw_747
  have hf_747 : ft1 = fE (sc xs (i + 1)) nc := hf_747
  subst hf_747
  have bF : 0 ≤ fE (sc xs (i + 1)) nc ∧ fE (sc xs (i + 1)) nc ≤ 2 := by (unfold fE; repeat' split) <;> omega
  refine lv_istore (lv' := [(6, .int r_747), (5, .int (iI (fE (sc xs (i + 1)) nc))), (0, .ref b), (1, .ref (ad 0)), (2, .ref (am 0)), (3, .ref ao), (4, .int (iI i))]) hx hb dW_law_750 hl (by decide) rfl (fun ls hl => ?_)
  refine lv_aload_n hx hb dW_law_752 rfl (lv_at hl 4 rfl) ?_
  have hPc := xs_R hP
  have hKc := hK.sub (tys' := mT cm) [6, 7, 8, 9, 10, 11, 12, 13, 14] rfl
  have hDc := xd_R hD
  have hFc := xs_fR hD hS hA
  refine vp_callSi (W.runV (As := []) (rest := []) ⟨hx, hb, hml, hown, hts⟩ (m_thrown l dC dI am cm (fE (sc xs (i + 1)) nc) par np nc rs1 npc1 hi1 lo1 X Y O E RX1 RY1 RO1 PC1 CV1 ) (cwV 0 hts (tb_V mlW_58 imM_thrown seM_thrown iniM coM_thrown) rfl rfl rfl (by decide +kernel) (by subst hR; exact ⟨Nat.le_of_ble_eq_true rfl, Nat.le_of_ble_eq_true rfl⟩)) ⟨fun a9 U9 g9 mk9 q9 => by obtain ⟨q0, qP, qK⟩ := q9; exact ⟨q0, qP, va_K.moved (u := U9) (U := U9.calling g9 mk9 a9) (Vm.Alike.refl U9.vm) qK⟩, va_recv hKc hPc (ci := 3) (q0 := 0) rfl rfl, fun U hU hW => ⟨rfl, by rw [hU]; exact hPc, va_K.moved hW.alike hKc⟩⟩ rfl rfl hl.1 rfl (lv_room (Nat.le_of_ble_eq_true rfl)) dW_law_753 ⟨by omega, by omega⟩) (fun r_753 hw_753 => ?_)
  subst hw_753
  clear hPc hKc hDc hFc
  refine lv_iload hx hb dW_law_756 (lv_at hl 1 rfl) ?_
  refine lv_icmp_eq (tgt := 763) hx hb dW_law_758 (by decide) (fun _ => ?_) (fun c9 => absurd rfl c9)
  refine lv_iload hx hb dW_law_763 (lv_at hl 1 rfl) ?_
  refine xi_if_ne (tgt := 780) hx hb dW_law_765 (by decide) (by omega) (fun c_765 => ?_) (fun c_765 => ?_)
  · skip
    refine lv_goto (tgt := 783) hx hb dW_law_780 (by decide) ?_
    exact hj LP G nc np par X Y O E PQ Wd1 pw1 pf1 pu1 ps1 Fo1 (fE (sc xs (i + 1)) nc) rs1 npc1 hi1 lo1 RX1 RY1 RO1 PC1 CV1 _ _ _ _ _ (by omega) (by omega) ((show cInv LP G PQ X Y O E nc ∧ lInv X Y E nc np from ⟨hI, hL⟩)).1 ((show cInv LP G PQ X Y O E nc ∧ lInv X Y E nc np from ⟨hI, hL⟩)).2 hP hD hS (lv_sub hl [2, 3, 4, 5, 6] rfl)
  · skip
    have f0 : fE (sc xs (i + 1)) nc = 0 := by omega
    obtain ⟨v9, hm, t9, t8, bV⟩ := hm_747 f0; subst hm
    have w9 : (0 ≤ (sc xs (i + 1)) ∧ (sc xs (i + 1)) ≤ 3) ∧ 0 < nc := by (unfold fE at f0; split at f0; (cases f0); split at f0; (cases f0); omega)
    have e5 : Fo1 0 = v9 := ext_eq hI hL w9.1 w9.2 (hz_735 f0) ⟨t9, t8⟩
    refine lv_aload_n hx hb dW_law_768 rfl (lv_at hl 5 rfl) ?_
    refine xi_iconst hx hb dW_law_769 ?_
    have hPo := xs_R (xs_L hP)
    refine xa_lald (F := Fo1) hx hb hK hPo 0 5 rfl rfl (by decide) (by omega) dW_law_770 ?_
    refine xi_top (y := .long (lI (v9))) (by rw [e5]) ?_
    refine lv_iload hx hb dW_law_771 (lv_at hl 0 rfl) ?_
    refine xl_i2l hx hb dW_law_773 (by omega) ?_
    refine xl_eq (tgt := 780) hx hb dW_law_774 dW_law_775 (by decide) (by omega) (by omega) (fun _ => ?_) (fun c9 => absurd rfl c9)
    refine lv_goto (tgt := 783) hx hb dW_law_780 (by decide) ?_
    exact hj LP G nc np par X Y O E PQ Wd1 pw1 pf1 pu1 ps1 Fo1 (fE (sc xs (i + 1)) nc) rs1 npc1 hi1 lo1 RX1 RY1 RO1 PC1 CV1 _ _ _ _ _ (by omega) (by omega) ((show cInv LP G PQ X Y O E nc ∧ lInv X Y E nc np from ⟨hI, hL⟩)).1 ((show cInv LP G PQ X Y O E nc ∧ lInv X Y E nc np from ⟨hI, hL⟩)).2 hP hD hS (lv_sub hl [2, 3, 4, 5, 6] rfl)
