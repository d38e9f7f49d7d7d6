/-! THE CLAIM OUT OF ONE WALK OF THE LAW'S BODY. Your part is whole_start (and what it stands on); all else here is the same for every law, but numbers. -/
def R_law : String := "CurveRasterLaw"
def lw_P (b : Addr) (xs : List Int32) (args : Array Value) (s : State) : Prop := args = #[.ref b] ∧ s.IntsAt b xs ∧ xs.length ≤ 2048 ∧ (Jvm.Cond.and given_1 narrow_1).before args s = true
def lw_Q (_ : Array Value) (s : State) (o : Outcome) (t : State) : Prop := o = .returned (some (.int 1)) ∧ Framed s o t [] 601024 7293034
def lw_Z (below : List Frame) (a : Array Value) (s : State) : State → Prop := fun t => ∃ o, t.status = .running ∧ Ended t below o ∧ lw_Q a s o t
/-- the law's own end, with 1 on the stack, nothing written that was there before, its room as the claim has it -/
theorem lw_ret {p : Program} {l : Launch} {e : Env} {s : State} {m : MethodId} {below : List Frame} {meth : Method} {c : Code} {b : Nat} (hx : p.tables.exec = Jvm.exec) (hb : c.code = code) (hr : meth.sig.returnType = ret) (hlocks : meth.locks = false) {pc : Nat} {H : Heap} {ls : Array Slot} (hdg : decode code pc = .ok (.ireturn, 1)) : W p l e room_1 s m #[Value.ref b] below meth c H [] 601024 7293034 (lw_Z below #[Value.ref b] s) (F0 m pc ls [.int 1]) := by
  intro T hT X
  obtain ⟨fs, hret, hrun, hended, hW, hframe⟩ := X.leave (v := some (.int 1)) (hlocks := hlocks) (fun h => by rw [hr] at h; cases h)
  have hmeth' : T.vm.method? m = some meth := X.method'
  refine ⟨T.setFrames fs, ?_, .returned (some (.int 1)), hrun, hended, rfl, ⟨_, rfl⟩, hW, hframe⟩
  jvm_step X.here [X.here.top, hx, hb, hdg, hmeth', hr, ret, narrow_b1]
  (try refine ⟨rfl, ?_⟩); (try refine ⟨rfl, ?_⟩)
  first | (intro acts; rw [hret _ acts rfl rfl rfl]) | rw [hret _ _ rfl rfl rfl]
  exact Steps.refl _
/-- what holds at the law's entry: the machine, the code, the tables' words (any of lw_tbl by 'hts w (by decide +kernel)'), the script of L ints xs at the cell b, what the Statement gives of the start (any of its parts by flat_of_before) -/
def lw_At (p : Program) (s : State) (m : MethodId) (meth : Method) (c : Code) (b L : Nat) (xs : Nat → Int32) : Prop :=
  p.tables.exec = Jvm.exec ∧ c.code = code ∧ meth.sig.returnType = ret ∧ c.maxLocals = 8 ∧ s.vm.findClass R_law = some m.cls ∧ (∀ w ∈ lw_tbl, w.before #[Value.ref b] s = true) ∧ va_X b L xs s s.heap ∧ b < s.heap.size ∧ meth.locks = false ∧ (Jvm.Cond.and given_1 narrow_1).before #[Value.ref b] s = true
/-! what the law finds at its entry -/
theorem fsC : ∀ j, j < 10 → defaultValue (tyC j) = vp_V [.null, .null, .null, .null, .null, .null, .int (iI 0), .int (iI 0), .int (iI 0), .int (iI (bz false))] j := by
  intro j hj
  rcases (show j = 0 ∨ j = 1 ∨ j = 2 ∨ j = 3 ∨ j = 4 ∨ j = 5 ∨ j = 6 ∨ j = 7 ∨ j = 8 ∨ j = 9 by omega) with h | h | h | h | h | h | h | h | h | h <;> subst h <;> decide +kernel
theorem fsM : ∀ j, j < 17 → defaultValue (tyM j) = vp_V [.int (iI 0), .int (iI (bz false)), .int (iI 0), .null, .null, .null, .int (iI 0), .null, .int (iI 0), .null, .null, .null, .int (iI 0), .null, .null, .long (lI 0), .long (lI 0)] j := by
  intro j hj
  rcases (show j = 0 ∨ j = 1 ∨ j = 2 ∨ j = 3 ∨ j = 4 ∨ j = 5 ∨ j = 6 ∨ j = 7 ∨ j = 8 ∨ j = 9 ∨ j = 10 ∨ j = 11 ∨ j = 12 ∨ j = 13 ∨ j = 14 ∨ j = 15 ∨ j = 16 by omega) with h | h | h | h | h | h | h | h | h | h | h | h | h | h | h | h | h <;> subst h <;> decide +kernel
theorem xd_swap {A : Nat → Prop} {a b c : va_W} (h : va_D A ((a ++ b) ++ c)) : va_D A ((a ++ c) ++ b) := by
  have ka : ∀ (k : Nat) (q : Nat × va_E), a[k]? = some q → ((a ++ b) ++ c)[k]? = some q ∧ k < a.length := fun k q hk => by
    have hl : k < a.length := (List.getElem?_eq_some_iff.mp hk).1
    rw [List.append_assoc, List.getElem?_append_left hl]; exact ⟨hk, hl⟩
  have kb : ∀ (k : Nat) (q : Nat × va_E), b[k]? = some q → ((a ++ b) ++ c)[a.length + k]? = some q ∧ k < b.length := fun k q hk => by
    have hl : k < b.length := (List.getElem?_eq_some_iff.mp hk).1
    rw [List.append_assoc, List.getElem?_append_right (by omega), Nat.add_sub_cancel_left, List.getElem?_append_left hl]; exact ⟨hk, hl⟩
  have kc : ∀ (k : Nat) (q : Nat × va_E), c[k]? = some q → ((a ++ b) ++ c)[a.length + b.length + k]? = some q := fun k q hk => by
    rw [List.getElem?_append_right (by rw [List.length_append]; omega), List.length_append, Nat.add_sub_cancel_left]; exact hk
  refine va_D.app (va_D.app (xd_L (xd_L h)) (xd_R h) (fun i j p q hi hj e => ?_)) (xd_R (xd_L h)) (fun i j p q hi hj e => ?_)
  · have := h.1 _ _ p q (ka i p hi).1 (kc j q hj) e
    have := (ka i p hi).2
    omega
  · by_cases hl : i < a.length
    · rw [List.getElem?_append_left hl] at hi
      have := h.1 _ _ p q (ka i p hi).1 (kb j q hj).1 e
      omega
    · rw [List.getElem?_append_right (by omega)] at hi
      have := h.1 _ _ p q (kc _ p hi) (kb j q hj).1 e
      have := (kb j q hj).2
      omega
set_option maxRecDepth 100000 in
theorem xH_start {s : State} {b : Nat} (hts : ∀ w ∈ lw_tbl, w.before #[Value.ref b] s = true) (hgv : (Jvm.Cond.and given_1 narrow_1).before #[Value.ref b] s = true) : ∃ sa : Nat → Nat, xHk (fun q : Nat => s.heap.size ≤ q) sa s ∧ va_Nw (.methodLinkNest RC 31 yL_init RC) s ∧ va_AO RP s := by
  have hs := flat_of_before _ hgv
  obtain ⟨a56, -, -, -, ha56, -⟩ := Cond.exactly_spec (hs (.exactly (.string "CurveRaster" 56) "java/lang/String") (by decide +kernel))
  obtain ⟨a63, -, -, -, ha63, -⟩ := Cond.exactly_spec (hs (.exactly (.string "CurveRaster" 63) "java/lang/String") (by decide +kernel))
  obtain ⟨a66, -, -, -, ha66, -⟩ := Cond.exactly_spec (hs (.exactly (.string "CurveRaster" 66) "java/lang/String") (by decide +kernel))
  obtain ⟨a68, -, -, -, ha68, -⟩ := Cond.exactly_spec (hs (.exactly (.string "CurveRaster" 68) "java/lang/String") (by decide +kernel))
  obtain ⟨a74, -, -, -, ha74, -⟩ := Cond.exactly_spec (hs (.exactly (.string "CurveRaster" 74) "java/lang/String") (by decide +kernel))
  obtain ⟨a92, -, -, -, ha92, -⟩ := Cond.exactly_spec (hs (.exactly (.string "CurveRaster" 92) "java/lang/String") (by decide +kernel))
  obtain ⟨a103, -, -, -, ha103, -⟩ := Cond.exactly_spec (hs (.exactly (.string "CurveRaster" 103) "java/lang/String") (by decide +kernel))
  obtain ⟨a110, -, -, -, ha110, -⟩ := Cond.exactly_spec (hs (.exactly (.string "CurveRaster" 110) "java/lang/String") (by decide +kernel))
  obtain ⟨a136, -, -, -, ha136, -⟩ := Cond.exactly_spec (hs (.exactly (.string "CurveRaster" 136) "java/lang/String") (by decide +kernel))
  obtain ⟨a138, -, -, -, ha138, -⟩ := Cond.exactly_spec (hs (.exactly (.string "CurveRaster" 138) "java/lang/String") (by decide +kernel))
  refine ⟨fun k => match k with | 56 => a56 | 63 => a63 | 66 => a66 | 68 => a68 | 74 => a74 | 92 => a92 | 103 => a103 | 110 => a110 | 136 => a136 | 138 => a138 | _ => 0, ⟨⟨?_, ?_, ?_, ?_, ?_⟩, ?_, ?_⟩, ?_, ?_⟩
  · intro x hx
    rcases List.mem_cons.mp hx with rfl | hx
    · exact va_Nw.of rfl (hts _ (by decide +kernel))
    · rcases List.mem_cons.mp hx with rfl | hx
      · exact va_Nw.of rfl (hts _ (by decide +kernel))
      · rcases List.mem_cons.mp hx with rfl | hx
        · exact va_Nw.of rfl (hts _ (by decide +kernel))
        · cases hx
  · intro x hx
    rcases List.mem_cons.mp hx with rfl | hx
    · exact va_Nw.of rfl (hts _ (by decide +kernel))
    · rcases List.mem_cons.mp hx with rfl | hx
      · exact va_Nw.of rfl (hts _ (by decide +kernel))
      · rcases List.mem_cons.mp hx with rfl | hx
        · exact va_Nw.of rfl (hts _ (by decide +kernel))
        · cases hx
  · intro k hk
    rcases (show k = 56 ∨ k = 63 ∨ k = 66 ∨ k = 68 ∨ k = 74 ∨ k = 92 ∨ k = 103 ∨ k = 110 ∨ k = 136 ∨ k = 138 by simpa [sIx] using hk) with rfl | rfl | rfl | rfl | rfl | rfl | rfl | rfl | rfl | rfl
    · exact vk_R.of (hts (.stringRef "CurveRaster" 56 "a coordinate is not -8192 .. 8191") (by decide +kernel)) ha56
    · exact vk_R.of (hts (.stringRef "CurveRaster" 63 "there are 512 points in all") (by decide +kernel)) ha63
    · exact vk_R.of (hts (.stringRef "CurveRaster" 66 "the open contour has no points") (by decide +kernel)) ha66
    · exact vk_R.of (hts (.stringRef "CurveRaster" 68 "there are 64 contours") (by decide +kernel)) ha68
    · exact vk_R.of (hts (.stringRef "CurveRaster" 74 "a coordinate would not be -8192 .. 8191") (by decide +kernel)) ha74
    · exact vk_R.of (hts (.stringRef "CurveRaster" 92 "a coordinate is not -16384 .. 16383") (by decide +kernel)) ha92
    · exact vk_R.of (hts (.stringRef "CurveRaster" 103 "no such row") (by decide +kernel)) ha103
    · exact vk_R.of (hts (.stringRef "CurveRaster" 110 "no such pixel") (by decide +kernel)) ha110
    · exact vk_R.of (hts (.stringRef "CurveRaster" 136 "no such extent") (by decide +kernel)) ha136
    · exact vk_R.of (hts (.stringRef "CurveRaster" 138 "there are no contours") (by decide +kernel)) ha138
  · exact vx_Zqof (hts _ (by decide +kernel)) (hts _ (by decide +kernel)) (hs (.isRef (.static Bundle.tN "UNASSIGNED_STACK" Bundle.steD)) (by decide +kernel)) (fun a ha h => Nat.not_le.mpr ha h)
  · exact vx_Zqof (hts _ (by decide +kernel)) (hts _ (by decide +kernel)) (hs (.isRef (.static Bundle.tN "SUPPRESSED_SENTINEL" Bundle.listD)) (by decide +kernel)) (fun a ha h => Nat.not_le.mpr ha h)
  · exact va_Nc.of (hs (.not (.castable ISE IAE)) (by decide +kernel))
  · exact va_Nc.of (hs (.not (.castable ISE IOB)) (by decide +kernel))
  · exact va_Nw.of rfl (hts _ (by decide +kernel))
  · exact va_AO.of (hts (.arrayOver (.object RP)) (by decide +kernel))

set_option maxHeartbeats 8000000 in
set_option maxRecDepth 100000 in
/-- the law, from its entry -/
theorem whole_start {p : Program} {e : Env} {s : State} {m : MethodId} {below : List Frame} {meth : Method} {c : Code} (l : Launch) (hlt : l.stackTraces = false) {b L : Nat} {xs : Nat → Int32} (hLL : L ≤ 2048) (C0 : lw_At p s m meth c b L xs) : W p l e room_1 s m #[Value.ref b] below meth c s.heap [] 0 0 (lw_Z below #[Value.ref b] s) (entryFrame m ([Value.ref b] : List Value).toArray 8) := by
  obtain ⟨hx, hb, hr, hml, hown, hts0, hX, hbl, hlocks, hgv⟩ := id C0
  obtain ⟨sa, hXH, hZ, hAO⟩ := xH_start hts0 hgv
  have hts : ∀ w ∈ Cond.initialized RW :: TB, w.before #[Value.ref b] s = true := fun w hw => (List.mem_cons.mp hw).elim (fun h => by rw [h]; exact hts0 _ (List.mem_filter.mp iniW).1) (fun h => hts0 w (List.mem_filter.mp h).1)
  have hown : s.vm.findClass RW = some m.cls := hown
  have hb : c.code = cW_law := hb
  obtain ⟨c0, i0, k0⟩ := u_known (C := RP) (T := TP) (N := 11) (n := 11) hts (fun w9 h9 => List.mem_cons_of_mem _ (inP w9 h9)) (hts _ (List.mem_cons_of_mem _ insP))
  obtain ⟨c1, i1, k1⟩ := u_known (C := RL) (T := TL) (N := 4) (n := 4) hts (fun w9 h9 => List.mem_cons_of_mem _ (inL w9 h9)) (hts _ (List.mem_cons_of_mem _ insL))
  obtain ⟨c2, i2, k2⟩ := u_known (C := RC) (T := TC) (N := 10) (n := 10) hts (fun w9 h9 => List.mem_cons_of_mem _ (inC w9 h9)) (hts _ (List.mem_cons_of_mem _ insC))
  obtain ⟨c3, i3, k3⟩ := u_known (C := RM) (T := TM) (N := 17) (n := 17) hts (fun w9 h9 => List.mem_cons_of_mem _ (inM w9 h9)) (hts _ (List.mem_cons_of_mem _ insM))
  obtain ⟨dC, dI, hKc⟩ : ∃ (dC : Nat → ClassId) (dI : Nat → Nat → Nat), ∀ (k : Nat) (q : vw_C), vwCl[k]? = some q → u_Kn s q.1 q.2.1 q.2.2 (dC k) (dI k) := by
    refine ⟨fun k => match k with | 0 => c0 | 1 => c1 | 2 => c2 | _ => c3, fun k => match k with | 0 => i0 | 1 => i1 | 2 => i2 | _ => i3, ?_⟩
    intro k q hq
    match k, hq with
    | 0, hq => cases hq; exact k0
    | 1, hq => cases hq; exact k1
    | 2, hq => cases hq; exact k2
    | 3, hq => cases hq; exact k3
    | k + 4, hq => simp [vwCl] at hq
  obtain ⟨A, hAe⟩ : ∃ A : Nat → Prop, A = fun q : Nat => s.heap.size ≤ q := ⟨_, rfl⟩
  rw [← hAe] at hXH
  have hA : ∀ q : Nat, s.heap.size ≤ q → A q := fun q h => by rw [hAe]; exact h
  have hbA : ¬ A b := by rw [hAe]; exact Nat.not_le.mpr hbl
  have hS : va_S A s.heap s.heap [] := va_S.rf
  have hK : va_K (dC, dI) vwCl [] s := ⟨hKc, fun k q h => by simp at h⟩
  have hP : va_P (dC, dI) vwCl [] s.heap := fun k q h => by simp at h
  have hD : va_D A [] := ⟨fun i j p q h => by simp at h, fun k q h => by simp at h⟩
  obtain ⟨args, hargs⟩ : ∃ a : Array Value, a = #[Value.ref b] := ⟨_, rfl⟩
  rw [← hargs] at hts ⊢
  obtain ⟨R, hR⟩ : ∃ R : Room, R = room_1 := ⟨_, rfl⟩
  rw [← hR]
  obtain ⟨Q, hQ⟩ : ∃ Q : State → Prop, Q = lw_Z below args s := ⟨_, rfl⟩
  rw [← hQ]
  refine x_entry (vs := [Value.ref b]) hargs (Nat.le_of_ble_eq_true rfl) (fun ls hl => ?_)
  have hl : lv_has ls 8 [(0, .ref b)] := hl
  refine va_new (ci := 2) (fs := [.null, .null, .null, .null, .null, .null, .int (iI 0), .int (iI 0), .int (iI 0), .int (iI (bz false))]) (C := RC) (T := TC) (N := 10) hx hb hts (fun w9 h9 => List.mem_cons_of_mem _ (inC w9 h9)) tyC tyC_ok hown (hts _ (List.mem_cons_of_mem _ clW_8)) (hts _ (List.mem_cons_of_mem _ insC)) (hts _ (List.mem_cons_of_mem _ iniC)) hK hP hD hS hA rfl fsC (by subst hR; exact Nat.le_of_ble_eq_true rfl) (by subst hR; exact Nat.le_of_ble_eq_true rfl) dW_law_0 (fun q0 H hP hD hS => ?_)
  have hP : va_P (dC, dI) vwCl [(q0, .inr (2, [.null, .null, .null, .null, .null, .null, .int (iI 0), .int (iI 0), .int (iI 0), .int (iI (bz false))]))] H := hP
  have hD : va_D A [(q0, .inr (2, [.null, .null, .null, .null, .null, .null, .int (iI 0), .int (iI 0), .int (iI 0), .int (iI (bz false))]))] := hD
  refine lv_dup hx hb dW_law_3 rfl ?_
  have hFc := xw_free hD hS hA
  refine va_callv (va_runI (As := []) (rest := [.ref q0]) ⟨hx, hb, hml, hown, hts⟩ (k_init l dC dI H.size q0) (cwI 0 hts (tb_call coC_init) rfl rfl rfl (hts _ (List.mem_cons_of_mem _ iniC)) (hts _ (List.mem_cons_of_mem _ mlW_48)) (hts _ (List.mem_cons_of_mem _ imC_init)) rfl (by decide +kernel) (by subst hR; exact ⟨Nat.le_of_ble_eq_true rfl, Nat.le_of_ble_eq_true rfl⟩)) ⟨fun a9 U9 g9 mk9 q9 => by obtain ⟨z0, z1, zP, zK, zD, zZ, zO⟩ := q9; exact ⟨z0, z1, zP, va_K.moved (u := U9) (U := U9.calling g9 mk9 a9) (Vm.Alike.refl U9.vm) zK, zD, va_Nw.same rfl (u := U9) rfl zZ, va_AO.moved (u := U9) (Vm.Alike.refl U9.vm) zO⟩, fun U hU hW => ⟨rfl, by rw [hU], by rw [hU]; exact hP, va_K.moved hW.alike hK, hD.weaken (fun _ _ _ _ => trivial), va_Nw.warmM hW hZ, va_AO.moved hW.alike hAO⟩⟩ rfl rfl hl.1 rfl (lv_room (Nat.le_of_ble_eq_true rfl)) dW_law_4 ⟨by subst hR; exact Nat.le_of_ble_eq_true rfl, by subst hR; exact Nat.le_of_ble_eq_true rfl⟩) hS (fun q9 _ h9 => hFc q9 h9) hFc (fun u t9 H1 locs1 ht9 hvm9 hw hB9 hz9 hk9 hS1 => ?_)
  obtain ⟨ad, cs⟩ := u
  have hw : ad 0 = q0 := hw
  subst hw
  obtain ⟨hP1, hK1, hD1⟩ := hB9
  rw [ht9] at hP1
  have hK : va_K (dC, dI) vwCl (cT cs) s := va_K.moved hvm9.symm hK1
  have hP : va_P (dC, dI) vwCl (cW ad cs 0 0 0 false (fun _ => 0) (fun _ => 0) (fun _ => false) (fun _ => none) (fun _ => 0) 0 0 0 0) H1 := hP1
  have hD : va_D A (cW ad cs 0 0 0 false (fun _ => 0) (fun _ => 0) (fun _ => false) (fun _ => none) (fun _ => 0) 0 0 0 0) := hD1.weaken (fun _ _ _ h9 => hFc _ h9)
  have hS := hS1
  clear hP1 hD1 hK1 hFc hz9 hk9 ht9 hvm9 hS1
  revert hP hD hS; generalize H1 = H; generalize locs1 = locs; intro hP hD hS
  refine lv_astore_n (lv' := [(1, .ref (ad 0)), (0, .ref b)]) hx hb dW_law_7 rfl hl (by decide) rfl (fun ls hl => ?_)
  refine va_new (ci := 3) (fs := [.int (iI 0), .int (iI (bz false)), .int (iI 0), .null, .null, .null, .int (iI 0), .null, .int (iI 0), .null, .null, .null, .int (iI 0), .null, .null, .long (lI 0), .long (lI 0)]) (C := RM) (T := TM) (N := 17) hx hb hts (fun w9 h9 => List.mem_cons_of_mem _ (inM w9 h9)) tyM tyM_ok hown (hts _ (List.mem_cons_of_mem _ clW_49)) (hts _ (List.mem_cons_of_mem _ insM)) (hts _ (List.mem_cons_of_mem _ iniM)) hK hP hD hS hA rfl fsM (by subst hR; exact Nat.le_of_ble_eq_true rfl) (by subst hR; exact Nat.le_of_ble_eq_true rfl) dW_law_8 (fun q8 H hP hD hS => ?_)
  refine lv_dup hx hb dW_law_11 rfl ?_
  have hPc := xs_R hP
  have hDc := xd_R hD
  have hKc' := hK.sub (tys' := []) [] rfl
  have hFc := xs_fR hD hS hA
  refine va_callv (va_runI (As := []) (rest := [.ref q8]) ⟨hx, hb, hml, hown, hts⟩ (m_init l dC dI H.size q8) (cwI 0 hts (tb_call coM_init) rfl rfl rfl (hts _ (List.mem_cons_of_mem _ iniM)) (hts _ (List.mem_cons_of_mem _ mlW_51)) (hts _ (List.mem_cons_of_mem _ imM_init)) rfl (by decide +kernel) (by subst hR; exact ⟨Nat.le_of_ble_eq_true rfl, Nat.le_of_ble_eq_true rfl⟩)) ⟨fun a9 U9 g9 mk9 q9 => by obtain ⟨z0, z1, zP, zK, zD⟩ := q9; exact ⟨z0, z1, zP, va_K.moved (u := U9) (U := U9.calling g9 mk9 a9) (Vm.Alike.refl U9.vm) zK, zD⟩, fun U hU hW => ⟨rfl, by rw [hU], by rw [hU]; exact hPc, va_K.moved hW.alike hKc', hDc.weaken (fun _ _ _ _ => trivial)⟩⟩ rfl rfl hl.1 rfl (lv_room (Nat.le_of_ble_eq_true rfl)) dW_law_12 ⟨by subst hR; exact Nat.le_of_ble_eq_true rfl, by subst hR; exact Nat.le_of_ble_eq_true rfl⟩) hS (fun q9 _ h9 => hFc q9 h9) hFc (fun u t9 H1 locs1 ht9 hvm9 hw hB9 hz9 hk9 hS1 => ?_)
  obtain ⟨am, cm⟩ := u
  have hw : am 0 = q8 := hw
  subst hw
  obtain ⟨hP1, hK1, hD1⟩ := hB9
  rw [ht9] at hP1
  have hK := va_K.app hK (va_K.moved hvm9.symm hK1)
  have hDn : va_D A ((cW ad cs 0 0 0 false (fun _ => 0) (fun _ => 0) (fun _ => false) (fun _ => none) (fun _ => 0) 0 0 0 0) ++ (mW am cm 0 false 0 0 0 0 0 0 (fun _ => 0) (fun _ => 0) (fun _ => false) (fun _ => 0) (fun _ => 0) (fun _ => 0) (fun _ => false) (fun _ => 0) (fun _ => false))) := xs_DR hP hD hD1 hFc
  have hP : va_P (dC, dI) vwCl ((cW ad cs 0 0 0 false (fun _ => 0) (fun _ => 0) (fun _ => false) (fun _ => none) (fun _ => 0) 0 0 0 0) ++ (mW am cm 0 false 0 0 0 0 0 0 (fun _ => 0) (fun _ => 0) (fun _ => false) (fun _ => 0) (fun _ => 0) (fun _ => 0) (fun _ => false) (fun _ => 0) (fun _ => false))) H1 := xs_PR hP hD hP1 hk9
  have hD := hDn
  have hS := hS1
  clear hP1 hD1 hK1 hFc hz9 hk9 ht9 hvm9 hS1 hDn hPc hDc hKc'
  revert hP hD hS; generalize H1 = H; generalize locs1 = locs; intro hP hD hS
  refine lv_astore_n (lv' := [(2, .ref (am 0)), (1, .ref (ad 0)), (0, .ref b)]) hx hb dW_law_15 rfl hl (by decide) rfl (fun ls hl => ?_)
  refine xi_iconst hx hb dW_law_16 ?_
  refine va_newa (atype := .long) (ty := .long) (a0 := (1, .inr (.inl (aL (fun _ => 0))))) (N' := 1) hx hb (hts _ (List.mem_cons_of_mem _ ac_long)) rfl hK hP hD hS hA (fun cA => rfl) (by decide +kernel) (by decide +kernel) (by decide) (by subst hR; exact Nat.le_of_ble_eq_true rfl) (by subst hR; exact Nat.le_of_ble_eq_true rfl) dW_law_17 (fun ao co H hK hP hD hS => ?_)
  refine lv_astore_n (lv' := [(3, .ref ao), (2, .ref (am 0)), (1, .ref (ad 0)), (0, .ref b)]) hx hb dW_law_19 rfl hl (by decide) rfl (fun ls hl => ?_)
  have hK : va_K (dC, dI) vwCl ((cT cs ++ [(co, .long)]) ++ mT cm) s := hK.sub [0, 1, 2, 3, 4, 14, 5, 6, 7, 8, 9, 10, 11, 12, 13] rfl
  have hDn : va_D A ((((cW ad cs 0 0 (clo 0 (fun _ => 0)) false (fun _ => 0) (fun _ => 0) (fun _ => false) (fun _ => none) (fun _ => 0) 0 0 0 0) ++ va_pl ([]) (pG (fun _ => PD.mk false 0 0 0 0 0 0))) ++ [(ao, .inl (co, 1, .inr (.inl (aL (fun _ => 0)))))]) ++ (mW am cm 0 false 0 0 0 0 0 0 (fun _ => 0) (fun _ => 0) (fun _ => false) (fun _ => 0) (fun _ => 0) (fun _ => 0) (fun _ => false) (fun _ => 0) (fun _ => false))) := xd_swap hD
  have hP : va_P (dC, dI) vwCl ((((cW ad cs 0 0 (clo 0 (fun _ => 0)) false (fun _ => 0) (fun _ => 0) (fun _ => false) (fun _ => none) (fun _ => 0) 0 0 0 0) ++ va_pl ([]) (pG (fun _ => PD.mk false 0 0 0 0 0 0))) ++ [(ao, .inl (co, 1, .inr (.inl (aL (fun _ => 0)))))]) ++ (mW am cm 0 false 0 0 0 0 0 0 (fun _ => 0) (fun _ => 0) (fun _ => false) (fun _ => 0) (fun _ => 0) (fun _ => 0) (fun _ => false) (fun _ => 0) (fun _ => false))) H := va_P.app (va_P.app (xs_L (xs_L hP)) (xs_R hP)) (xs_R (xs_L hP))
  have hD := hDn
  clear hDn
  refine xi_iconst hx hb dW_law_20 ?_
  refine lv_istore (lv' := [(4, .int (iI 0)), (3, .ref ao), (2, .ref (am 0)), (1, .ref (ad 0)), (0, .ref b)]) hx hb dW_law_21 hl (by decide) rfl (fun ls hl => ?_)
  have cut_23_1 : ∀ (fu_23 : Nat) (i : Int) (LP : List Nat) (G : Nat → PD) (nc : Int) (np : Int) (par : Bool) (X : Int → Int) (Y : Int → Int) (O : Int → Bool) (E : Int → Int) (PQ : Int → Option Nat) (Wd : Int → Int) (pw : Int) (pf : Int) (pu : Int) (ps : Int) (Fo : Int → Int) (ft : Int) (rs : Int) (npc : Int) (hi : Int) (lo : Int) (RX : Int → Int) (RY : Int → Int) (RO : Int → Bool) (PC : Int → Int) (CV : Int → Bool) (H : Heap) (locs : List Loc) (ls : Array Slot), (((L : Int) - i).toNat) < fu_23 → (0 ≤ i ∧ i ≤ (L : Int)) → (cInv LP G PQ X Y O E nc) → (lInv X Y E nc np) → va_P (dC, dI) vwCl ((((cW ad cs nc np (clo nc E) par X Y O PQ Wd pw pf pu ps) ++ va_pl LP (pG G)) ++ [(ao, .inl (co, 1, .inr (.inl (aL Fo))))]) ++ (mW am cm ft par np nc rs npc hi lo X Y O E RX RY RO PC CV)) H → va_D A ((((cW ad cs nc np (clo nc E) par X Y O PQ Wd pw pf pu ps) ++ va_pl LP (pG G)) ++ [(ao, .inl (co, 1, .inr (.inl (aL Fo))))]) ++ (mW am cm ft par np nc rs npc hi lo X Y O E RX RY RO PC CV)) → va_S A s.heap H locs → lv_has ls 8 [(0, .ref b), (1, .ref (ad 0)), (2, .ref (am 0)), (3, .ref ao), (4, .int (iI i))] → W p l e R s m args below meth c H locs (18 + 128 * i.toNat) (10401 + 1408 * i.toNat) Q (F0 m 23 ls []) := by
    intro fu_23
    induction fu_23 with
    | zero => intro _ _ _ _ _ _ _ _ _ _ _ _ _ _ _ _ _ _ _ _ _ _ _ _ _ _ _ _ _ _ hm; exact absurd hm (Nat.not_lt_zero _)
    | succ fu_23 ih_23 =>
      intro i LP G nc np par X Y O E PQ Wd pw pf pu ps Fo ft rs npc hi lo RX RY RO PC CV H locs ls hm ii hI hL hP hD hS hl
      refine lv_iload hx hb dW_law_23 (lv_at hl 4 rfl) ?_
      refine lv_aload_n hx hb dW_law_25 rfl (lv_at hl 0 rfl) ?_
      refine va_slen hx hb hX hbl hbA hS dW_law_26 ?_
      refine xi_top (y := .int (iI (L : Int))) (by rw [← iI_nI]; rfl) ?_
      refine xi_iconst hx hb dW_law_27 ?_
      refine xi_sub (z := (L : Int) - 4) hx hb dW_law_28 rfl ?_
      refine xi_icmp_gt (tgt := 789) hx hb dW_law_29 (by decide) (by omega) (by omega) (fun c_29 => ?_) (fun c_29 => ?_)
      · skip
        refine xi_iconst hx hb dW_law_789 ?_
        refine xi_top (y := .int 1) (by decide +kernel) ?_
        refine va_forget (fun q hq => by have h9 := hS.2.2 q hq; rw [hAe] at h9; exact h9) ?_
        refine W.widen (k := 601024) (n := 7293034) (by omega) (by omega) ?_
        subst hR; subst hQ; subst hargs
        exact lw_ret hx hb hr hlocks dW_law_790
      · skip
        refine lv_aload_n hx hb dW_law_32 rfl (lv_at hl 0 rfl) ?_
        refine lv_iload hx hb dW_law_33 (lv_at hl 4 rfl) ?_
        refine va_sld hx hb hX hbl hbA hS (vp_ini (by omega) hLL) dW_law_35 ?_
        refine xi_top (y := .int (iI (sc xs (i)))) (by rw [sc_at xs (by omega)]) ?_
        refine lv_bipush (v := iI 15) hx hb dW_law_36 (by decide +kernel) ?_
        obtain ⟨j, hj9, ej⟩ := pk_andE (iI (sc xs (i))) (m := iI 15) 4 (by decide +kernel)
        have hj9 : j < 16 := hj9
        refine lv_iand hx hb dW_law_38 ?_
        refine xi_top (y := .int (iI (j : Int))) (by rw [ej, iI_nI]) ?_
        have hj : LJoin p l e R s m args below meth c Q A dC dI ad am cs cm ao co b i (18 + 128 * i.toNat) (10401 + 1408 * i.toNat) := by
          intro LP G nc np par X Y O E PQ Wd pw pf pu ps Fo ft rs npc hi lo RX RY RO PC CV k9 n9 H locs ls hk9 hn9 hI hL hP hD hS hl
          refine xi_iinc (z := i + 4) (lv' := [(4, .int (iI (i + 4))), (0, .ref b), (1, .ref (ad 0)), (2, .ref (am 0)), (3, .ref ao)]) hx hb dW_law_783 hl (k := 4) rfl rfl (by decide) rfl (fun ls hl => ?_)
          refine lv_goto (tgt := 23) hx hb dW_law_786 (by decide) ?_
          refine W.widen (k := 18 + 128 * (i + 4 : Int).toNat) (n := 10401 + 1408 * (i + 4 : Int).toNat) (by omega) (by omega) ?_
          exact ih_23 (i + 4) LP G nc np par X Y O E PQ Wd pw pf pu ps Fo ft rs npc hi lo RX RY RO PC CV _ _ _ (by omega) (by omega) (hI) (hL) hP hD hS (lv_sub hl [1, 2, 3, 4, 0] rfl)
        have hKN : 18 + 128 * i.toNat + 512 ≤ R.cells ∧ 10401 + 1408 * i.toNat + 5632 ≤ R.slots := by (subst hR; show 18 + 128 * i.toNat + 512 ≤ 601024 ∧ 10401 + 1408 * i.toNat + 5632 ≤ 7293034; omega)
        rcases (show (j : Int) = 0 ∨ (j : Int) = 1 ∨ (j : Int) = 2 ∨ (j : Int) = 3 ∨ (j : Int) = 4 ∨ (j : Int) = 5 ∨ (j : Int) = 6 ∨ (j : Int) = 7 ∨ (j : Int) = 8 ∨ (j : Int) = 9 ∨ (j : Int) = 10 ∨ (j : Int) = 11 ∨ (j : Int) = 12 ∨ ((j : Int) < 0 ∨ 12 < (j : Int)) by omega) with hz_0 | hz_1 | hz_2 | hz_3 | hz_4 | hz_5 | hz_6 | hz_7 | hz_8 | hz_9 | hz_10 | hz_11 | hz_12 | hz_d
        · refine lv_tableIn (tgt := 104) hx hb dW_law_39 (by rw [iI_toInt (by omega)]; omega) (by rw [iI_toInt (by omega)]; omega) (by rw [iI_toInt (by omega), hz_0]; rfl) (by decide) ?_
          exact law_0 l hlt hx hb hml hown hts hX hbl hA hbA hXH hK hR hLL (by omega) hKN hj LP G nc np par X Y O E PQ Wd pw pf pu ps Fo ft rs npc hi lo RX RY RO PC CV hI hL hP hD hS (lv_sub hl [0, 1, 2, 3, 4] rfl)
        · refine lv_tableIn (tgt := 200) hx hb dW_law_39 (by rw [iI_toInt (by omega)]; omega) (by rw [iI_toInt (by omega)]; omega) (by rw [iI_toInt (by omega), hz_1]; rfl) (by decide) ?_
          exact law_1 l hlt hx hb hml hown hts hX hbl hA hbA hXH hK hR hLL (by omega) hKN hj LP G nc np par X Y O E PQ Wd pw pf pu ps Fo ft rs npc hi lo RX RY RO PC CV hI hL hP hD hS (lv_sub hl [0, 1, 2, 3, 4] rfl)
        · refine lv_tableIn (tgt := 244) hx hb dW_law_39 (by rw [iI_toInt (by omega)]; omega) (by rw [iI_toInt (by omega)]; omega) (by rw [iI_toInt (by omega), hz_2]; rfl) (by decide) ?_
          exact law_2 l hlt hx hb hml hown hts hX hbl hA hbA hXH hK hR hLL (by omega) hKN hj LP G nc np par X Y O E PQ Wd pw pf pu ps Fo ft rs npc hi lo RX RY RO PC CV hI hL hP hD hS (lv_sub hl [0, 1, 2, 3, 4] rfl)
        · refine lv_tableIn (tgt := 257) hx hb dW_law_39 (by rw [iI_toInt (by omega)]; omega) (by rw [iI_toInt (by omega)]; omega) (by rw [iI_toInt (by omega), hz_3]; rfl) (by decide) ?_
          exact law_3 l hlt hx hb hml hown hts hX hbl hA hbA hXH hK hR hLL (by omega) hKN hj LP G nc np par X Y O E PQ Wd pw pf pu ps Fo ft rs npc hi lo RX RY RO PC CV hI hL hP hD hS (lv_sub hl [0, 1, 2, 3, 4] rfl)
        · refine lv_tableIn (tgt := 270) hx hb dW_law_39 (by rw [iI_toInt (by omega)]; omega) (by rw [iI_toInt (by omega)]; omega) (by rw [iI_toInt (by omega), hz_4]; rfl) (by decide) ?_
          exact law_4 l hlt hx hb hml hown hts hX hbl hA hbA hXH hK hR hLL (by omega) hKN hj LP G nc np par X Y O E PQ Wd pw pf pu ps Fo ft rs npc hi lo RX RY RO PC CV hI hL hP hD hS (lv_sub hl [0, 1, 2, 3, 4] rfl)
        · refine lv_tableIn (tgt := 318) hx hb dW_law_39 (by rw [iI_toInt (by omega)]; omega) (by rw [iI_toInt (by omega)]; omega) (by rw [iI_toInt (by omega), hz_5]; rfl) (by decide) ?_
          exact law_5 l hlt hx hb hml hown hts hX hbl hA hbA hXH hK hR hLL (by omega) hKN hj LP G nc np par X Y O E PQ Wd pw pf pu ps Fo ft rs npc hi lo RX RY RO PC CV hI hL hP hD hS (lv_sub hl [0, 1, 2, 3, 4] rfl)
        · refine lv_tableIn (tgt := 359) hx hb dW_law_39 (by rw [iI_toInt (by omega)]; omega) (by rw [iI_toInt (by omega)]; omega) (by rw [iI_toInt (by omega), hz_6]; rfl) (by decide) ?_
          exact law_6 l hlt hx hb hml hown hts hX hbl hA hbA hXH hK hR hLL (by omega) hKN hj LP G nc np par X Y O E PQ Wd pw pf pu ps Fo ft rs npc hi lo RX RY RO PC CV hI hL hP hD hS (lv_sub hl [0, 1, 2, 3, 4] rfl)
        · refine lv_tableIn (tgt := 384) hx hb dW_law_39 (by rw [iI_toInt (by omega)]; omega) (by rw [iI_toInt (by omega)]; omega) (by rw [iI_toInt (by omega), hz_7]; rfl) (by decide) ?_
          exact law_7 l hlt hx hb hml hown hts hX hbl hA hbA hXH hK hR hLL (by omega) hKN hj LP G nc np par X Y O E PQ Wd pw pf pu ps Fo ft rs npc hi lo RX RY RO PC CV hI hL hP hD hS (lv_sub hl [0, 1, 2, 3, 4] rfl)
        · refine lv_tableIn (tgt := 452) hx hb dW_law_39 (by rw [iI_toInt (by omega)]; omega) (by rw [iI_toInt (by omega)]; omega) (by rw [iI_toInt (by omega), hz_8]; rfl) (by decide) ?_
          exact law_8 l hlt hx hb hml hown hts hX hbl hA hbA hXH hK hR hLL (by omega) hKN hj LP G nc np par X Y O E PQ Wd pw pf pu ps Fo ft rs npc hi lo RX RY RO PC CV hI hL hP hD hS (lv_sub hl [0, 1, 2, 3, 4] rfl)
        · refine lv_tableIn (tgt := 507) hx hb dW_law_39 (by rw [iI_toInt (by omega)]; omega) (by rw [iI_toInt (by omega)]; omega) (by rw [iI_toInt (by omega), hz_9]; rfl) (by decide) ?_
          exact law_9 l hlt hx hb hml hown hts hX hbl hA hbA hXH hK hR hLL (by omega) hKN hj LP G nc np par X Y O E PQ Wd pw pf pu ps Fo ft rs npc hi lo RX RY RO PC CV hI hL hP hD hS (lv_sub hl [0, 1, 2, 3, 4] rfl)
        · refine lv_tableIn (tgt := 575) hx hb dW_law_39 (by rw [iI_toInt (by omega)]; omega) (by rw [iI_toInt (by omega)]; omega) (by rw [iI_toInt (by omega), hz_10]; rfl) (by decide) ?_
          exact law_10 l hlt hx hb hml hown hts hX hbl hA hbA hXH hK hR hLL (by omega) hKN hj LP G nc np par X Y O E PQ Wd pw pf pu ps Fo ft rs npc hi lo RX RY RO PC CV hI hL hP hD hS (lv_sub hl [0, 1, 2, 3, 4] rfl)
        · refine lv_tableIn (tgt := 631) hx hb dW_law_39 (by rw [iI_toInt (by omega)]; omega) (by rw [iI_toInt (by omega)]; omega) (by rw [iI_toInt (by omega), hz_11]; rfl) (by decide) ?_
          exact law_11 l hlt hx hb hml hown hts hX hbl hA hbA hXH hK hR hLL (by omega) hKN hj LP G nc np par X Y O E PQ Wd pw pf pu ps Fo ft rs npc hi lo RX RY RO PC CV hI hL hP hD hS (lv_sub hl [0, 1, 2, 3, 4] rfl)
        · refine lv_tableIn (tgt := 727) hx hb dW_law_39 (by rw [iI_toInt (by omega)]; omega) (by rw [iI_toInt (by omega)]; omega) (by rw [iI_toInt (by omega), hz_12]; rfl) (by decide) ?_
          exact law_12 l hlt hx hb hml hown hts hX hbl hA hbA hXH hK hR hLL (by omega) hKN hj LP G nc np par X Y O E PQ Wd pw pf pu ps Fo ft rs npc hi lo RX RY RO PC CV hI hL hP hD hS (lv_sub hl [0, 1, 2, 3, 4] rfl)
        · refine lv_tableOut (tgt := 783) hx hb dW_law_39 (by rw [iI_toInt (by omega)]; omega) (by decide) ?_
          exact hj LP G nc np par X Y O E PQ Wd pw pf pu ps Fo ft rs npc hi lo RX RY RO PC CV _ _ _ _ _ (by omega) (by omega) ((show cInv LP G PQ X Y O E nc ∧ lInv X Y E nc np from ⟨hI, hL⟩)).1 ((show cInv LP G PQ X Y O E nc ∧ lInv X Y E nc np from ⟨hI, hL⟩)).2 hP hD hS (lv_sub hl [0, 1, 2, 3, 4] rfl)
  refine W.widen (k := 18 + 128 * (0 : Int).toNat) (n := 10401 + 1408 * (0 : Int).toNat) (by omega) (by omega) ?_
  exact cut_23_1 ((((L : Int) - (0 : Int)).toNat) + 1) 0 ([]) (fun _ => PD.mk false 0 0 0 0 0 0) 0 0 false (fun _ => 0) (fun _ => 0) (fun _ => false) (fun _ => 0) (fun _ => none) (fun _ => 0) 0 0 0 0 (fun _ => 0) 0 0 0 0 0 (fun _ => 0) (fun _ => 0) (fun _ => false) (fun _ => 0) (fun _ => false) _ _ _ (Nat.lt_succ_self _) (by omega) (inv_0.1) ((inv_0 (LP := []) (G := fun _ => PD.mk false 0 0 0 0 0 0) (PQ := fun _ => none) (O := fun _ => false)).2) hP hD hS (lv_sub hl [4, 3, 2, 1, 0] rfl)
set_option maxHeartbeats 4000000 in
theorem lw_walk (l : Launch) (hlt : l.stackTraces = false) (b : Addr) (xs : List Int32) : MetFree l x (headSpec (Jvm.Cond.code x code maxLocals ret :: tables_1) room_1) (lw_P b xs) (fun _ _ _ _ _ => True) lw_Q := by
  refine MetFree.of_bodyS (code := code) (maxLocals := maxLocals) (ret := ret) (by decide) ?_ ?_
  · intro args s m h hn
    obtain ⟨meth, c, h1, h2, h3, h4, h5, h6, -, -⟩ := Cond.code_spec hn (atoms_spec (ws := Jvm.Cond.code x code maxLocals ret :: tables_1) h _ List.mem_cons_self)
    exact ⟨meth, c, h1, h2, h3, h4, h5, h6⟩
  · intro p e s m args below meth c s₁ B hml0 hP _
    obtain ⟨rfl, hx, hbd, hgv⟩ := hP
    obtain ⟨scr, harrAt, hlist, hof, hsmall⟩ := hx
    obtain ⟨hcb, hkn, -, -⟩ := State.arrayAt?_spec harrAt
    have hown : s.vm.findClass R_law = some m.cls := findClass_of_methodNamed B.named
    have hts0 : ∀ c ∈ (Jvm.Cond.code x code maxLocals ret :: tables_1), c.before #[Value.ref b] s = true := atoms_spec (ws := Jvm.Cond.code x code maxLocals ret :: tables_1) B.pre
    have hts : ∀ w ∈ lw_tbl, w.before #[Value.ref b] s = true := k2_hts_sels lw_privs (fun w hw => hts0 w (List.mem_cons_of_mem _ hw)) lw_privs_ok
    have hml : c.maxLocals = 8 := B.maxLocals_eq (hts0 _ List.mem_cons_self)
    have X₀ : Stand p l e room_1 s m #[Value.ref b] below meth c s₁ [] 0 0 := Stand.of_body B
    have hh0 : s₁.heap = s.heap := by rw [B.state]; rfl
    have hsz : scr.slots.size = xs.length := by rw [← Array.length_toList, hlist, List.length_map]
    have hval : ∀ j : Nat, j < xs.length → scr.slots[j]? = some (.int (xs.getD j 0)) := fun j hj => by
      rw [← Array.getElem?_toList, hlist]
      simp [hj]
    have hbl : b < s.heap.size := (Array.getElem?_eq_some_iff.mp hcb).1
    have hX : va_X b xs.length (fun j => xs.getD j 0) s s.heap := ⟨scr, hcb, hof, hkn, hsz, hval⟩
    have K : W p l e room_1 s m #[Value.ref b] below meth c s₁.heap [] 0 0 (lw_Z below #[Value.ref b] s) (entryFrame m ([Value.ref b] : List Value).toArray 8) := by
      rw [hh0]
      exact whole_start l hlt hbd ⟨B.exec, B.bytes, B.returns, hml, hown, hts, hX, hbl, B.notSynchronized, hgv⟩
    obtain ⟨t, a1, o, b1, b2, b3⟩ := K s₁ rfl X₀
    exact ⟨t, o, a1, b1, b2, b3⟩
theorem lw_pre_spec {args : Array Value} {s : State} (h : (Jvm.Cond.and given_1 narrow_1).before args s = true) (hr : rest_1_c.before args s = true) : ∃ (b : Addr) (xs : List Int32), lw_P b xs args s := by
  have hs := flat_of_before _ h
  have hq := flat_of_before _ hr
  have hc : (Cond.count 1).before args s = true := hs _ (by decide +kernel)
  have harr : (Cond.arrayOf (.arg 0) .int).before args s = true := hs _ (by decide +kernel)
  have hle : (Cond.le (.length (.arg 0)) (.int 2048)).before args s = true := hs _ (by decide +kernel)
  have hlen : (Cond.isInt (.length (.arg 0))).before args s = true := hq _ (by decide +kernel)
  have hall : (Cond.all (.arg 0) (.isInt (.elem (.arg 0) (.index 0)))).before args s = true := hq _ (by decide +kernel)
  obtain ⟨b, xs, hb, hx⟩ := State.ints_of_pre rfl harr hlen hall
  have hsm : xs.length < 2 ^ 31 := hx.choose_spec.2.2.2
  have hev : (Term.length (.arg 0)).eval args s none [] s = some (.int xs.length.toInt32) := hx.length_eval hb
  have hv := Cond.le_ints hev (show (Term.int 2048).eval args s none [] s = some (.int 2048) from rfl)
  have hd : xs.length.toInt32 ≤ 2048 := by
    simpa [Cond.before, Cond.holds, hv] using hle
  have hN : xs.length ≤ 2048 := (Int32.ofNat_le_ofNat hsm (by decide)).mp (show Int32.ofNat xs.length ≤ Int32.ofNat 2048 from hd)
  exact ⟨b, xs, Cond.one_arg hc (show args[0]? = some (.ref b) from hb), hx, hN, h⟩
theorem lw_comes (l : Launch) (hlt : l.stackTraces = false) : Comes l x (Jvm.Cond.code x code maxLocals ret :: tables_1) room_1 (fun tb e args s => Calls_1 tb e args s ∧ rest_1 tb e args s ∧ Pre_1 tb e args s)
    (fun _ _ args s o t => lw_Q args s o t) := by
  intro p e ha hc hk s m args below hf hfit hheap happ hpre
  obtain ⟨b, xs, hP⟩ := lw_pre_spec hpre.2.2 hpre.2.1
  obtain ⟨k, o, h1, h2, h3, hQ⟩ := lw_walk l hlt b xs p e ha hc hk s m args below hf ((Spec.applies_iff_loose hf).mp happ).1 hP trivial
  exact ⟨k, o, h1, h2, h3, hQ⟩
theorem lw_frame {s t : State} {o : Outcome} {args : Array Value} (h : Framed s o t [] 601024 7293034) :
    Framed s o t (fieldLocs frame_1_writes args s ++ arrayLocs frame_1_arrays args s ++ staticLocs frame_1_statics s) 601024 7293034 := h
theorem lw_limb (L : Cond) (hL : ∀ (args : Array Value) (s t : State), L.after args s (.returned (some (.int 1))) t = true) :
    ArmFor flags0 classFile x code maxLocals ret World_1 tables_1 room_1 Calls_1 rest_1 Pre_1
      (fun tb e a s o t => postC L tb e a s o t ∧ Framed s o t (fieldLocs frame_1_writes a s ++ arrayLocs frame_1_arrays a s ++ staticLocs frame_1_statics s) 601024 7293034) := by
  intro l hfl _ _ p e ha hc hk s m args below hf hfit hheap happ hpre
  have hlt : l.stackTraces = false := by
    show (!l.flags.contains noTraceFlag) = false
    rw [hfl]; decide +kernel
  obtain ⟨k, o, h1, h2, h3, rfl, hF⟩ := lw_comes l hlt p e ha hc hk s m args below hf hfit hheap happ hpre
  exact ⟨k, _, h1, h2, h3, hL args s _, lw_frame hF⟩
theorem i_vc : Claimed_1_1 ∧ Claimed_1_2 := ⟨lw_limb limb_1_1 (fun args s t => by simp [limb_1_1, Cond.after, Cond.holds, Cond.value]), lw_limb limb_1_2 (fun args s t => Cond.after_iff.mpr (by
  first | (rw [show limb_1_2 = Cond.eq .result (.int 1) from rfl, Cond.eq_ints (x := 1) (y := 1) rfl rfl]; simp; done) | (simp [limb_1_2, Cond.value, Term.eval]; done)))⟩
