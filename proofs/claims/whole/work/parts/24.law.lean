/-! the law: add, close, move -/
theorem fC_1 {np nc : Int} {E : Int → Int} (h : fC np nc E ≠ 0) : np = clo nc E ∨ 64 ≤ nc := by
  unfold fC at h
  split at h
  · omega
  · exact absurd rfl h
theorem fC_0 {np nc : Int} {E : Int → Int} (h : fC np nc E = 0) (hn : nc ≤ 64) : ¬ (np = clo nc E ∨ 64 ≤ nc) := by
  unfold fC at h
  split at h
  · cases h
  · omega

set_option maxHeartbeats 4000000 in
set_option maxRecDepth 100000 in
theorem law_0 (l : Launch) (hlt : l.stackTraces = false) {p : Program} {e : Env} {R : Room} {s : State} {m : MethodId} {args : Array Value} {below : List Frame} {meth : Method} {c : Code} {Q : State → Prop} {A : Nat → Prop} {dC : Nat → ClassId} {dI : Nat → Nat → Nat} {ad am : Nat → Nat} {cs cm : Nat → ClassId} {ao : Nat} {co : ClassId} {b L : Nat} {xs : Nat → Int32} {sa : Nat → Nat} (hx : p.tables.exec = Jvm.exec) (hb : c.code = cW_law) (hml : c.maxLocals = 8) (hown : s.vm.findClass RW = some m.cls) (hts : ∀ w ∈ Cond.initialized RW :: TB, w.before args s = true) (hX : va_X b L xs s s.heap) (hbl : b < s.heap.size) (hA : ∀ q : Nat, s.heap.size ≤ q → A q) (hbA : ¬ A b) (hXH : xHk A sa s) (hK : va_K (dC, dI) vwCl ((cT cs ++ [(co, .long)]) ++ mT cm) s) (hR : R = room_1) (hLL : L ≤ 2048) {i : Int} (hi4 : 0 ≤ i ∧ i + 4 ≤ (L : Int)) {K N : Nat} (hKN : K + 512 ≤ R.cells ∧ N + 5632 ≤ R.slots) (hj : LJoin p l e R s m args below meth c Q A dC dI ad am cs cm ao co b i K N) (LP : List Nat) (G : Nat → PD) (nc np : Int) (par : Bool) (X Y : Int → Int) (O : Int → Bool) (E : Int → Int) (PQ : Int → Option Nat) (Wd : Int → Int) (pw pf pu ps : Int) (Fo : Int → Int) (ft rs npc hi lo : Int) (RX RY : Int → Int) (RO : Int → Bool) (PC : Int → Int) (CV : Int → Bool) {H : Heap} {locs : List Loc} {ls : Array Slot} (hI : cInv LP G PQ X Y O E nc) (hL : lInv X Y E nc np) (hP : va_P (dC, dI) vwCl ((((cW ad cs nc np (clo nc E) par X Y O PQ Wd pw pf pu ps) ++ va_pl LP (pG G)) ++ [(ao, .inl (co, 1, .inr (.inl (aL Fo))))]) ++ (mW am cm ft par np nc rs npc hi lo X Y O E RX RY RO PC CV)) H) (hD : va_D A ((((cW ad cs nc np (clo nc E) par X Y O PQ Wd pw pf pu ps) ++ va_pl LP (pG G)) ++ [(ao, .inl (co, 1, .inr (.inl (aL Fo))))]) ++ (mW am cm ft par np nc rs npc hi lo X Y O E RX RY RO PC CV))) (hS : va_S A s.heap H locs) (hl : lv_has ls 8 [(0, .ref b), (1, .ref (ad 0)), (2, .ref (am 0)), (3, .ref ao), (4, .int (iI i))]) : W p l e R s m args below meth c H locs K N Q (F0 m 104 ls []) := by
  have hLi := hL.1
  have hL3 := hL.2.2.1
  have hok := inv_ok hI hL
  refine lv_aload_n hx hb dW_law_104 rfl (lv_at hl 1 rfl) ?_
  refine lv_aload_n hx hb dW_law_105 rfl (lv_at hl 0 rfl) ?_
  refine lv_iload hx hb dW_law_106 (lv_at hl 4 rfl) ?_
  refine xi_iconst hx hb dW_law_108 ?_
  refine xi_add (z := i + 1) hx hb dW_law_109 rfl ?_
  refine va_sld hx hb hX hbl hbA hS (vp_ini (by omega) hLL) dW_law_110 ?_
  refine xi_top (y := .int (iI (sc xs (i + 1)))) (by rw [sc_at xs (by omega)]) ?_
  refine lv_aload_n hx hb dW_law_111 rfl (lv_at hl 0 rfl) ?_
  refine lv_iload hx hb dW_law_112 (lv_at hl 4 rfl) ?_
  refine xi_iconst hx hb dW_law_114 ?_
  refine xi_add (z := i + 2) hx hb dW_law_115 rfl ?_
  refine va_sld hx hb hX hbl hbA hS (vp_ini (by omega) hLL) dW_law_116 ?_
  refine xi_top (y := .int (iI (sc xs (i + 2)))) (by rw [sc_at xs (by omega)]) ?_
  have cut_131_1 : ∀ (ls : Array Slot), lv_has ls 8 [(0, .ref b), (1, .ref (ad 0)), (2, .ref (am 0)), (3, .ref ao), (4, .int (iI i))] → W p l e R s m args below meth c H locs K N Q (F0 m 131 ls [.int (iI (bz (decide (sc xs (i + 3) ≠ 0)))), .int (iI (sc xs (i + 2))), .int (iI (sc xs (i + 1))), .ref (ad 0)]) := by
    intro  ls hl
    refine lv_aload_n hx hb dW_law_131 rfl (lv_at hl 3 rfl) ?_
    have hPc := xs_L hP
    have hKc := hK.sub (tys' := cT cs ++ [(co, .long)]) [0, 1, 2, 3, 4, 5] rfl
    have hDc := xd_L hD
    have hFc := xs_fL hD hS hA
    refine va_calli (vx_runSW (As := [.ref (ad 0), .int (iI (sc xs (i + 1))), .int (iI (sc xs (i + 2))), .int (iI (bz (decide (sc xs (i + 3) ≠ 0)))), .ref ao]) (rest := []) ⟨hx, hb, hml, hown, hts⟩ (h_add l dC dI ad cs H.size hlt sa ao co LP G nc np (clo nc E) par X Y O PQ Wd pw pf pu ps Fo (sc xs (i + 1)) (sc xs (i + 2)) (decide (sc xs (i + 3) ≠ 0)) (by omega) (by omega) (sc_in xs _) (sc_in xs _)) (vx_cwSW 5 hts (tb_S mlW_52 smW_add iniW coW_add) rfl rfl rfl (by decide +kernel) (by subst hR; exact ⟨Nat.le_of_ble_eq_true rfl, Nat.le_of_ble_eq_true rfl⟩)) ⟨fun a9 U9 g9 mk9 q9 => by obtain ⟨q0, q1, qP, qK, qD, qF⟩ := q9; exact ⟨q0, q1, qP, va_K.moved (u := U9) (U := U9.calling g9 mk9 a9) (Vm.Alike.refl U9.vm) qK, qD, qF.calling g9 mk9 a9⟩, fun U hU hW => ⟨rfl, by rw [hU], by rw [hU]; exact hPc, va_K.moved hW.alike hKc, hDc.weaken (fun _ _ _ _ => trivial), (hXH.move hW (fun a h1 h2 => by rw [hU]; exact hS.2.1 a h1 h2)).narrow hFc⟩⟩ rfl rfl hl.1 rfl (lv_room (Nat.le_of_ble_eq_true rfl)) dW_law_132 ⟨by omega, by omega⟩) hS (fun q9 _ h9 => hFc q9 h9) hFc (fun r_132 u_132 t9 H1 locs1 ht9 hvm9 hw_132 hB9 hz9 hk9 hS1 => ?_)
    obtain ⟨hP1, hK1, hD1⟩ := hB9
    rw [ht9] at hP1
    obtain ⟨np1, X1, Y1, O1, Fo1⟩ := u_132
    have hDn : va_D A ((((cW ad cs nc np1 (clo nc E) par X1 Y1 O1 PQ Wd pw pf pu ps) ++ va_pl LP (pG G)) ++ [(ao, .inl (co, 1, .inr (.inl (aL Fo1))))]) ++ (mW am cm ft par np nc rs npc hi lo X Y O E RX RY RO PC CV)) := xs_DL hP hD hD1 hFc
    have hP : va_P (dC, dI) vwCl ((((cW ad cs nc np1 (clo nc E) par X1 Y1 O1 PQ Wd pw pf pu ps) ++ va_pl LP (pG G)) ++ [(ao, .inl (co, 1, .inr (.inl (aL Fo1))))]) ++ (mW am cm ft par np nc rs npc hi lo X Y O E RX RY RO PC CV)) H1 := xs_PL hP hD hP1 hk9
    have hD := hDn
    have hS := hS1
    clear hDn hP1 hK1 hD1 hPc hKc hDc hFc hz9 hk9 ht9 hvm9 hS1
    revert hP hD hS; generalize H1 = H; generalize locs1 = locs; intro hP hD hS
    obtain ⟨hr_132, hz_132, hy_132⟩ := hw_132; subst hr_132
    refine lv_istore (lv' := [(5, .int (iI (fA (sc xs (i + 1)) (sc xs (i + 2)) np))), (0, .ref b), (1, .ref (ad 0)), (2, .ref (am 0)), (3, .ref ao), (4, .int (iI i))]) hx hb dW_law_135 hl (by decide) rfl (fun ls hl => ?_)
    refine lv_aload_n hx hb dW_law_137 rfl (lv_at hl 3 rfl) ?_
    refine lv_aload_n hx hb dW_law_138 rfl (lv_at hl 1 rfl) ?_
    refine lv_iload hx hb dW_law_139 (lv_at hl 5 rfl) ?_
    refine xi_iconst hx hb dW_law_141 ?_
    refine xi_add (z := i + 1) hx hb dW_law_142 rfl ?_
    refine va_sld hx hb hX hbl hbA hS (vp_ini (by omega) hLL) dW_law_143 ?_
    refine xi_top (y := .int (iI (sc xs (i + 1)))) (by rw [sc_at xs (by omega)]) ?_
    refine lv_aload_n hx hb dW_law_144 rfl (lv_at hl 1 rfl) ?_
    refine lv_iload hx hb dW_law_145 (lv_at hl 5 rfl) ?_
    refine xi_iconst hx hb dW_law_147 ?_
    refine xi_add (z := i + 2) hx hb dW_law_148 rfl ?_
    refine va_sld hx hb hX hbl hbA hS (vp_ini (by omega) hLL) dW_law_149 ?_
    refine xi_top (y := .int (iI (sc xs (i + 2)))) (by rw [sc_at xs (by omega)]) ?_
    have cut_164_2 : ∀ (ls : Array Slot), lv_has ls 8 [(5, .int (iI (fA (sc xs (i + 1)) (sc xs (i + 2)) np))), (0, .ref b), (1, .ref (ad 0)), (2, .ref (am 0)), (3, .ref ao), (4, .int (iI i))] → W p l e R s m args below meth c H locs (K + 1) (N + 6) Q (F0 m 164 ls [.int (iI (bz (decide (sc xs (i + 3) ≠ 0)))), .int (iI (sc xs (i + 2))), .int (iI (sc xs (i + 1))), .ref (am 0)]) := by
      intro  ls hl
      have hPc := xs_R hP
      have hKc := hK.sub (tys' := mT cm) [6, 7, 8, 9, 10, 11, 12, 13, 14] rfl
      have hDc := xd_R hD
      have hFc := xs_fR hD hS hA
      refine va_calli (va_runV (As := [.int (iI (sc xs (i + 1))), .int (iI (sc xs (i + 2))), .int (iI (bz (decide (sc xs (i + 3) ≠ 0))))]) (rest := []) ⟨hx, hb, hml, hown, hts⟩ (m_add l dC dI am cm H.size ft par np nc rs npc hi lo X Y O E RX RY RO PC CV (sc xs (i + 1)) (sc xs (i + 2)) (decide (sc xs (i + 3) ≠ 0)) hLi (by omega) (sc_in xs _) (sc_in xs _)) (cwV 3 hts (tb_V mlW_57 imM_add seM_add iniM coM_add) rfl rfl rfl (by decide +kernel) (by subst hR; exact ⟨Nat.le_of_ble_eq_true rfl, Nat.le_of_ble_eq_true rfl⟩)) ⟨fun a9 U9 g9 mk9 q9 => by obtain ⟨q0, q1, qP, qK, qD⟩ := q9; exact ⟨q0, q1, qP, va_K.moved (u := U9) (U := U9.calling g9 mk9 a9) (Vm.Alike.refl U9.vm) qK, qD⟩, va_recv hKc hPc (ci := 3) (q0 := 0) rfl rfl, fun U hU hW => ⟨rfl, by rw [hU], by rw [hU]; exact hPc, va_K.moved hW.alike hKc, hDc.weaken (fun _ _ _ _ => trivial)⟩⟩ rfl rfl hl.1 rfl (lv_room (Nat.le_of_ble_eq_true rfl)) dW_law_164 ⟨by omega, by omega⟩) hS (fun q9 _ h9 => hFc q9 h9) hFc (fun r_164 v_164 t9 H1 locs1 ht9 hvm9 hw_164 hB9 hz9 hk9 hS1 => ?_)
      obtain ⟨hP1, hK1, hD1⟩ := hB9
      rw [ht9] at hP1
      obtain ⟨ft1, np2, X2, Y2, O2⟩ := v_164
      have hDn : va_D A ((((cW ad cs nc np1 (clo nc E) par X1 Y1 O1 PQ Wd pw pf pu ps) ++ va_pl LP (pG G)) ++ [(ao, .inl (co, 1, .inr (.inl (aL Fo1))))]) ++ (mW am cm ft1 par np2 nc rs npc hi lo X2 Y2 O2 E RX RY RO PC CV)) := xs_DR hP hD hD1 hFc
      have hP : va_P (dC, dI) vwCl ((((cW ad cs nc np1 (clo nc E) par X1 Y1 O1 PQ Wd pw pf pu ps) ++ va_pl LP (pG G)) ++ [(ao, .inl (co, 1, .inr (.inl (aL Fo1))))]) ++ (mW am cm ft1 par np2 nc rs npc hi lo X2 Y2 O2 E RX RY RO PC CV)) H1 := xs_PR hP hD hP1 hk9
      have hD := hDn
      have hS := hS1
      clear hDn hP1 hK1 hD1 hPc hKc hDc hFc hz9 hk9 ht9 hvm9 hS1
      revert hP hD hS; generalize H1 = H; generalize locs1 = locs; intro hP hD hS
      obtain ⟨hf_164, hm_164, hn_164⟩ := hw_164
      have hf_164 : ft1 = fA (sc xs (i + 1)) (sc xs (i + 2)) np := hf_164
      subst hf_164
      have bF := fA_in (sc xs (i + 1)) (sc xs (i + 2)) np
      refine lv_istore (lv' := [(6, .int r_164), (5, .int (iI (fA (sc xs (i + 1)) (sc xs (i + 2)) np))), (0, .ref b), (1, .ref (ad 0)), (2, .ref (am 0)), (3, .ref ao), (4, .int (iI i))]) hx hb dW_law_167 hl (by decide) rfl (fun ls hl => ?_)
      refine lv_aload_n hx hb dW_law_169 rfl (lv_at hl 4 rfl) ?_
      have hPc := xs_R hP
      have hKc := hK.sub (tys' := mT cm) [6, 7, 8, 9, 10, 11, 12, 13, 14] rfl
      have hDc := xd_R hD
      have hFc := xs_fR hD hS hA
      refine vp_callSi (W.runV (As := []) (rest := []) ⟨hx, hb, hml, hown, hts⟩ (m_thrown l dC dI am cm (fA (sc xs (i + 1)) (sc xs (i + 2)) np) par np2 nc rs npc hi lo X2 Y2 O2 E RX RY RO PC CV ) (cwV 0 hts (tb_V mlW_58 imM_thrown seM_thrown iniM coM_thrown) rfl rfl rfl (by decide +kernel) (by subst hR; exact ⟨Nat.le_of_ble_eq_true rfl, Nat.le_of_ble_eq_true rfl⟩)) ⟨fun a9 U9 g9 mk9 q9 => by obtain ⟨q0, qP, qK⟩ := q9; exact ⟨q0, qP, va_K.moved (u := U9) (U := U9.calling g9 mk9 a9) (Vm.Alike.refl U9.vm) qK⟩, va_recv hKc hPc (ci := 3) (q0 := 0) rfl rfl, fun U hU hW => ⟨rfl, by rw [hU]; exact hPc, va_K.moved hW.alike hKc⟩⟩ rfl rfl hl.1 rfl (lv_room (Nat.le_of_ble_eq_true rfl)) dW_law_170 ⟨by omega, by omega⟩) (fun r_170 hw_170 => ?_)
      subst hw_170
      clear hPc hKc hDc hFc
      refine lv_iload hx hb dW_law_173 (lv_at hl 1 rfl) ?_
      refine lv_icmp_eq (tgt := 180) hx hb dW_law_175 (by decide) (fun _ => ?_) (fun c9 => absurd rfl c9)
      refine lv_iload hx hb dW_law_180 (lv_at hl 1 rfl) ?_
      refine xi_if_ne (tgt := 197) hx hb dW_law_182 (by decide) (by omega) (fun c_182 => ?_) (fun c_182 => ?_)
      · skip
        obtain ⟨d1, d2, d3, d4⟩ := hy_132 c_182
        have e9 := hn_164 c_182
        have q1 : np = np2 := (congrArg (fun q => q.1) e9).symm
        subst q1
        have q2 : X = X2 := (congrArg (fun q => q.2.1) e9).symm
        subst q2
        have q3 : Y = Y2 := (congrArg (fun q => q.2.2.1) e9).symm
        subst q3
        have q4 : O = O2 := (congrArg (fun q => q.2.2.2) e9).symm
        subst q4
        have q5 : np = np1 := Eq.symm d1
        subst q5
        have q6 : X = X1 := Eq.symm d2
        subst q6
        have q7 : Y = Y1 := Eq.symm d3
        subst q7
        have q8 : O = O1 := Eq.symm d4
        subst q8
        refine lv_goto (tgt := 783) hx hb dW_law_197 (by decide) ?_
        exact hj LP G nc np par X Y O E PQ Wd pw pf pu ps Fo1 (fA (sc xs (i + 1)) (sc xs (i + 2)) np) rs npc hi lo RX RY RO PC CV _ _ _ _ _ (by omega) (by omega) ((show cInv LP G PQ X Y O E nc ∧ lInv X Y E nc np from ⟨hI, hL⟩)).1 ((show cInv LP G PQ X Y O E nc ∧ lInv X Y E nc np from ⟨hI, hL⟩)).2 hP hD hS (lv_sub hl [2, 3, 4, 5, 6] rfl)
      · skip
        have f0 : fA (sc xs (i + 1)) (sc xs (i + 2)) np = 0 := by omega
        obtain ⟨d1, d2, d3, d4, d5⟩ := hz_132 f0
        have e5 : Fo1 0 = np + 1 - clo nc E := d5
        obtain ⟨hm, e9⟩ := hm_164 f0; subst hm
        have q1 : np + 1 = np2 := (congrArg (fun q => q.1) e9).symm
        subst q1
        have q2 : up X np (sc xs (i + 1)) = X2 := (congrArg (fun q => q.2.1) e9).symm
        subst q2
        have q3 : up Y np (sc xs (i + 2)) = Y2 := (congrArg (fun q => q.2.2.1) e9).symm
        subst q3
        have q4 : up O np (decide (sc xs (i + 3) ≠ 0)) = O2 := (congrArg (fun q => q.2.2.2) e9).symm
        subst q4
        have q5 : np + 1 = np1 := Eq.symm d1
        subst q5
        have q6 : up X np (sc xs (i + 1)) = X1 := Eq.symm d2
        subst q6
        have q7 : up Y np (sc xs (i + 2)) = Y1 := Eq.symm d3
        subst q7
        have q8 : up O np (decide (sc xs (i + 3) ≠ 0)) = O1 := Eq.symm d4
        subst q8
        refine lv_aload_n hx hb dW_law_185 rfl (lv_at hl 5 rfl) ?_
        refine xi_iconst hx hb dW_law_186 ?_
        have hPo := xs_R (xs_L hP)
        refine xa_lald (F := Fo1) hx hb hK hPo 0 5 rfl rfl (by decide) (by omega) dW_law_187 ?_
        refine xi_top (y := .long (lI (np + 1 - clo nc E))) (by rw [e5]) ?_
        refine lv_iload hx hb dW_law_188 (lv_at hl 0 rfl) ?_
        refine xl_i2l hx hb dW_law_190 (by omega) ?_
        refine xl_eq (tgt := 197) hx hb dW_law_191 dW_law_192 (by decide) (by omega) (by omega) (fun _ => ?_) (fun c9 => absurd rfl c9)
        refine lv_goto (tgt := 783) hx hb dW_law_197 (by decide) ?_
        exact hj LP G nc (np + 1) par (up X np (sc xs (i + 1))) (up Y np (sc xs (i + 2))) (up O np (decide (sc xs (i + 3) ≠ 0))) E PQ Wd pw pf pu ps Fo1 (fA (sc xs (i + 1)) (sc xs (i + 2)) np) rs npc hi lo RX RY RO PC CV _ _ _ _ _ (by omega) (by omega) (inv_add (on := (decide (sc xs (i + 3) ≠ 0))) hI hL f0).1 (inv_add (on := (decide (sc xs (i + 3) ≠ 0))) hI hL f0).2 hP hD hS (lv_sub hl [2, 3, 4, 5, 6] rfl)
    refine lv_aload_n hx hb dW_law_150 rfl (lv_at hl 1 rfl) ?_
    refine lv_iload hx hb dW_law_151 (lv_at hl 5 rfl) ?_
    refine xi_iconst hx hb dW_law_153 ?_
    refine xi_add (z := i + 3) hx hb dW_law_154 rfl ?_
    refine va_sld hx hb hX hbl hbA hS (vp_ini (by omega) hLL) dW_law_155 ?_
    refine xi_top (y := .int (iI (sc xs (i + 3)))) (by rw [sc_at xs (by omega)]) ?_
    refine xi_if_eq (tgt := 163) hx hb dW_law_156 (by decide) (sc_in xs _) (fun c_156 => ?_) (fun c_156 => ?_)
    · skip
      refine xi_iconst hx hb dW_law_163 ?_
      refine xi_top (y := .int (iI (bz (decide (sc xs (i + 3) ≠ 0))))) (by rw [decide_eq_false (fun h9 => h9 c_156)]; rfl) ?_
      exact cut_164_2 _ (lv_sub hl [0, 1, 2, 3, 4, 5] rfl)
    · skip
      refine xi_iconst hx hb dW_law_159 ?_
      refine lv_goto (tgt := 164) hx hb dW_law_160 (by decide) ?_
      refine xi_top (y := .int (iI (bz (decide (sc xs (i + 3) ≠ 0))))) (by rw [decide_eq_true c_156]; rfl) ?_
      exact cut_164_2 _ (lv_sub hl [0, 1, 2, 3, 4, 5] rfl)
  refine lv_aload_n hx hb dW_law_117 rfl (lv_at hl 0 rfl) ?_
  refine lv_iload hx hb dW_law_118 (lv_at hl 4 rfl) ?_
  refine xi_iconst hx hb dW_law_120 ?_
  refine xi_add (z := i + 3) hx hb dW_law_121 rfl ?_
  refine va_sld hx hb hX hbl hbA hS (vp_ini (by omega) hLL) dW_law_122 ?_
  refine xi_top (y := .int (iI (sc xs (i + 3)))) (by rw [sc_at xs (by omega)]) ?_
  refine xi_if_eq (tgt := 130) hx hb dW_law_123 (by decide) (sc_in xs _) (fun c_123 => ?_) (fun c_123 => ?_)
  · skip
    refine xi_iconst hx hb dW_law_130 ?_
    refine xi_top (y := .int (iI (bz (decide (sc xs (i + 3) ≠ 0))))) (by rw [decide_eq_false (fun h9 => h9 c_123)]; rfl) ?_
    exact cut_131_1 _ (lv_sub hl [0, 1, 2, 3, 4] rfl)
  · skip
    refine xi_iconst hx hb dW_law_126 ?_
    refine lv_goto (tgt := 131) hx hb dW_law_127 (by decide) ?_
    refine xi_top (y := .int (iI (bz (decide (sc xs (i + 3) ≠ 0))))) (by rw [decide_eq_true c_123]; rfl) ?_
    exact cut_131_1 _ (lv_sub hl [0, 1, 2, 3, 4] rfl)
set_option maxHeartbeats 4000000 in
set_option maxRecDepth 100000 in
theorem law_1 (l : Launch) (hlt : l.stackTraces = false) {p : Program} {e : Env} {R : Room} {s : State} {m : MethodId} {args : Array Value} {below : List Frame} {meth : Method} {c : Code} {Q : State → Prop} {A : Nat → Prop} {dC : Nat → ClassId} {dI : Nat → Nat → Nat} {ad am : Nat → Nat} {cs cm : Nat → ClassId} {ao : Nat} {co : ClassId} {b L : Nat} {xs : Nat → Int32} {sa : Nat → Nat} (hx : p.tables.exec = Jvm.exec) (hb : c.code = cW_law) (hml : c.maxLocals = 8) (hown : s.vm.findClass RW = some m.cls) (hts : ∀ w ∈ Cond.initialized RW :: TB, w.before args s = true) (hX : va_X b L xs s s.heap) (hbl : b < s.heap.size) (hA : ∀ q : Nat, s.heap.size ≤ q → A q) (hbA : ¬ A b) (hXH : xHk A sa s) (hK : va_K (dC, dI) vwCl ((cT cs ++ [(co, .long)]) ++ mT cm) s) (hR : R = room_1) (hLL : L ≤ 2048) {i : Int} (hi4 : 0 ≤ i ∧ i + 4 ≤ (L : Int)) {K N : Nat} (hKN : K + 512 ≤ R.cells ∧ N + 5632 ≤ R.slots) (hj : LJoin p l e R s m args below meth c Q A dC dI ad am cs cm ao co b i K N) (LP : List Nat) (G : Nat → PD) (nc np : Int) (par : Bool) (X Y : Int → Int) (O : Int → Bool) (E : Int → Int) (PQ : Int → Option Nat) (Wd : Int → Int) (pw pf pu ps : Int) (Fo : Int → Int) (ft rs npc hi lo : Int) (RX RY : Int → Int) (RO : Int → Bool) (PC : Int → Int) (CV : Int → Bool) {H : Heap} {locs : List Loc} {ls : Array Slot} (hI : cInv LP G PQ X Y O E nc) (hL : lInv X Y E nc np) (hP : va_P (dC, dI) vwCl ((((cW ad cs nc np (clo nc E) par X Y O PQ Wd pw pf pu ps) ++ va_pl LP (pG G)) ++ [(ao, .inl (co, 1, .inr (.inl (aL Fo))))]) ++ (mW am cm ft par np nc rs npc hi lo X Y O E RX RY RO PC CV)) H) (hD : va_D A ((((cW ad cs nc np (clo nc E) par X Y O PQ Wd pw pf pu ps) ++ va_pl LP (pG G)) ++ [(ao, .inl (co, 1, .inr (.inl (aL Fo))))]) ++ (mW am cm ft par np nc rs npc hi lo X Y O E RX RY RO PC CV))) (hS : va_S A s.heap H locs) (hl : lv_has ls 8 [(0, .ref b), (1, .ref (ad 0)), (2, .ref (am 0)), (3, .ref ao), (4, .int (iI i))]) : W p l e R s m args below meth c H locs K N Q (F0 m 200 ls []) := by
  have hLi := hL.1
  have hL3 := hL.2.2.1
  have hok := inv_ok hI hL
  refine lv_aload_n hx hb dW_law_200 rfl (lv_at hl 1 rfl) ?_
  refine lv_aload_n hx hb dW_law_201 rfl (lv_at hl 3 rfl) ?_
  have hPc := xs_L hP
  have hKc := hK.sub (tys' := cT cs ++ [(co, .long)]) [0, 1, 2, 3, 4, 5] rfl
  have hDc := xd_L hD
  have hFc := xs_fL hD hS hA
  refine va_calli (vx_runSW (As := [.ref (ad 0), .ref ao]) (rest := []) ⟨hx, hb, hml, hown, hts⟩ (h_close l dC dI ad cs H.size hlt sa ao co LP G nc np (clo nc E) par X Y O PQ Wd pw pf pu ps Fo (by omega) hLi (fun k h1 h2 => hL.2.2.2 k (by omega) h2)) (vx_cwSW 2 hts (tb_S mlW_61 smW_close iniW coW_close) rfl rfl rfl (by decide +kernel) (by subst hR; exact ⟨Nat.le_of_ble_eq_true rfl, Nat.le_of_ble_eq_true rfl⟩)) ⟨fun a9 U9 g9 mk9 q9 => by obtain ⟨q0, q1, qP, qK, qD, qF⟩ := q9; exact ⟨q0, q1, qP, va_K.moved (u := U9) (U := U9.calling g9 mk9 a9) (Vm.Alike.refl U9.vm) qK, qD, qF.calling g9 mk9 a9⟩, fun U hU hW => ⟨rfl, by rw [hU], by rw [hU]; exact hPc, va_K.moved hW.alike hKc, hDc.weaken (fun _ _ _ _ => trivial), (hXH.move hW (fun a h1 h2 => by rw [hU]; exact hS.2.1 a h1 h2)).narrow hFc⟩⟩ rfl rfl hl.1 rfl (lv_room (Nat.le_of_ble_eq_true rfl)) dW_law_202 ⟨by omega, by omega⟩) hS (fun q9 _ h9 => hFc q9 h9) hFc (fun r_202 u_202 t9 H1 locs1 ht9 hvm9 hw_202 hB9 hz9 hk9 hS1 => ?_)
  obtain ⟨hP1, hK1, hD1⟩ := hB9
  rw [ht9] at hP1
  obtain ⟨nc1, op1, L1, G1, Q1, Fo1⟩ := u_202
  have hDn : va_D A ((((cW ad cs nc1 np op1 par X Y O Q1 Wd pw pf pu ps) ++ va_pl L1 (pG G1)) ++ [(ao, .inl (co, 1, .inr (.inl (aL Fo1))))]) ++ (mW am cm ft par np nc rs npc hi lo X Y O E RX RY RO PC CV)) := xs_DL hP hD hD1 hFc
  have hP : va_P (dC, dI) vwCl ((((cW ad cs nc1 np op1 par X Y O Q1 Wd pw pf pu ps) ++ va_pl L1 (pG G1)) ++ [(ao, .inl (co, 1, .inr (.inl (aL Fo1))))]) ++ (mW am cm ft par np nc rs npc hi lo X Y O E RX RY RO PC CV)) H1 := xs_PL hP hD hP1 hk9
  have hD := hDn
  have hS := hS1
  clear hDn hP1 hK1 hD1 hPc hKc hDc hFc hz9 hk9 ht9 hvm9 hS1
  revert hP hD hS; generalize H1 = H; generalize locs1 = locs; intro hP hD hS
  have hr_202 : r_202 = iI (fC np nc E) := by (by_cases hc : np = clo nc E ∨ 64 ≤ nc; (rw [(hw_202.2 hc).1]; unfold fC; rw [if_pos (by omega)]); (rw [(hw_202.1 hc).1]; unfold fC; rw [if_neg (by omega)]))
  subst hr_202
  refine lv_istore (lv' := [(5, .int (iI (fC np nc E))), (0, .ref b), (1, .ref (ad 0)), (2, .ref (am 0)), (3, .ref ao), (4, .int (iI i))]) hx hb dW_law_205 hl (by decide) rfl (fun ls hl => ?_)
  refine lv_aload_n hx hb dW_law_207 rfl (lv_at hl 3 rfl) ?_
  have hPc := xs_R hP
  have hKc := hK.sub (tys' := mT cm) [6, 7, 8, 9, 10, 11, 12, 13, 14] rfl
  have hDc := xd_R hD
  have hFc := xs_fR hD hS hA
  refine va_calli (va_runV (As := []) (rest := []) ⟨hx, hb, hml, hown, hts⟩ (m_close l dC dI am cm H.size ft par np nc rs npc hi lo X Y O E RX RY RO PC CV hLi (by omega) (by omega)) (cwV 0 hts (tb_V mlW_64 imM_close seM_close iniM coM_close) rfl rfl rfl (by decide +kernel) (by subst hR; exact ⟨Nat.le_of_ble_eq_true rfl, Nat.le_of_ble_eq_true rfl⟩)) ⟨fun a9 U9 g9 mk9 q9 => by obtain ⟨q0, q1, qP, qK, qD⟩ := q9; exact ⟨q0, q1, qP, va_K.moved (u := U9) (U := U9.calling g9 mk9 a9) (Vm.Alike.refl U9.vm) qK, qD⟩, va_recv hKc hPc (ci := 3) (q0 := 0) rfl rfl, fun U hU hW => ⟨rfl, by rw [hU], by rw [hU]; exact hPc, va_K.moved hW.alike hKc, hDc.weaken (fun _ _ _ _ => trivial)⟩⟩ rfl rfl hl.1 rfl (lv_room (Nat.le_of_ble_eq_true rfl)) dW_law_208 ⟨by omega, by omega⟩) hS (fun q9 _ h9 => hFc q9 h9) hFc (fun r_208 v_208 t9 H1 locs1 ht9 hvm9 hw_208 hB9 hz9 hk9 hS1 => ?_)
  obtain ⟨hP1, hK1, hD1⟩ := hB9
  rw [ht9] at hP1
  obtain ⟨ft1, nc2, E2⟩ := v_208
  have hDn : va_D A ((((cW ad cs nc1 np op1 par X Y O Q1 Wd pw pf pu ps) ++ va_pl L1 (pG G1)) ++ [(ao, .inl (co, 1, .inr (.inl (aL Fo1))))]) ++ (mW am cm ft1 par np nc2 rs npc hi lo X Y O E2 RX RY RO PC CV)) := xs_DR hP hD hD1 hFc
  have hP : va_P (dC, dI) vwCl ((((cW ad cs nc1 np op1 par X Y O Q1 Wd pw pf pu ps) ++ va_pl L1 (pG G1)) ++ [(ao, .inl (co, 1, .inr (.inl (aL Fo1))))]) ++ (mW am cm ft1 par np nc2 rs npc hi lo X Y O E2 RX RY RO PC CV)) H1 := xs_PR hP hD hP1 hk9
  have hD := hDn
  have hS := hS1
  clear hDn hP1 hK1 hD1 hPc hKc hDc hFc hz9 hk9 ht9 hvm9 hS1
  revert hP hD hS; generalize H1 = H; generalize locs1 = locs; intro hP hD hS
  obtain ⟨hf_208, hm_208, hn_208⟩ := hw_208
  have hf_208 : ft1 = fC np nc E := hf_208
  subst hf_208
  have bF := fC_in np nc E
  refine lv_istore (lv' := [(6, .int r_208), (5, .int (iI (fC np nc E))), (0, .ref b), (1, .ref (ad 0)), (2, .ref (am 0)), (3, .ref ao), (4, .int (iI i))]) hx hb dW_law_211 hl (by decide) rfl (fun ls hl => ?_)
  refine lv_aload_n hx hb dW_law_213 rfl (lv_at hl 4 rfl) ?_
  have hPc := xs_R hP
  have hKc := hK.sub (tys' := mT cm) [6, 7, 8, 9, 10, 11, 12, 13, 14] rfl
  have hDc := xd_R hD
  have hFc := xs_fR hD hS hA
  refine vp_callSi (W.runV (As := []) (rest := []) ⟨hx, hb, hml, hown, hts⟩ (m_thrown l dC dI am cm (fC np nc E) par np nc2 rs npc hi lo X Y O E2 RX RY RO PC CV ) (cwV 0 hts (tb_V mlW_58 imM_thrown seM_thrown iniM coM_thrown) rfl rfl rfl (by decide +kernel) (by subst hR; exact ⟨Nat.le_of_ble_eq_true rfl, Nat.le_of_ble_eq_true rfl⟩)) ⟨fun a9 U9 g9 mk9 q9 => by obtain ⟨q0, qP, qK⟩ := q9; exact ⟨q0, qP, va_K.moved (u := U9) (U := U9.calling g9 mk9 a9) (Vm.Alike.refl U9.vm) qK⟩, va_recv hKc hPc (ci := 3) (q0 := 0) rfl rfl, fun U hU hW => ⟨rfl, by rw [hU]; exact hPc, va_K.moved hW.alike hKc⟩⟩ rfl rfl hl.1 rfl (lv_room (Nat.le_of_ble_eq_true rfl)) dW_law_214 ⟨by omega, by omega⟩) (fun r_214 hw_214 => ?_)
  subst hw_214
  clear hPc hKc hDc hFc
  refine lv_iload hx hb dW_law_217 (lv_at hl 1 rfl) ?_
  refine lv_icmp_eq (tgt := 224) hx hb dW_law_219 (by decide) (fun _ => ?_) (fun c9 => absurd rfl c9)
  refine lv_iload hx hb dW_law_224 (lv_at hl 1 rfl) ?_
  refine xi_if_ne (tgt := 241) hx hb dW_law_226 (by decide) (by omega) (fun c_226 => ?_) (fun c_226 => ?_)
  · skip
    obtain ⟨-, d1, d2, d3, d4, d5⟩ := hw_202.2 (fC_1 c_226)
    have e9 := hn_208 c_226
    have q1 : nc = nc2 := (congrArg (fun q => q.1) e9).symm
    subst q1
    have q2 : E = E2 := (congrArg (fun q => q.2) e9).symm
    subst q2
    have q3 : nc = nc1 := Eq.symm d1
    subst q3
    have q4 : clo nc E = op1 := Eq.symm d2
    subst q4
    have q5 : LP = L1 := Eq.symm d3
    subst q5
    have q6 : G = G1 := Eq.symm d4
    subst q6
    have q7 : PQ = Q1 := Eq.symm d5
    subst q7
    refine lv_goto (tgt := 783) hx hb dW_law_241 (by decide) ?_
    exact hj LP G nc np par X Y O E PQ Wd pw pf pu ps Fo1 (fC np nc E) rs npc hi lo RX RY RO PC CV _ _ _ _ _ (by omega) (by omega) ((show cInv LP G PQ X Y O E nc ∧ lInv X Y E nc np from ⟨hI, hL⟩)).1 ((show cInv LP G PQ X Y O E nc ∧ lInv X Y E nc np from ⟨hI, hL⟩)).2 hP hD hS (lv_sub hl [2, 3, 4, 5, 6] rfl)
  · skip
    have f0 : fC np nc E = 0 := by omega
    have hc := fC_0 f0 hLi.2
    obtain ⟨-, d1, d2, hN, d5⟩ := hw_202.1 hc
    have e5 : Fo1 0 = nc + 1 := d5
    have hN : newP LP G PQ L1 G1 Q1 X Y O (clo nc E) np np := hN
    obtain ⟨hm, e9⟩ := hm_208 f0; subst hm
    have q1 : nc + 1 = nc2 := (congrArg (fun q => q.1) e9).symm
    subst q1
    have q2 : up E nc np = E2 := (congrArg (fun q => q.2) e9).symm
    subst q2
    have q3 : nc + 1 = nc1 := Eq.symm d1
    subst q3
    have q4 : clo (nc + 1) (up E nc np) = op1 := (clo_up E np hLi.1).trans (Eq.symm d2)
    subst q4
    refine lv_aload_n hx hb dW_law_229 rfl (lv_at hl 5 rfl) ?_
    refine xi_iconst hx hb dW_law_230 ?_
    have hPo := xs_R (xs_L hP)
    refine xa_lald (F := Fo1) hx hb hK hPo 0 5 rfl rfl (by decide) (by omega) dW_law_231 ?_
    refine xi_top (y := .long (lI (nc + 1))) (by rw [e5]) ?_
    refine lv_iload hx hb dW_law_232 (lv_at hl 0 rfl) ?_
    refine xl_i2l hx hb dW_law_234 (by omega) ?_
    refine xl_eq (tgt := 241) hx hb dW_law_235 dW_law_236 (by decide) (by omega) (by omega) (fun _ => ?_) (fun c9 => absurd rfl c9)
    refine lv_goto (tgt := 783) hx hb dW_law_241 (by decide) ?_
    exact hj L1 G1 (nc + 1) np par X Y O (up E nc np) Q1 Wd pw pf pu ps Fo1 (fC np nc E) rs npc hi lo RX RY RO PC CV _ _ _ _ _ (by omega) (by omega) (inv_close hI hL hc hN).1 (inv_close hI hL hc hN).2 hP hD hS (lv_sub hl [2, 3, 4, 5, 6] rfl)
set_option maxHeartbeats 4000000 in
set_option maxRecDepth 100000 in
theorem law_4 (l : Launch) (hlt : l.stackTraces = false) {p : Program} {e : Env} {R : Room} {s : State} {m : MethodId} {args : Array Value} {below : List Frame} {meth : Method} {c : Code} {Q : State → Prop} {A : Nat → Prop} {dC : Nat → ClassId} {dI : Nat → Nat → Nat} {ad am : Nat → Nat} {cs cm : Nat → ClassId} {ao : Nat} {co : ClassId} {b L : Nat} {xs : Nat → Int32} {sa : Nat → Nat} (hx : p.tables.exec = Jvm.exec) (hb : c.code = cW_law) (hml : c.maxLocals = 8) (hown : s.vm.findClass RW = some m.cls) (hts : ∀ w ∈ Cond.initialized RW :: TB, w.before args s = true) (hX : va_X b L xs s s.heap) (hbl : b < s.heap.size) (hA : ∀ q : Nat, s.heap.size ≤ q → A q) (hbA : ¬ A b) (hXH : xHk A sa s) (hK : va_K (dC, dI) vwCl ((cT cs ++ [(co, .long)]) ++ mT cm) s) (hR : R = room_1) (hLL : L ≤ 2048) {i : Int} (hi4 : 0 ≤ i ∧ i + 4 ≤ (L : Int)) {K N : Nat} (hKN : K + 512 ≤ R.cells ∧ N + 5632 ≤ R.slots) (hj : LJoin p l e R s m args below meth c Q A dC dI ad am cs cm ao co b i K N) (LP : List Nat) (G : Nat → PD) (nc np : Int) (par : Bool) (X Y : Int → Int) (O : Int → Bool) (E : Int → Int) (PQ : Int → Option Nat) (Wd : Int → Int) (pw pf pu ps : Int) (Fo : Int → Int) (ft rs npc hi lo : Int) (RX RY : Int → Int) (RO : Int → Bool) (PC : Int → Int) (CV : Int → Bool) {H : Heap} {locs : List Loc} {ls : Array Slot} (hI : cInv LP G PQ X Y O E nc) (hL : lInv X Y E nc np) (hP : va_P (dC, dI) vwCl ((((cW ad cs nc np (clo nc E) par X Y O PQ Wd pw pf pu ps) ++ va_pl LP (pG G)) ++ [(ao, .inl (co, 1, .inr (.inl (aL Fo))))]) ++ (mW am cm ft par np nc rs npc hi lo X Y O E RX RY RO PC CV)) H) (hD : va_D A ((((cW ad cs nc np (clo nc E) par X Y O PQ Wd pw pf pu ps) ++ va_pl LP (pG G)) ++ [(ao, .inl (co, 1, .inr (.inl (aL Fo))))]) ++ (mW am cm ft par np nc rs npc hi lo X Y O E RX RY RO PC CV))) (hS : va_S A s.heap H locs) (hl : lv_has ls 8 [(0, .ref b), (1, .ref (ad 0)), (2, .ref (am 0)), (3, .ref ao), (4, .int (iI i))]) : W p l e R s m args below meth c H locs K N Q (F0 m 270 ls []) := by
  have hLi := hL.1
  have hL3 := hL.2.2.1
  have hok := inv_ok hI hL
  refine lv_aload_n hx hb dW_law_270 rfl (lv_at hl 1 rfl) ?_
  refine lv_aload_n hx hb dW_law_271 rfl (lv_at hl 0 rfl) ?_
  refine lv_iload hx hb dW_law_272 (lv_at hl 4 rfl) ?_
  refine xi_iconst hx hb dW_law_274 ?_
  refine xi_add (z := i + 1) hx hb dW_law_275 rfl ?_
  refine va_sld hx hb hX hbl hbA hS (vp_ini (by omega) hLL) dW_law_276 ?_
  refine xi_top (y := .int (iI (sc xs (i + 1)))) (by rw [sc_at xs (by omega)]) ?_
  refine lv_aload_n hx hb dW_law_277 rfl (lv_at hl 0 rfl) ?_
  refine lv_iload hx hb dW_law_278 (lv_at hl 4 rfl) ?_
  refine xi_iconst hx hb dW_law_280 ?_
  refine xi_add (z := i + 2) hx hb dW_law_281 rfl ?_
  refine va_sld hx hb hX hbl hbA hS (vp_ini (by omega) hLL) dW_law_282 ?_
  refine xi_top (y := .int (iI (sc xs (i + 2)))) (by rw [sc_at xs (by omega)]) ?_
  have hPc := xs_L hP
  have hKc := hK.sub (tys' := cT cs ++ [(co, .long)]) [0, 1, 2, 3, 4, 5] rfl
  have hDc := xd_L hD
  have hFc := xs_fL hD hS hA
  refine va_calli (vx_runSW (As := [.ref (ad 0), .int (iI (sc xs (i + 1))), .int (iI (sc xs (i + 2)))]) (rest := []) ⟨hx, hb, hml, hown, hts⟩ (h_move l dC dI ad cs H.size hlt sa ao co LP G nc np (clo nc E) par X Y O PQ Wd pw pf pu ps Fo (sc xs (i + 1)) (sc xs (i + 2)) (by omega) hok (by omega) hL.2.2.2 hI.2.2 (sc_in xs _) (sc_in xs _)) (vx_cwSW 3 hts (tb_S mlW_73 smW_move iniW coW_move) rfl rfl rfl (by decide +kernel) (by subst hR; exact ⟨Nat.le_of_ble_eq_true rfl, Nat.le_of_ble_eq_true rfl⟩)) ⟨fun a9 U9 g9 mk9 q9 => by obtain ⟨q0, q1, qP, qK, qD, qF⟩ := q9; exact ⟨q0, q1, qP, va_K.moved (u := U9) (U := U9.calling g9 mk9 a9) (Vm.Alike.refl U9.vm) qK, qD, qF.calling g9 mk9 a9⟩, fun U hU hW => ⟨rfl, by rw [hU], by rw [hU]; exact hPc, va_K.moved hW.alike hKc, hDc.weaken (fun _ _ _ _ => trivial), (hXH.move hW (fun a h1 h2 => by rw [hU]; exact hS.2.1 a h1 h2)).narrow hFc⟩⟩ rfl rfl hl.1 rfl (lv_room (Nat.le_of_ble_eq_true rfl)) dW_law_283 ⟨by omega, by omega⟩) hS (fun q9 _ h9 => hFc q9 h9) hFc (fun r_283 u_283 t9 H1 locs1 ht9 hvm9 hw_283 hB9 hz9 hk9 hS1 => ?_)
  obtain ⟨hP1, hK1, hD1⟩ := hB9
  rw [ht9] at hP1
  obtain ⟨X1, Y1, G1⟩ := u_283
  have hDn : va_D A ((((cW ad cs nc np (clo nc E) par X1 Y1 O PQ Wd pw pf pu ps) ++ va_pl LP (pG G1)) ++ [(ao, .inl (co, 1, .inr (.inl (aL Fo))))]) ++ (mW am cm ft par np nc rs npc hi lo X Y O E RX RY RO PC CV)) := xs_DL hP hD hD1 hFc
  have hP : va_P (dC, dI) vwCl ((((cW ad cs nc np (clo nc E) par X1 Y1 O PQ Wd pw pf pu ps) ++ va_pl LP (pG G1)) ++ [(ao, .inl (co, 1, .inr (.inl (aL Fo))))]) ++ (mW am cm ft par np nc rs npc hi lo X Y O E RX RY RO PC CV)) H1 := xs_PL hP hD hP1 hk9
  have hD := hDn
  have hS := hS1
  clear hDn hP1 hK1 hD1 hPc hKc hDc hFc hz9 hk9 ht9 hvm9 hS1
  revert hP hD hS; generalize H1 = H; generalize locs1 = locs; intro hP hD hS
  have hr_283 : r_283 = iI (fM X Y (sc xs (i + 1)) (sc xs (i + 2)) np) := by (unfold fM; cases hc : mvok X Y (sc xs (i + 1)) (sc xs (i + 2)) np.toNat; (rw [(hw_283.2 hc).1, if_neg (by decide)]); (rw [(hw_283.1 hc).1, if_pos rfl]))
  subst hr_283
  refine lv_istore (lv' := [(5, .int (iI (fM X Y (sc xs (i + 1)) (sc xs (i + 2)) np))), (0, .ref b), (1, .ref (ad 0)), (2, .ref (am 0)), (3, .ref ao), (4, .int (iI i))]) hx hb dW_law_286 hl (by decide) rfl (fun ls hl => ?_)
  refine lv_aload_n hx hb dW_law_288 rfl (lv_at hl 3 rfl) ?_
  refine lv_aload_n hx hb dW_law_289 rfl (lv_at hl 1 rfl) ?_
  refine lv_iload hx hb dW_law_290 (lv_at hl 5 rfl) ?_
  refine xi_iconst hx hb dW_law_292 ?_
  refine xi_add (z := i + 1) hx hb dW_law_293 rfl ?_
  refine va_sld hx hb hX hbl hbA hS (vp_ini (by omega) hLL) dW_law_294 ?_
  refine xi_top (y := .int (iI (sc xs (i + 1)))) (by rw [sc_at xs (by omega)]) ?_
  refine lv_aload_n hx hb dW_law_295 rfl (lv_at hl 1 rfl) ?_
  refine lv_iload hx hb dW_law_296 (lv_at hl 5 rfl) ?_
  refine xi_iconst hx hb dW_law_298 ?_
  refine xi_add (z := i + 2) hx hb dW_law_299 rfl ?_
  refine va_sld hx hb hX hbl hbA hS (vp_ini (by omega) hLL) dW_law_300 ?_
  refine xi_top (y := .int (iI (sc xs (i + 2)))) (by rw [sc_at xs (by omega)]) ?_
  have hPc := xs_R hP
  have hKc := hK.sub (tys' := mT cm) [6, 7, 8, 9, 10, 11, 12, 13, 14] rfl
  have hDc := xd_R hD
  have hFc := xs_fR hD hS hA
  refine va_callv (va_runV (As := [.int (iI (sc xs (i + 1))), .int (iI (sc xs (i + 2)))]) (rest := []) ⟨hx, hb, hml, hown, hts⟩ (m_move l dC dI am cm H.size ft par np nc rs npc hi lo X Y O E RX RY RO PC CV (sc xs (i + 1)) (sc xs (i + 2)) (by omega) hL.2.2.2 (sc_in xs _) (sc_in xs _)) (cwV 2 hts (tb_V mlW_76 imM_move seM_move iniM coM_move) rfl rfl rfl (by decide +kernel) (by subst hR; exact ⟨Nat.le_of_ble_eq_true rfl, Nat.le_of_ble_eq_true rfl⟩)) ⟨fun a9 U9 g9 mk9 q9 => by obtain ⟨q0, q1, qP, qK, qD⟩ := q9; exact ⟨q0, q1, qP, va_K.moved (u := U9) (U := U9.calling g9 mk9 a9) (Vm.Alike.refl U9.vm) qK, qD⟩, va_recv hKc hPc (ci := 3) (q0 := 0) rfl rfl, fun U hU hW => ⟨rfl, by rw [hU], by rw [hU]; exact hPc, va_K.moved hW.alike hKc, hDc.weaken (fun _ _ _ _ => trivial)⟩⟩ rfl rfl hl.1 rfl (lv_room (Nat.le_of_ble_eq_true rfl)) dW_law_301 ⟨by omega, by omega⟩) hS (fun q9 _ h9 => hFc q9 h9) hFc (fun v_301 t9 H1 locs1 ht9 hvm9 hw_301 hB9 hz9 hk9 hS1 => ?_)
  obtain ⟨hP1, hK1, hD1⟩ := hB9
  rw [ht9] at hP1
  obtain ⟨ft1, X2, Y2⟩ := v_301
  have hDn : va_D A ((((cW ad cs nc np (clo nc E) par X1 Y1 O PQ Wd pw pf pu ps) ++ va_pl LP (pG G1)) ++ [(ao, .inl (co, 1, .inr (.inl (aL Fo))))]) ++ (mW am cm ft1 par np nc rs npc hi lo X2 Y2 O E RX RY RO PC CV)) := xs_DR hP hD hD1 hFc
  have hP : va_P (dC, dI) vwCl ((((cW ad cs nc np (clo nc E) par X1 Y1 O PQ Wd pw pf pu ps) ++ va_pl LP (pG G1)) ++ [(ao, .inl (co, 1, .inr (.inl (aL Fo))))]) ++ (mW am cm ft1 par np nc rs npc hi lo X2 Y2 O E RX RY RO PC CV)) H1 := xs_PR hP hD hP1 hk9
  have hD := hDn
  have hS := hS1
  clear hDn hP1 hK1 hD1 hPc hKc hDc hFc hz9 hk9 ht9 hvm9 hS1
  revert hP hD hS; generalize H1 = H; generalize locs1 = locs; intro hP hD hS
  obtain ⟨hf_301, hm_301, hn_301⟩ := hw_301
  have hf_301 : ft1 = fM X Y (sc xs (i + 1)) (sc xs (i + 2)) np := hf_301
  subst hf_301
  cases hc : mvok X Y (sc xs (i + 1)) (sc xs (i + 2)) np.toNat
  · have f0 : fM X Y (sc xs (i + 1)) (sc xs (i + 2)) np ≠ 0 := by (unfold fM; rw [hc]; decide)
    obtain ⟨-, d1, d2, d3⟩ := hw_283.2 hc
    have e9 := hn_301 f0
    have q1 : X = X2 := (congrArg (fun q => q.1) e9).symm
    subst q1
    have q2 : Y = Y2 := (congrArg (fun q => q.2) e9).symm
    subst q2
    have q3 : X = X1 := Eq.symm d1
    subst q3
    have q4 : Y = Y1 := Eq.symm d2
    subst q4
    have q5 : G = G1 := Eq.symm d3
    subst q5
    refine lv_aload_n hx hb dW_law_304 rfl (lv_at hl 3 rfl) ?_
    have hPc := xs_R hP
    have hKc := hK.sub (tys' := mT cm) [6, 7, 8, 9, 10, 11, 12, 13, 14] rfl
    have hDc := xd_R hD
    have hFc := xs_fR hD hS hA
    refine vp_callSi (W.runV (As := []) (rest := []) ⟨hx, hb, hml, hown, hts⟩ (m_thrown l dC dI am cm (fM X Y (sc xs (i + 1)) (sc xs (i + 2)) np) par np nc rs npc hi lo X Y O E RX RY RO PC CV ) (cwV 0 hts (tb_V mlW_58 imM_thrown seM_thrown iniM coM_thrown) rfl rfl rfl (by decide +kernel) (by subst hR; exact ⟨Nat.le_of_ble_eq_true rfl, Nat.le_of_ble_eq_true rfl⟩)) ⟨fun a9 U9 g9 mk9 q9 => by obtain ⟨q0, qP, qK⟩ := q9; exact ⟨q0, qP, va_K.moved (u := U9) (U := U9.calling g9 mk9 a9) (Vm.Alike.refl U9.vm) qK⟩, va_recv hKc hPc (ci := 3) (q0 := 0) rfl rfl, fun U hU hW => ⟨rfl, by rw [hU]; exact hPc, va_K.moved hW.alike hKc⟩⟩ rfl rfl hl.1 rfl (lv_room (Nat.le_of_ble_eq_true rfl)) dW_law_305 ⟨by omega, by omega⟩) (fun r_305 hw_305 => ?_)
    subst hw_305
    clear hPc hKc hDc hFc
    refine lv_iload hx hb dW_law_308 (lv_at hl 0 rfl) ?_
    refine lv_icmp_eq (tgt := 315) hx hb dW_law_310 (by decide) (fun _ => ?_) (fun c9 => absurd rfl c9)
    refine lv_goto (tgt := 783) hx hb dW_law_315 (by decide) ?_
    exact hj LP G nc np par X Y O E PQ Wd pw pf pu ps Fo (fM X Y (sc xs (i + 1)) (sc xs (i + 2)) np) rs npc hi lo RX RY RO PC CV _ _ _ _ _ (by omega) (by omega) ((show cInv LP G PQ X Y O E nc ∧ lInv X Y E nc np from ⟨hI, hL⟩)).1 ((show cInv LP G PQ X Y O E nc ∧ lInv X Y E nc np from ⟨hI, hL⟩)).2 hP hD hS (lv_sub hl [1, 2, 3, 4, 5] rfl)
  · have f0 : fM X Y (sc xs (i + 1)) (sc xs (i + 2)) np = 0 := by (unfold fM; rw [hc]; rfl)
    obtain ⟨-, d1, d2, hM⟩ := hw_283.1 hc
    have e9 := hm_301 f0
    have hM : mvP G PQ G1 (sc xs (i + 1)) (sc xs (i + 2)) (clo nc E) := hM
    have q1 : mvF X (sc xs (i + 1)) np = X2 := (congrArg (fun q => q.1) e9).symm
    subst q1
    have q2 : mvF Y (sc xs (i + 2)) np = Y2 := (congrArg (fun q => q.2) e9).symm
    subst q2
    have q3 : mvF X (sc xs (i + 1)) np = X1 := Eq.symm d1
    subst q3
    have q4 : mvF Y (sc xs (i + 2)) np = Y1 := Eq.symm d2
    subst q4
    refine lv_aload_n hx hb dW_law_304 rfl (lv_at hl 3 rfl) ?_
    have hPc := xs_R hP
    have hKc := hK.sub (tys' := mT cm) [6, 7, 8, 9, 10, 11, 12, 13, 14] rfl
    have hDc := xd_R hD
    have hFc := xs_fR hD hS hA
    refine vp_callSi (W.runV (As := []) (rest := []) ⟨hx, hb, hml, hown, hts⟩ (m_thrown l dC dI am cm (fM X Y (sc xs (i + 1)) (sc xs (i + 2)) np) par np nc rs npc hi lo (mvF X (sc xs (i + 1)) np) (mvF Y (sc xs (i + 2)) np) O E RX RY RO PC CV ) (cwV 0 hts (tb_V mlW_58 imM_thrown seM_thrown iniM coM_thrown) rfl rfl rfl (by decide +kernel) (by subst hR; exact ⟨Nat.le_of_ble_eq_true rfl, Nat.le_of_ble_eq_true rfl⟩)) ⟨fun a9 U9 g9 mk9 q9 => by obtain ⟨q0, qP, qK⟩ := q9; exact ⟨q0, qP, va_K.moved (u := U9) (U := U9.calling g9 mk9 a9) (Vm.Alike.refl U9.vm) qK⟩, va_recv hKc hPc (ci := 3) (q0 := 0) rfl rfl, fun U hU hW => ⟨rfl, by rw [hU]; exact hPc, va_K.moved hW.alike hKc⟩⟩ rfl rfl hl.1 rfl (lv_room (Nat.le_of_ble_eq_true rfl)) dW_law_305 ⟨by omega, by omega⟩) (fun r_305 hw_305 => ?_)
    subst hw_305
    clear hPc hKc hDc hFc
    refine lv_iload hx hb dW_law_308 (lv_at hl 0 rfl) ?_
    refine lv_icmp_eq (tgt := 315) hx hb dW_law_310 (by decide) (fun _ => ?_) (fun c9 => absurd rfl c9)
    refine lv_goto (tgt := 783) hx hb dW_law_315 (by decide) ?_
    exact hj LP G1 nc np par (mvF X (sc xs (i + 1)) np) (mvF Y (sc xs (i + 2)) np) O E PQ Wd pw pf pu ps Fo (fM X Y (sc xs (i + 1)) (sc xs (i + 2)) np) rs npc hi lo RX RY RO PC CV _ _ _ _ _ (by omega) (by omega) (inv_move hI hL hc hM).1 (inv_move hI hL hc hM).2 hP hD hS (lv_sub hl [1, 2, 3, 4, 5] rfl)
