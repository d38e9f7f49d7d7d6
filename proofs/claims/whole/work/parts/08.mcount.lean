/-! the reference: counts of crossings, windings, pixels -/
def trn (a b : Int) : Bool := if 0 < a then decide (b < 0 ∧ -b < 2 * a) else decide (a < 0 ∧ 0 < b ∧ b < -2 * a)
def byd (a : Int) (fi : Bool) : Bool := if fi = true then decide (0 < a) else decide (a < 0)
def cvc2 (a b c e f g : Int) (fi la : Bool) : Int :=
  if fi = la then (if trn a b = true ∧ byd a fi = true ∧ 0 < b * b - 4 * a * c then (if fi = true then bz (ilf a b c true e f g) - bz (ilf a b c false e f g) else bz (ilf a b c false e f g) - bz (ilf a b c true e f g)) else 0)
  else if ilf a b c (la == decide (0 < a)) e f g = true then (if la = true then 1 else -1) else 0
def cvc (px py qx qy rx ry x y : Int) : Int := cvc2 (py - 2 * qy + ry) (2 * (qy - py)) (py - y) (px - 2 * qx + rx) (2 * (qx - px)) (px - x) (decide (0 < py - y)) (decide (y < ry))
theorem cvc_bd (a b c e f g : Int) (fi la : Bool) : -1 ≤ cvc2 a b c e f g fi la ∧ cvc2 a b c e f g fi la ≤ 1 := by
  have h1 := bz_in (ilf a b c true e f g)
  have h2 := bz_in (ilf a b c false e f g)
  unfold cvc2
  repeat' split
  all_goals omega
theorem lnc_bd (px py rx ry x y : Int) : -1 ≤ lnc px py rx ry x y ∧ lnc px py rx ry x y ≤ 1 := by
  unfold lnc
  repeat' split
  all_goals omega
/-- what piece k of the reference's table counts for a point -/
def pcc (PC : Int → Int) (CV : Int → Bool) (x y k : Int) : Int := if CV k = true then cvc (PC (6 * k)) (PC (6 * k + 1)) (PC (6 * k + 2)) (PC (6 * k + 3)) (PC (6 * k + 4)) (PC (6 * k + 5)) x y else lnc (PC (6 * k)) (PC (6 * k + 1)) (PC (6 * k + 4)) (PC (6 * k + 5)) x y
theorem pcc_bd (PC : Int → Int) (CV : Int → Bool) (x y k : Int) : -1 ≤ pcc PC CV x y k ∧ pcc PC CV x y k ≤ 1 := by
  unfold pcc
  split
  · exact cvc_bd _ _ _ _ _ _ _ _
  · exact lnc_bd _ _ _ _ _ _
/-- a sum over 0 .. n - 1 -/
def isum (h : Int → Int) : Nat → Int | 0 => 0 | n + 1 => isum h n + h (n : Int)
theorem isum_bd {h : Int → Int} (hh : ∀ k, -1 ≤ h k ∧ h k ≤ 1) (n : Nat) : -(n : Int) ≤ isum h n ∧ isum h n ≤ (n : Int) := by
  induction n with
  | zero => show -((0 : Nat) : Int) ≤ 0 ∧ (0 : Int) ≤ ((0 : Nat) : Int); omega
  | succ n ih =>
    have h1 := hh (n : Int)
    show -((n + 1 : Nat) : Int) ≤ isum h n + h (n : Int) ∧ isum h n + h (n : Int) ≤ ((n + 1 : Nat) : Int)
    omega
theorem isum_s (h : Int → Int) {z : Int} (hz : 0 ≤ z) : isum h (z + 1).toNat = isum h z.toNat + h z := by
  have h1 : (z + 1).toNat = z.toNat + 1 := by omega
  rw [h1]
  show isum h z.toNat + h ((z.toNat : Nat) : Int) = _
  rw [Int.toNat_of_nonneg hz]
/-- all coordinates of the reference's table are in their range -/
def pcOk (PC : Int → Int) (n : Int) : Prop := ∀ k : Int, 0 ≤ k → k < 6 * n → -8192 ≤ PC k ∧ PC k ≤ 8191
def wnd (PC : Int → Int) (CV : Int → Bool) (n x y : Int) : Int := isum (pcc PC CV x y) n.toNat
theorem wnd_bd (PC : Int → Int) (CV : Int → Bool) {n : Int} (x y : Int) (hn : 0 ≤ n ∧ n ≤ 512) : -512 ≤ wnd PC CV n x y ∧ wnd PC CV n x y ≤ 512 := by
  have h := isum_bd (h := pcc PC CV x y) (fun k => pcc_bd _ _ _ _ k) n.toNat
  unfold wnd
  omega
theorem rem2 {w : Int} (hw : -2147483648 ≤ w ∧ w ≤ 2147483647) : ∃ z : Int, iI w - iI w / iI 2 * iI 2 = iI z ∧ (-1 ≤ z ∧ z ≤ 1) ∧ (z = 0 ↔ w % 2 = 0) := by
  refine ⟨w - w.tdiv 2 * 2, by rw [iI_tdiv hw (by omega), iI_mul, iI_sub], ?_⟩
  rcases Int.lt_or_le w 0 with h | h
  · obtain ⟨c, rfl⟩ : ∃ c, w = -c := ⟨-w, by omega⟩
    rw [Int.neg_tdiv, Int.tdiv_eq_ediv_of_nonneg (by omega)]
    omega
  · rw [Int.tdiv_eq_ediv_of_nonneg h]
    omega

set_option maxHeartbeats 4000000 in
set_option maxRecDepth 100000 in
/-- lineCount -/
theorem m_lineCount (l : Launch) (dC : Nat → ClassId) (dI : Nat → Nat → Nat) (ad : Nat → Nat) (cs : Nat → ClassId) (ft : Int) (par : Bool) (np nc rs npc hi lo : Int) (X Y : Int → Int) (O : Int → Bool) (E RX RY : Int → Int) (RO : Int → Bool) (PC : Int → Int) (CV : Int → Bool) (a0 x y px py qx qy rx ry : Int) (e1 : PC a0 = px) (e2 : PC (a0 + 1) = py) (e3 : PC (a0 + 2) = qx) (e4 : PC (a0 + 3) = qy) (e5 : PC (a0 + 4) = rx) (e6 : PC (a0 + 5) = ry) (h1 : -8192 ≤ px ∧ px ≤ 8191) (h2 : -8192 ≤ py ∧ py ≤ 8191) (h3 : -8192 ≤ qx ∧ qx ≤ 8191) (h4 : -8192 ≤ qy ∧ qy ≤ 8191) (h5 : -8192 ≤ rx ∧ rx ≤ 8191) (h6 : -8192 ≤ ry ∧ ry ≤ 8191) (hx0 : -16384 ≤ x ∧ x ≤ 16384) (hy0 : -16384 ≤ y ∧ y ≤ 16384) (ha0 : 0 ≤ a0 ∧ a0 ≤ 3066) : Met l yM_lineCount wM_lineCount ({ frames := 1, cells := 0, slots := 0, locals := 21 }) (va_Pc [.ref (ad 0), .int (iI a0), .int (iI x), .int (iI y)] (fun U => va_P (dC, dI) vwCl (mW ad cs ft par np nc rs npc hi lo X Y O E RX RY RO PC CV) U.heap ∧ va_K (dC, dI) vwCl (mT cs) U)) (vp_Si (fun r => r = iI (lnc px py rx ry x y))) 0 0 (fun _ => False) := by
  refine Met.ofW (cc := cM_lineCount) (maxL := 15) (ret := (some .int)) (by decide) rfl ?_
  intro p e s m args below meth c s₁ B hml hv
  obtain ⟨hargs, hP, hK⟩ := hv
  have hx := B.exec
  have hb := B.bytes
  have hr := B.returns
  have hts := atoms_spec (ws := wM_lineCount) B.pre
  have hown : s.vm.findClass RM = some m.cls := findClass_of_methodNamed B.named
  have hlocks := B.notSynchronized
  refine x_name (fun R Q H locs hR hQ hH hlo => ?_)
  rw [← hH] at hP
  refine x_entry hargs (Nat.le_of_ble_eq_true rfl) (fun ls hl => ?_)
  have hl : lv_has ls 15 [(0, .ref (ad 0)), (1, .int (iI a0)), (2, .int (iI x)), (3, .int (iI y))] := hl
  have hP : va_P (dC, dI) vwCl (mW ad cs ft par np nc rs npc hi lo X Y O E RX RY RO PC CV) H := hP
  have b1 := mul_bd 16384 32768 (a := rx - px) (b := y - py) (by omega) (by omega)
  have b2 := mul_bd 32768 16384 (a := x - px) (b := ry - py) (by omega) (by omega)
  have b3 := sgn_mul_bd ((rx - px) * (y - py) - (x - px) * (ry - py)) (ry - py)
  obtain ⟨sg, hsg⟩ : ∃ z, z = sgn ((rx - px) * (y - py) - (x - px) * (ry - py)) * sgn (ry - py) := ⟨_, rfl⟩
  rw [← hsg] at b3
  refine lv_aload_n hx hb dM_lineCount_0 rfl (lv_at hl 0 rfl) ?_
  refine va_get (D := (dC, dI)) (ci := 3) (v := .ref (ad 8)) (C := RM) (T := TM) (N := 17) hx hb hts (fun w9 h9 => List.mem_cons_of_mem _ (inM w9 h9)) hown hK hP 0 rfl rfl 13 (by decide) (hts _ (List.mem_cons_of_mem _ flM_32)) (fun _ h9 => h9) rfl dM_lineCount_1 ?_
  refine lv_iload_n hx hb dM_lineCount_4 rfl (lv_at hl 1 rfl) ?_
  refine xa_iald hx hb hK hP 8 7 rfl rfl (by decide) (by omega) dM_lineCount_5 ?_
  refine xi_top (y := .int (iI px)) (by rw [e1]) ?_
  refine xl_i2l hx hb dM_lineCount_6 (by omega) ?_
  refine lv_lstore (lv' := [(4, .long (lI px)), (0, .ref (ad 0)), (1, .int (iI a0)), (2, .int (iI x)), (3, .int (iI y))]) hx hb dM_lineCount_7 hl (by decide) rfl (fun ls hl => ?_)
  refine lv_aload_n hx hb dM_lineCount_9 rfl (lv_at hl 1 rfl) ?_
  refine va_get (D := (dC, dI)) (ci := 3) (v := .ref (ad 8)) (C := RM) (T := TM) (N := 17) hx hb hts (fun w9 h9 => List.mem_cons_of_mem _ (inM w9 h9)) hown hK hP 0 rfl rfl 13 (by decide) (hts _ (List.mem_cons_of_mem _ flM_32)) (fun _ h9 => h9) rfl dM_lineCount_10 ?_
  refine lv_iload_n hx hb dM_lineCount_13 rfl (lv_at hl 2 rfl) ?_
  refine xi_iconst hx hb dM_lineCount_14 ?_
  refine xi_add (z := a0 + 1) hx hb dM_lineCount_15 rfl ?_
  refine xa_iald hx hb hK hP 8 7 rfl rfl (by decide) (by omega) dM_lineCount_16 ?_
  refine xi_top (y := .int (iI py)) (by rw [e2]) ?_
  refine xl_i2l hx hb dM_lineCount_17 (by omega) ?_
  refine lv_lstore (lv' := [(6, .long (lI py)), (4, .long (lI px)), (0, .ref (ad 0)), (1, .int (iI a0)), (2, .int (iI x)), (3, .int (iI y))]) hx hb dM_lineCount_18 hl (by decide) rfl (fun ls hl => ?_)
  refine lv_aload_n hx hb dM_lineCount_20 rfl (lv_at hl 2 rfl) ?_
  refine va_get (D := (dC, dI)) (ci := 3) (v := .ref (ad 8)) (C := RM) (T := TM) (N := 17) hx hb hts (fun w9 h9 => List.mem_cons_of_mem _ (inM w9 h9)) hown hK hP 0 rfl rfl 13 (by decide) (hts _ (List.mem_cons_of_mem _ flM_32)) (fun _ h9 => h9) rfl dM_lineCount_21 ?_
  refine lv_iload_n hx hb dM_lineCount_24 rfl (lv_at hl 3 rfl) ?_
  refine xi_iconst hx hb dM_lineCount_25 ?_
  refine xi_add (z := a0 + 4) hx hb dM_lineCount_26 rfl ?_
  refine xa_iald hx hb hK hP 8 7 rfl rfl (by decide) (by omega) dM_lineCount_27 ?_
  refine xi_top (y := .int (iI rx)) (by rw [e5]) ?_
  refine xl_i2l hx hb dM_lineCount_28 (by omega) ?_
  refine lv_lstore (lv' := [(8, .long (lI rx)), (6, .long (lI py)), (4, .long (lI px)), (0, .ref (ad 0)), (1, .int (iI a0)), (2, .int (iI x)), (3, .int (iI y))]) hx hb dM_lineCount_29 hl (by decide) rfl (fun ls hl => ?_)
  refine lv_aload_n hx hb dM_lineCount_31 rfl (lv_at hl 3 rfl) ?_
  refine va_get (D := (dC, dI)) (ci := 3) (v := .ref (ad 8)) (C := RM) (T := TM) (N := 17) hx hb hts (fun w9 h9 => List.mem_cons_of_mem _ (inM w9 h9)) hown hK hP 0 rfl rfl 13 (by decide) (hts _ (List.mem_cons_of_mem _ flM_32)) (fun _ h9 => h9) rfl dM_lineCount_32 ?_
  refine lv_iload_n hx hb dM_lineCount_35 rfl (lv_at hl 4 rfl) ?_
  refine xi_iconst hx hb dM_lineCount_36 ?_
  refine xi_add (z := a0 + 5) hx hb dM_lineCount_37 rfl ?_
  refine xa_iald hx hb hK hP 8 7 rfl rfl (by decide) (by omega) dM_lineCount_38 ?_
  refine xi_top (y := .int (iI ry)) (by rw [e6]) ?_
  refine xl_i2l hx hb dM_lineCount_39 (by omega) ?_
  refine lv_lstore (lv' := [(10, .long (lI ry)), (8, .long (lI rx)), (6, .long (lI py)), (4, .long (lI px)), (0, .ref (ad 0)), (1, .int (iI a0)), (2, .int (iI x)), (3, .int (iI y))]) hx hb dM_lineCount_40 hl (by decide) rfl (fun ls hl => ?_)
  have cut_55_1 : ∀ (v1 : Bool) (ls : Array Slot), (v1 = decide (y < py)) → lv_has ls 15 [(10, .long (lI ry)), (8, .long (lI rx)), (6, .long (lI py)), (4, .long (lI px)), (0, .ref (ad 0)), (1, .int (iI a0)), (2, .int (iI x)), (3, .int (iI y))] → W p l e R s m args below meth c H locs 0 0 Q (F0 m 55 ls [.int (iI (bz v1))]) := by
    intro v1 ls hv1 hl
    refine lv_istore (lv' := [(12, .int (iI (bz v1))), (10, .long (lI ry)), (8, .long (lI rx)), (6, .long (lI py)), (4, .long (lI px)), (0, .ref (ad 0)), (1, .int (iI a0)), (2, .int (iI x)), (3, .int (iI y))]) hx hb dM_lineCount_55 hl (by decide) rfl (fun ls hl => ?_)
    have cut_70_2 : ∀ (v2 : Bool) (ls : Array Slot), (v2 = decide (y < ry)) → lv_has ls 15 [(12, .int (iI (bz v1))), (10, .long (lI ry)), (8, .long (lI rx)), (6, .long (lI py)), (4, .long (lI px)), (0, .ref (ad 0)), (1, .int (iI a0)), (2, .int (iI x)), (3, .int (iI y))] → W p l e R s m args below meth c H locs 0 0 Q (F0 m 70 ls [.int (iI (bz v2))]) := by
      intro v2 ls hv2 hl
      refine lv_istore (lv' := [(13, .int (iI (bz v2))), (12, .int (iI (bz v1))), (10, .long (lI ry)), (8, .long (lI rx)), (6, .long (lI py)), (4, .long (lI px)), (0, .ref (ad 0)), (1, .int (iI a0)), (2, .int (iI x)), (3, .int (iI y))]) hx hb dM_lineCount_70 hl (by decide) rfl (fun ls hl => ?_)
      refine lv_iload hx hb dM_lineCount_72 (lv_at hl 1 rfl) ?_
      refine lv_iload hx hb dM_lineCount_74 (lv_at hl 0 rfl) ?_
      refine xb_icmp_ne (tgt := 81) hx hb dM_lineCount_76 (by decide) (fun c_76 => ?_) (fun c_76 => ?_)
      · skip
        have cut_137_3 : ∀ (v : Int) (ls : Array Slot), (v = lnc px py rx ry x y) → lv_has ls 15 [(13, .int (iI (bz v2))), (12, .int (iI (bz v1))), (10, .long (lI ry)), (8, .long (lI rx)), (6, .long (lI py)), (4, .long (lI px)), (0, .ref (ad 0)), (1, .int (iI a0)), (2, .int (iI x)), (3, .int (iI y))] → W p l e R s m args below meth c H locs 0 0 Q (F0 m 137 ls [.int (iI v)]) := by
          intro v ls hv hl
          subst hQ
          exact W.iret (v := (iI v)) hx hb hr (fun t9 ht9 hW9 => ⟨_, rfl, (by rw [hv]), ht9.trans hH⟩) (by rw [hlo]; intro q9 h9; cases h9) dM_lineCount_137
        refine lv_lload hx hb dM_lineCount_81 (lv_at hl 3 rfl) ?_
        refine lv_lload hx hb dM_lineCount_83 (lv_at hl 5 rfl) ?_
        refine xl_sub (z := rx - px) hx hb dM_lineCount_85 rfl ?_
        refine lv_iload_n hx hb dM_lineCount_86 rfl (lv_at hl 9 rfl) ?_
        refine xl_i2l hx hb dM_lineCount_87 (by omega) ?_
        refine lv_lload hx hb dM_lineCount_88 (lv_at hl 4 rfl) ?_
        refine xl_sub (z := y - py) hx hb dM_lineCount_90 rfl ?_
        refine xl_mul (z := (rx - px) * (y - py)) hx hb dM_lineCount_91 rfl ?_
        refine lv_iload_n hx hb dM_lineCount_92 rfl (lv_at hl 8 rfl) ?_
        refine xl_i2l hx hb dM_lineCount_93 (by omega) ?_
        refine lv_lload hx hb dM_lineCount_94 (lv_at hl 5 rfl) ?_
        refine xl_sub (z := x - px) hx hb dM_lineCount_96 rfl ?_
        refine lv_lload hx hb dM_lineCount_97 (lv_at hl 2 rfl) ?_
        refine lv_lload hx hb dM_lineCount_99 (lv_at hl 4 rfl) ?_
        refine xl_sub (z := ry - py) hx hb dM_lineCount_101 rfl ?_
        refine xl_mul (z := (x - px) * (ry - py)) hx hb dM_lineCount_102 rfl ?_
        refine xl_sub (z := ((rx - px) * (y - py)) - ((x - px) * (ry - py))) hx hb dM_lineCount_103 rfl ?_
        refine vp_callSi (W.runS (As := [.long (lI (((rx - px) * (y - py)) - ((x - px) * (ry - py))))]) (rest := []) ⟨hx, hb, hml, hown, hts⟩ (m_signOf l dC dI ((rx - px) * (y - py) - (x - px) * (ry - py)) (by omega)) (va_cwS 1 hts (tb_S mlM_102 smM_signOf iniM coM_signOf) rfl rfl rfl (by decide +kernel) (by subst hR; exact ⟨Nat.le_of_ble_eq_true rfl, Nat.le_of_ble_eq_true rfl⟩)) ⟨fun a9 U9 g9 mk9 q9 => q9, fun U hU hW => ⟨rfl, trivial⟩⟩ rfl rfl hl.1 rfl (lv_room (Nat.le_of_ble_eq_true rfl)) dM_lineCount_104 ⟨by subst hR; exact Nat.zero_le _, by subst hR; exact Nat.zero_le _⟩) (fun r_104 hw_104 => ?_)
        subst hw_104
        refine lv_lload hx hb dM_lineCount_107 (lv_at hl 2 rfl) ?_
        refine lv_lload hx hb dM_lineCount_109 (lv_at hl 4 rfl) ?_
        refine xl_sub (z := ry - py) hx hb dM_lineCount_111 rfl ?_
        refine vp_callSi (W.runS (As := [.long (lI (ry - py))]) (rest := [.int (iI (sgn ((rx - px) * (y - py) - (x - px) * (ry - py))))]) ⟨hx, hb, hml, hown, hts⟩ (m_signOf l dC dI (ry - py) (by omega)) (va_cwS 1 hts (tb_S mlM_102 smM_signOf iniM coM_signOf) rfl rfl rfl (by decide +kernel) (by subst hR; exact ⟨Nat.le_of_ble_eq_true rfl, Nat.le_of_ble_eq_true rfl⟩)) ⟨fun a9 U9 g9 mk9 q9 => q9, fun U hU hW => ⟨rfl, trivial⟩⟩ rfl rfl hl.1 rfl (lv_room (Nat.le_of_ble_eq_true rfl)) dM_lineCount_112 ⟨by subst hR; exact Nat.zero_le _, by subst hR; exact Nat.zero_le _⟩) (fun r_112 hw_112 => ?_)
        subst hw_112
        refine xi_mul (z := sg) hx hb dM_lineCount_115 (hsg.symm) ?_
        refine lv_istore (lv' := [(14, .int (iI sg)), (13, .int (iI (bz v2))), (12, .int (iI (bz v1))), (10, .long (lI ry)), (8, .long (lI rx)), (6, .long (lI py)), (4, .long (lI px)), (0, .ref (ad 0)), (1, .int (iI a0)), (2, .int (iI x)), (3, .int (iI y))]) hx hb dM_lineCount_116 hl (by decide) rfl (fun ls hl => ?_)
        refine lv_iload hx hb dM_lineCount_118 (lv_at hl 0 rfl) ?_
        refine xi_if_le (tgt := 127) hx hb dM_lineCount_120 (by decide) (by omega) (fun c_120 => ?_) (fun c_120 => ?_)
        · skip
          refine lv_iload hx hb dM_lineCount_127 (lv_at hl 1 rfl) ?_
          refine xb_if_eq (tgt := 136) hx hb dM_lineCount_129 (by decide) (fun c_129 => ?_) (fun c_129 => ?_)
          · skip
            refine xi_iconst hx hb dM_lineCount_136 ?_
            exact cut_137_3 (-1) _ (by unfold lnc; rw [if_neg (by rw [← hv1, ← hv2]; exact c_76), ← hsg, if_neg (by omega), if_neg (by rw [hv2] at c_129; exact of_decide_eq_false c_129)]) (lv_sub hl [1, 2, 3, 4, 5, 6, 7, 8, 9, 10] rfl)
          · skip
            refine xi_iconst hx hb dM_lineCount_132 ?_
            refine lv_goto (tgt := 137) hx hb dM_lineCount_133 (by decide) ?_
            exact cut_137_3 1 _ (by unfold lnc; rw [if_neg (by rw [← hv1, ← hv2]; exact c_76), ← hsg, if_neg (by omega), if_pos (by rw [hv2] at c_129; exact of_decide_eq_true c_129)]) (lv_sub hl [1, 2, 3, 4, 5, 6, 7, 8, 9, 10] rfl)
        · skip
          refine xi_iconst hx hb dM_lineCount_123 ?_
          refine lv_goto (tgt := 137) hx hb dM_lineCount_124 (by decide) ?_
          exact cut_137_3 0 _ (by unfold lnc; rw [if_neg (by rw [← hv1, ← hv2]; exact c_76), ← hsg, if_pos (by omega)]) (lv_sub hl [1, 2, 3, 4, 5, 6, 7, 8, 9, 10] rfl)
      · skip
        refine xi_iconst hx hb dM_lineCount_79 ?_
        subst hQ
        exact W.iret (v := (iI 0)) hx hb hr (fun t9 ht9 hW9 => ⟨_, rfl, (by unfold lnc; rw [if_pos (by rw [← hv1, ← hv2]; exact c_76)]), ht9.trans hH⟩) (by rw [hlo]; intro q9 h9; cases h9) dM_lineCount_80
    refine lv_lload hx hb dM_lineCount_57 (lv_at hl 1 rfl) ?_
    refine lv_iload_n hx hb dM_lineCount_59 rfl (lv_at hl 8 rfl) ?_
    refine xl_i2l hx hb dM_lineCount_60 (by omega) ?_
    refine xl_le (tgt := 69) hx hb dM_lineCount_61 dM_lineCount_62 (by decide) (by omega) (by omega) (fun c_61 => ?_) (fun c_61 => ?_)
    · skip
      refine xi_iconst hx hb dM_lineCount_69 ?_
      exact cut_70_2 false _ (dec_f (by omega)) (lv_sub hl [0, 1, 2, 3, 4, 5, 6, 7, 8] rfl)
    · skip
      refine xi_iconst hx hb dM_lineCount_65 ?_
      refine lv_goto (tgt := 70) hx hb dM_lineCount_66 (by decide) ?_
      exact cut_70_2 true _ (dec_t (by omega)) (lv_sub hl [0, 1, 2, 3, 4, 5, 6, 7, 8] rfl)
  refine lv_lload hx hb dM_lineCount_42 (lv_at hl 2 rfl) ?_
  refine lv_iload_n hx hb dM_lineCount_44 rfl (lv_at hl 7 rfl) ?_
  refine xl_i2l hx hb dM_lineCount_45 (by omega) ?_
  refine xl_le (tgt := 54) hx hb dM_lineCount_46 dM_lineCount_47 (by decide) (by omega) (by omega) (fun c_46 => ?_) (fun c_46 => ?_)
  · skip
    refine xi_iconst hx hb dM_lineCount_54 ?_
    exact cut_55_1 false _ (dec_f (by omega)) (lv_sub hl [0, 1, 2, 3, 4, 5, 6, 7] rfl)
  · skip
    refine xi_iconst hx hb dM_lineCount_50 ?_
    refine lv_goto (tgt := 55) hx hb dM_lineCount_51 (by decide) ?_
    exact cut_55_1 true _ (dec_t (by omega)) (lv_sub hl [0, 1, 2, 3, 4, 5, 6, 7] rfl)
set_option maxHeartbeats 4000000 in
set_option maxRecDepth 100000 in
/-- curveCount -/
theorem m_curveCount (l : Launch) (dC : Nat → ClassId) (dI : Nat → Nat → Nat) (ad : Nat → Nat) (cs : Nat → ClassId) (sz : Nat) (ft : Int) (par : Bool) (np nc rs npc hi lo : Int) (X Y : Int → Int) (O : Int → Bool) (E RX RY : Int → Int) (RO : Int → Bool) (PC : Int → Int) (CV : Int → Bool) (a0 x y px py qx qy rx ry : Int) (e1 : PC a0 = px) (e2 : PC (a0 + 1) = py) (e3 : PC (a0 + 2) = qx) (e4 : PC (a0 + 3) = qy) (e5 : PC (a0 + 4) = rx) (e6 : PC (a0 + 5) = ry) (h1 : -8192 ≤ px ∧ px ≤ 8191) (h2 : -8192 ≤ py ∧ py ≤ 8191) (h3 : -8192 ≤ qx ∧ qx ≤ 8191) (h4 : -8192 ≤ qy ∧ qy ≤ 8191) (h5 : -8192 ≤ rx ∧ rx ≤ 8191) (h6 : -8192 ≤ ry ∧ ry ≤ 8191) (hx0 : -16384 ≤ x ∧ x ≤ 16384) (hy0 : -16384 ≤ y ∧ y ≤ 16384) (ha0 : 0 ≤ a0 ∧ a0 ≤ 3066) : Met l yM_curveCount wM_curveCount ({ frames := 4, cells := 0, slots := 0, locals := 133 }) (va_Pc [.ref (ad 0), .int (iI a0), .int (iI x), .int (iI y)] (fun U => U.heap.size = sz ∧ va_P (dC, dI) vwCl (mW ad cs ft par np nc rs npc hi lo X Y O E RX RY RO PC CV) U.heap ∧ va_K (dC, dI) vwCl (mT cs) U ∧ va_D (fun _ => True) (mW ad cs ft par np nc rs npc hi lo X Y O E RX RY RO PC CV))) (va_Qi (fun (r : Int32) (u : Int × Int) => r = iI (cvc px py qx qy rx ry x y) ∧ True) (fun (u : Int × Int) t9 => va_P (dC, dI) vwCl (mW ad cs ft par np nc rs npc u.1 u.2 X Y O E RX RY RO PC CV) t9.heap ∧ va_K (dC, dI) vwCl (mT cs) t9 ∧ va_D (va_A (mW ad cs ft par np nc rs npc hi lo X Y O E RX RY RO PC CV) sz) (mW ad cs ft par np nc rs npc u.1 u.2 X Y O E RX RY RO PC CV)) (va_A (mW ad cs ft par np nc rs npc hi lo X Y O E RX RY RO PC CV) sz)) 0 0 (va_A (mW ad cs ft par np nc rs npc hi lo X Y O E RX RY RO PC CV) sz) := by
  refine Met.ofW (cc := cM_curveCount) (maxL := 22) (ret := (some .int)) (by decide) rfl ?_
  intro p e s m args below meth c s₁ B hml hv
  obtain ⟨hargs, hsz, hP, hK, hD0⟩ := hv
  have hx := B.exec
  have hb := B.bytes
  have hr := B.returns
  have hts := atoms_spec (ws := wM_curveCount) B.pre
  have hown : s.vm.findClass RM = some m.cls := findClass_of_methodNamed B.named
  have hlocks := B.notSynchronized
  subst hsz
  have hD := hD0.self (sz := s.heap.size)
  generalize hAe : va_A (mW ad cs ft par np nc rs npc hi lo X Y O E RX RY RO PC CV) s.heap.size = A at hD ⊢
  have hA : ∀ q : Nat, s.heap.size ≤ q → A q := fun q h => by rw [← hAe]; exact Or.inr h
  have hS0 : va_S A s.heap s.heap [] := va_S.rf
  refine x_name (fun R Q H locs hR hQ hH hlo => ?_)
  rw [← hH] at hP
  have hS : va_S A s.heap H locs := by rw [hH, hlo]; exact hS0
  refine x_entry hargs (Nat.le_of_ble_eq_true rfl) (fun ls hl => ?_)
  have hl : lv_has ls 22 [(0, .ref (ad 0)), (1, .int (iI a0)), (2, .int (iI x)), (3, .int (iI y))] := hl
  have hP : va_P (dC, dI) vwCl (mW ad cs ft par np nc rs npc hi lo X Y O E RX RY RO PC CV) H := hP
  obtain ⟨aa, haa⟩ : ∃ z, z = py - 2 * qy + ry := ⟨_, rfl⟩
  obtain ⟨bb, hbb⟩ : ∃ z, z = 2 * (qy - py) := ⟨_, rfl⟩
  obtain ⟨k0, hk0⟩ : ∃ z, z = py - y := ⟨_, rfl⟩
  obtain ⟨e0, he0⟩ : ∃ z, z = px - 2 * qx + rx := ⟨_, rfl⟩
  obtain ⟨f0, hf0⟩ : ∃ z, z = 2 * (qx - px) := ⟨_, rfl⟩
  obtain ⟨g0, hg0⟩ : ∃ z, z = px - x := ⟨_, rfl⟩
  have e9 : cvc px py qx qy rx ry x y = cvc2 aa bb k0 e0 f0 g0 (decide (0 < k0)) (decide (y < ry)) := by unfold cvc; rw [haa, hbb, hk0, he0, hf0, hg0]
  have b1 := mul_bd 32768 32768 (a := bb) (b := bb) (by omega) (by omega)
  have b2 := mul_bd 131072 32768 (a := 4 * aa) (b := k0) (by omega) (by omega)
  refine lv_aload_n hx hb dM_curveCount_0 rfl (lv_at hl 0 rfl) ?_
  refine va_get (D := (dC, dI)) (ci := 3) (v := .ref (ad 8)) (C := RM) (T := TM) (N := 17) hx hb hts (fun w9 h9 => List.mem_cons_of_mem _ (inM w9 h9)) hown hK hP 0 rfl rfl 13 (by decide) (hts _ (List.mem_cons_of_mem _ flM_32)) (fun _ h9 => h9) rfl dM_curveCount_1 ?_
  refine lv_iload_n hx hb dM_curveCount_4 rfl (lv_at hl 1 rfl) ?_
  refine xi_iconst hx hb dM_curveCount_5 ?_
  refine xi_add (z := a0 + 1) hx hb dM_curveCount_6 rfl ?_
  refine xa_iald hx hb hK hP 8 7 rfl rfl (by decide) (by omega) dM_curveCount_7 ?_
  refine xi_top (y := .int (iI py)) (by rw [e2]) ?_
  refine xl_i2l hx hb dM_curveCount_8 (by omega) ?_
  refine lv_ldc2 (v := 2) hx hb hown (hts _ (List.mem_cons_of_mem _ klM_110)) dM_curveCount_9 ?_
  refine xi_top (y := .long (lI 2)) (by decide +kernel) ?_
  refine lv_aload_n hx hb dM_curveCount_12 rfl (lv_at hl 0 rfl) ?_
  refine va_get (D := (dC, dI)) (ci := 3) (v := .ref (ad 8)) (C := RM) (T := TM) (N := 17) hx hb hts (fun w9 h9 => List.mem_cons_of_mem _ (inM w9 h9)) hown hK hP 0 rfl rfl 13 (by decide) (hts _ (List.mem_cons_of_mem _ flM_32)) (fun _ h9 => h9) rfl dM_curveCount_13 ?_
  refine lv_iload_n hx hb dM_curveCount_16 rfl (lv_at hl 1 rfl) ?_
  refine xi_iconst hx hb dM_curveCount_17 ?_
  refine xi_add (z := a0 + 3) hx hb dM_curveCount_18 rfl ?_
  refine xa_iald hx hb hK hP 8 7 rfl rfl (by decide) (by omega) dM_curveCount_19 ?_
  refine xi_top (y := .int (iI qy)) (by rw [e4]) ?_
  refine xl_i2l hx hb dM_curveCount_20 (by omega) ?_
  refine xl_mul (z := 2 * qy) hx hb dM_curveCount_21 rfl ?_
  refine xl_sub (z := py - (2 * qy)) hx hb dM_curveCount_22 rfl ?_
  refine lv_aload_n hx hb dM_curveCount_23 rfl (lv_at hl 0 rfl) ?_
  refine va_get (D := (dC, dI)) (ci := 3) (v := .ref (ad 8)) (C := RM) (T := TM) (N := 17) hx hb hts (fun w9 h9 => List.mem_cons_of_mem _ (inM w9 h9)) hown hK hP 0 rfl rfl 13 (by decide) (hts _ (List.mem_cons_of_mem _ flM_32)) (fun _ h9 => h9) rfl dM_curveCount_24 ?_
  refine lv_iload_n hx hb dM_curveCount_27 rfl (lv_at hl 1 rfl) ?_
  refine xi_iconst hx hb dM_curveCount_28 ?_
  refine xi_add (z := a0 + 5) hx hb dM_curveCount_29 rfl ?_
  refine xa_iald hx hb hK hP 8 7 rfl rfl (by decide) (by omega) dM_curveCount_30 ?_
  refine xi_top (y := .int (iI ry)) (by rw [e6]) ?_
  refine xl_i2l hx hb dM_curveCount_31 (by omega) ?_
  refine xl_add (z := aa) hx hb dM_curveCount_32 (haa.symm) ?_
  refine lv_lstore (lv' := [(4, .long (lI aa)), (0, .ref (ad 0)), (1, .int (iI a0)), (2, .int (iI x)), (3, .int (iI y))]) hx hb dM_curveCount_33 hl (by decide) rfl (fun ls hl => ?_)
  refine lv_ldc2 (v := 2) hx hb hown (hts _ (List.mem_cons_of_mem _ klM_110)) dM_curveCount_35 ?_
  refine xi_top (y := .long (lI 2)) (by decide +kernel) ?_
  refine lv_aload_n hx hb dM_curveCount_38 rfl (lv_at hl 1 rfl) ?_
  refine va_get (D := (dC, dI)) (ci := 3) (v := .ref (ad 8)) (C := RM) (T := TM) (N := 17) hx hb hts (fun w9 h9 => List.mem_cons_of_mem _ (inM w9 h9)) hown hK hP 0 rfl rfl 13 (by decide) (hts _ (List.mem_cons_of_mem _ flM_32)) (fun _ h9 => h9) rfl dM_curveCount_39 ?_
  refine lv_iload_n hx hb dM_curveCount_42 rfl (lv_at hl 2 rfl) ?_
  refine xi_iconst hx hb dM_curveCount_43 ?_
  refine xi_add (z := a0 + 3) hx hb dM_curveCount_44 rfl ?_
  refine xa_iald hx hb hK hP 8 7 rfl rfl (by decide) (by omega) dM_curveCount_45 ?_
  refine xi_top (y := .int (iI qy)) (by rw [e4]) ?_
  refine lv_aload_n hx hb dM_curveCount_46 rfl (lv_at hl 1 rfl) ?_
  refine va_get (D := (dC, dI)) (ci := 3) (v := .ref (ad 8)) (C := RM) (T := TM) (N := 17) hx hb hts (fun w9 h9 => List.mem_cons_of_mem _ (inM w9 h9)) hown hK hP 0 rfl rfl 13 (by decide) (hts _ (List.mem_cons_of_mem _ flM_32)) (fun _ h9 => h9) rfl dM_curveCount_47 ?_
  refine lv_iload_n hx hb dM_curveCount_50 rfl (lv_at hl 2 rfl) ?_
  refine xi_iconst hx hb dM_curveCount_51 ?_
  refine xi_add (z := a0 + 1) hx hb dM_curveCount_52 rfl ?_
  refine xa_iald hx hb hK hP 8 7 rfl rfl (by decide) (by omega) dM_curveCount_53 ?_
  refine xi_top (y := .int (iI py)) (by rw [e2]) ?_
  refine xi_sub (z := qy - py) hx hb dM_curveCount_54 rfl ?_
  refine xl_i2l hx hb dM_curveCount_55 (by omega) ?_
  refine xl_mul (z := bb) hx hb dM_curveCount_56 (hbb.symm) ?_
  refine lv_lstore (lv' := [(6, .long (lI bb)), (4, .long (lI aa)), (0, .ref (ad 0)), (1, .int (iI a0)), (2, .int (iI x)), (3, .int (iI y))]) hx hb dM_curveCount_57 hl (by decide) rfl (fun ls hl => ?_)
  refine lv_aload_n hx hb dM_curveCount_59 rfl (lv_at hl 2 rfl) ?_
  refine va_get (D := (dC, dI)) (ci := 3) (v := .ref (ad 8)) (C := RM) (T := TM) (N := 17) hx hb hts (fun w9 h9 => List.mem_cons_of_mem _ (inM w9 h9)) hown hK hP 0 rfl rfl 13 (by decide) (hts _ (List.mem_cons_of_mem _ flM_32)) (fun _ h9 => h9) rfl dM_curveCount_60 ?_
  refine lv_iload_n hx hb dM_curveCount_63 rfl (lv_at hl 3 rfl) ?_
  refine xi_iconst hx hb dM_curveCount_64 ?_
  refine xi_add (z := a0 + 1) hx hb dM_curveCount_65 rfl ?_
  refine xa_iald hx hb hK hP 8 7 rfl rfl (by decide) (by omega) dM_curveCount_66 ?_
  refine xi_top (y := .int (iI py)) (by rw [e2]) ?_
  refine xl_i2l hx hb dM_curveCount_67 (by omega) ?_
  refine lv_iload_n hx hb dM_curveCount_68 rfl (lv_at hl 5 rfl) ?_
  refine xl_i2l hx hb dM_curveCount_69 (by omega) ?_
  refine xl_sub (z := k0) hx hb dM_curveCount_70 (hk0.symm) ?_
  refine lv_lstore (lv' := [(8, .long (lI k0)), (6, .long (lI bb)), (4, .long (lI aa)), (0, .ref (ad 0)), (1, .int (iI a0)), (2, .int (iI x)), (3, .int (iI y))]) hx hb dM_curveCount_71 hl (by decide) rfl (fun ls hl => ?_)
  refine lv_aload_n hx hb dM_curveCount_73 rfl (lv_at hl 3 rfl) ?_
  refine va_get (D := (dC, dI)) (ci := 3) (v := .ref (ad 8)) (C := RM) (T := TM) (N := 17) hx hb hts (fun w9 h9 => List.mem_cons_of_mem _ (inM w9 h9)) hown hK hP 0 rfl rfl 13 (by decide) (hts _ (List.mem_cons_of_mem _ flM_32)) (fun _ h9 => h9) rfl dM_curveCount_74 ?_
  refine lv_iload_n hx hb dM_curveCount_77 rfl (lv_at hl 4 rfl) ?_
  refine xa_iald hx hb hK hP 8 7 rfl rfl (by decide) (by omega) dM_curveCount_78 ?_
  refine xi_top (y := .int (iI px)) (by rw [e1]) ?_
  refine xl_i2l hx hb dM_curveCount_79 (by omega) ?_
  refine lv_ldc2 (v := 2) hx hb hown (hts _ (List.mem_cons_of_mem _ klM_110)) dM_curveCount_80 ?_
  refine xi_top (y := .long (lI 2)) (by decide +kernel) ?_
  refine lv_aload_n hx hb dM_curveCount_83 rfl (lv_at hl 3 rfl) ?_
  refine va_get (D := (dC, dI)) (ci := 3) (v := .ref (ad 8)) (C := RM) (T := TM) (N := 17) hx hb hts (fun w9 h9 => List.mem_cons_of_mem _ (inM w9 h9)) hown hK hP 0 rfl rfl 13 (by decide) (hts _ (List.mem_cons_of_mem _ flM_32)) (fun _ h9 => h9) rfl dM_curveCount_84 ?_
  refine lv_iload_n hx hb dM_curveCount_87 rfl (lv_at hl 4 rfl) ?_
  refine xi_iconst hx hb dM_curveCount_88 ?_
  refine xi_add (z := a0 + 2) hx hb dM_curveCount_89 rfl ?_
  refine xa_iald hx hb hK hP 8 7 rfl rfl (by decide) (by omega) dM_curveCount_90 ?_
  refine xi_top (y := .int (iI qx)) (by rw [e3]) ?_
  refine xl_i2l hx hb dM_curveCount_91 (by omega) ?_
  refine xl_mul (z := 2 * qx) hx hb dM_curveCount_92 rfl ?_
  refine xl_sub (z := px - (2 * qx)) hx hb dM_curveCount_93 rfl ?_
  refine lv_aload_n hx hb dM_curveCount_94 rfl (lv_at hl 3 rfl) ?_
  refine va_get (D := (dC, dI)) (ci := 3) (v := .ref (ad 8)) (C := RM) (T := TM) (N := 17) hx hb hts (fun w9 h9 => List.mem_cons_of_mem _ (inM w9 h9)) hown hK hP 0 rfl rfl 13 (by decide) (hts _ (List.mem_cons_of_mem _ flM_32)) (fun _ h9 => h9) rfl dM_curveCount_95 ?_
  refine lv_iload_n hx hb dM_curveCount_98 rfl (lv_at hl 4 rfl) ?_
  refine xi_iconst hx hb dM_curveCount_99 ?_
  refine xi_add (z := a0 + 4) hx hb dM_curveCount_100 rfl ?_
  refine xa_iald hx hb hK hP 8 7 rfl rfl (by decide) (by omega) dM_curveCount_101 ?_
  refine xi_top (y := .int (iI rx)) (by rw [e5]) ?_
  refine xl_i2l hx hb dM_curveCount_102 (by omega) ?_
  refine xl_add (z := e0) hx hb dM_curveCount_103 (he0.symm) ?_
  refine lv_lstore (lv' := [(10, .long (lI e0)), (8, .long (lI k0)), (6, .long (lI bb)), (4, .long (lI aa)), (0, .ref (ad 0)), (1, .int (iI a0)), (2, .int (iI x)), (3, .int (iI y))]) hx hb dM_curveCount_104 hl (by decide) rfl (fun ls hl => ?_)
  refine lv_ldc2 (v := 2) hx hb hown (hts _ (List.mem_cons_of_mem _ klM_110)) dM_curveCount_106 ?_
  refine xi_top (y := .long (lI 2)) (by decide +kernel) ?_
  refine lv_aload_n hx hb dM_curveCount_109 rfl (lv_at hl 4 rfl) ?_
  refine va_get (D := (dC, dI)) (ci := 3) (v := .ref (ad 8)) (C := RM) (T := TM) (N := 17) hx hb hts (fun w9 h9 => List.mem_cons_of_mem _ (inM w9 h9)) hown hK hP 0 rfl rfl 13 (by decide) (hts _ (List.mem_cons_of_mem _ flM_32)) (fun _ h9 => h9) rfl dM_curveCount_110 ?_
  refine lv_iload_n hx hb dM_curveCount_113 rfl (lv_at hl 5 rfl) ?_
  refine xi_iconst hx hb dM_curveCount_114 ?_
  refine xi_add (z := a0 + 2) hx hb dM_curveCount_115 rfl ?_
  refine xa_iald hx hb hK hP 8 7 rfl rfl (by decide) (by omega) dM_curveCount_116 ?_
  refine xi_top (y := .int (iI qx)) (by rw [e3]) ?_
  refine lv_aload_n hx hb dM_curveCount_117 rfl (lv_at hl 4 rfl) ?_
  refine va_get (D := (dC, dI)) (ci := 3) (v := .ref (ad 8)) (C := RM) (T := TM) (N := 17) hx hb hts (fun w9 h9 => List.mem_cons_of_mem _ (inM w9 h9)) hown hK hP 0 rfl rfl 13 (by decide) (hts _ (List.mem_cons_of_mem _ flM_32)) (fun _ h9 => h9) rfl dM_curveCount_118 ?_
  refine lv_iload_n hx hb dM_curveCount_121 rfl (lv_at hl 5 rfl) ?_
  refine xa_iald hx hb hK hP 8 7 rfl rfl (by decide) (by omega) dM_curveCount_122 ?_
  refine xi_top (y := .int (iI px)) (by rw [e1]) ?_
  refine xi_sub (z := qx - px) hx hb dM_curveCount_123 rfl ?_
  refine xl_i2l hx hb dM_curveCount_124 (by omega) ?_
  refine xl_mul (z := f0) hx hb dM_curveCount_125 (hf0.symm) ?_
  refine lv_lstore (lv' := [(12, .long (lI f0)), (10, .long (lI e0)), (8, .long (lI k0)), (6, .long (lI bb)), (4, .long (lI aa)), (0, .ref (ad 0)), (1, .int (iI a0)), (2, .int (iI x)), (3, .int (iI y))]) hx hb dM_curveCount_126 hl (by decide) rfl (fun ls hl => ?_)
  refine lv_aload_n hx hb dM_curveCount_128 rfl (lv_at hl 5 rfl) ?_
  refine va_get (D := (dC, dI)) (ci := 3) (v := .ref (ad 8)) (C := RM) (T := TM) (N := 17) hx hb hts (fun w9 h9 => List.mem_cons_of_mem _ (inM w9 h9)) hown hK hP 0 rfl rfl 13 (by decide) (hts _ (List.mem_cons_of_mem _ flM_32)) (fun _ h9 => h9) rfl dM_curveCount_129 ?_
  refine lv_iload_n hx hb dM_curveCount_132 rfl (lv_at hl 6 rfl) ?_
  refine xa_iald hx hb hK hP 8 7 rfl rfl (by decide) (by omega) dM_curveCount_133 ?_
  refine xi_top (y := .int (iI px)) (by rw [e1]) ?_
  refine xl_i2l hx hb dM_curveCount_134 (by omega) ?_
  refine lv_iload_n hx hb dM_curveCount_135 rfl (lv_at hl 7 rfl) ?_
  refine xl_i2l hx hb dM_curveCount_136 (by omega) ?_
  refine xl_sub (z := g0) hx hb dM_curveCount_137 (hg0.symm) ?_
  refine lv_lstore (lv' := [(14, .long (lI g0)), (12, .long (lI f0)), (10, .long (lI e0)), (8, .long (lI k0)), (6, .long (lI bb)), (4, .long (lI aa)), (0, .ref (ad 0)), (1, .int (iI a0)), (2, .int (iI x)), (3, .int (iI y))]) hx hb dM_curveCount_138 hl (by decide) rfl (fun ls hl => ?_)
  have cut_152_1 : ∀ (fi : Bool) (ls : Array Slot), (fi = decide (0 < k0)) → lv_has ls 22 [(14, .long (lI g0)), (12, .long (lI f0)), (10, .long (lI e0)), (8, .long (lI k0)), (6, .long (lI bb)), (4, .long (lI aa)), (0, .ref (ad 0)), (1, .int (iI a0)), (2, .int (iI x)), (3, .int (iI y))] → W p l e R s m args below meth c H locs 0 0 Q (F0 m 152 ls [.int (iI (bz fi))]) := by
    intro fi ls hfi hl
    refine lv_istore (lv' := [(16, .int (iI (bz fi))), (14, .long (lI g0)), (12, .long (lI f0)), (10, .long (lI e0)), (8, .long (lI k0)), (6, .long (lI bb)), (4, .long (lI aa)), (0, .ref (ad 0)), (1, .int (iI a0)), (2, .int (iI x)), (3, .int (iI y))]) hx hb dM_curveCount_152 hl (by decide) rfl (fun ls hl => ?_)
    have cut_171_2 : ∀ (la : Bool) (ls : Array Slot), (la = decide (y < ry)) → lv_has ls 22 [(16, .int (iI (bz fi))), (14, .long (lI g0)), (12, .long (lI f0)), (10, .long (lI e0)), (8, .long (lI k0)), (6, .long (lI bb)), (4, .long (lI aa)), (0, .ref (ad 0)), (1, .int (iI a0)), (2, .int (iI x)), (3, .int (iI y))] → W p l e R s m args below meth c H locs 0 0 Q (F0 m 171 ls [.int (iI (bz la))]) := by
      intro la ls hla hl
      refine lv_istore (lv' := [(17, .int (iI (bz la))), (16, .int (iI (bz fi))), (14, .long (lI g0)), (12, .long (lI f0)), (10, .long (lI e0)), (8, .long (lI k0)), (6, .long (lI bb)), (4, .long (lI aa)), (0, .ref (ad 0)), (1, .int (iI a0)), (2, .int (iI x)), (3, .int (iI y))]) hx hb dM_curveCount_171 hl (by decide) rfl (fun ls hl => ?_)
      refine lv_iload hx hb dM_curveCount_173 (lv_at hl 1 rfl) ?_
      refine lv_iload hx hb dM_curveCount_175 (lv_at hl 0 rfl) ?_
      refine xb_icmp_eq (tgt := 240) hx hb dM_curveCount_177 (by decide) (fun c_177 => ?_) (fun c_177 => ?_)
      · skip
        have cut_306_3 : ∀ (tr : Bool) (ls : Array Slot), (tr = trn aa bb) → lv_has ls 22 [(17, .int (iI (bz la))), (16, .int (iI (bz fi))), (14, .long (lI g0)), (12, .long (lI f0)), (10, .long (lI e0)), (8, .long (lI k0)), (6, .long (lI bb)), (4, .long (lI aa)), (0, .ref (ad 0)), (1, .int (iI a0)), (2, .int (iI x)), (3, .int (iI y))] → W p l e R s m args below meth c H locs 0 0 Q (F0 m 306 ls [.int (iI (bz tr))]) := by
          intro tr ls htr hl
          refine lv_istore (lv' := [(18, .int (iI (bz tr))), (17, .int (iI (bz la))), (16, .int (iI (bz fi))), (14, .long (lI g0)), (12, .long (lI f0)), (10, .long (lI e0)), (8, .long (lI k0)), (6, .long (lI bb)), (4, .long (lI aa)), (0, .ref (ad 0)), (1, .int (iI a0)), (2, .int (iI x)), (3, .int (iI y))]) hx hb dM_curveCount_306 hl (by decide) rfl (fun ls hl => ?_)
          have cut_340_4 : ∀ (by_ : Bool) (ls : Array Slot), (by_ = byd aa fi) → lv_has ls 22 [(18, .int (iI (bz tr))), (17, .int (iI (bz la))), (16, .int (iI (bz fi))), (14, .long (lI g0)), (12, .long (lI f0)), (10, .long (lI e0)), (8, .long (lI k0)), (6, .long (lI bb)), (4, .long (lI aa)), (0, .ref (ad 0)), (1, .int (iI a0)), (2, .int (iI x)), (3, .int (iI y))] → W p l e R s m args below meth c H locs 0 0 Q (F0 m 340 ls [.int (iI (bz by_))]) := by
            intro by_ ls hby_ hl
            refine lv_istore (lv' := [(19, .int (iI (bz by_))), (18, .int (iI (bz tr))), (17, .int (iI (bz la))), (16, .int (iI (bz fi))), (14, .long (lI g0)), (12, .long (lI f0)), (10, .long (lI e0)), (8, .long (lI k0)), (6, .long (lI bb)), (4, .long (lI aa)), (0, .ref (ad 0)), (1, .int (iI a0)), (2, .int (iI x)), (3, .int (iI y))]) hx hb dM_curveCount_340 hl (by decide) rfl (fun ls hl => ?_)
            refine lv_iload hx hb dM_curveCount_342 (lv_at hl 1 rfl) ?_
            refine xb_if_eq (tgt := 372) hx hb dM_curveCount_344 (by decide) (fun c_344 => ?_) (fun c_344 => ?_)
            · skip
              refine xi_iconst hx hb dM_curveCount_372 ?_
              subst hQ
              exact W.iret (v := (iI 0)) hx hb hr (fun t9 ht9 hW9 => ⟨⟨_, (hi, lo), rfl, (⟨by rw [e9, ← hfi, ← hla]; unfold cvc2; rw [if_pos c_177, if_neg (fun h => by rw [← htr, c_344] at h; exact absurd h.1 (by decide))], trivial⟩), by rw [ht9]; exact hP, va_K.moved hW9.alike hK, hD⟩, hS.F ht9⟩) hS.2.2 dM_curveCount_373
            · skip
              refine lv_iload hx hb dM_curveCount_347 (lv_at hl 0 rfl) ?_
              refine xb_if_eq (tgt := 372) hx hb dM_curveCount_349 (by decide) (fun c_349 => ?_) (fun c_349 => ?_)
              · skip
                refine xi_iconst hx hb dM_curveCount_372 ?_
                subst hQ
                exact W.iret (v := (iI 0)) hx hb hr (fun t9 ht9 hW9 => ⟨⟨_, (hi, lo), rfl, (⟨by rw [e9, ← hfi, ← hla]; unfold cvc2; rw [if_pos c_177, if_neg (fun h => by rw [← hby_, c_349] at h; exact absurd h.2.1 (by decide))], trivial⟩), by rw [ht9]; exact hP, va_K.moved hW9.alike hK, hD⟩, hS.F ht9⟩) hS.2.2 dM_curveCount_373
              · skip
                refine lv_lload hx hb dM_curveCount_352 (lv_at hl 8 rfl) ?_
                refine lv_lload hx hb dM_curveCount_354 (lv_at hl 8 rfl) ?_
                refine xl_mul (z := bb * bb) hx hb dM_curveCount_356 rfl ?_
                refine lv_ldc2 (v := 4) hx hb hown (hts _ (List.mem_cons_of_mem _ klM_122)) dM_curveCount_357 ?_
                refine xi_top (y := .long (lI 4)) (by decide +kernel) ?_
                refine lv_lload hx hb dM_curveCount_360 (lv_at hl 9 rfl) ?_
                refine xl_mul (z := 4 * aa) hx hb dM_curveCount_362 rfl ?_
                refine lv_lload hx hb dM_curveCount_363 (lv_at hl 7 rfl) ?_
                refine xl_mul (z := (4 * aa) * k0) hx hb dM_curveCount_365 rfl ?_
                refine xl_sub (z := (bb * bb) - ((4 * aa) * k0)) hx hb dM_curveCount_366 rfl ?_
                refine lv_lconst (v := lI 0) hx hb dM_curveCount_367 (by decide +kernel) ?_
                refine xl_gt (tgt := 374) hx hb dM_curveCount_368 dM_curveCount_369 (by decide) (by omega) (by omega) (fun c_368 => ?_) (fun c_368 => ?_)
                · skip
                  refine lv_aload_n hx hb dM_curveCount_374 rfl (lv_at hl 10 rfl) ?_
                  refine lv_lload hx hb dM_curveCount_375 (lv_at hl 9 rfl) ?_
                  refine lv_lload hx hb dM_curveCount_377 (lv_at hl 8 rfl) ?_
                  refine lv_lload hx hb dM_curveCount_379 (lv_at hl 7 rfl) ?_
                  refine xi_iconst hx hb dM_curveCount_381 ?_
                  refine lv_lload hx hb dM_curveCount_382 (lv_at hl 6 rfl) ?_
                  refine lv_lload hx hb dM_curveCount_384 (lv_at hl 5 rfl) ?_
                  refine lv_lload hx hb dM_curveCount_386 (lv_at hl 4 rfl) ?_
                  have hFc := xw_free hD hS hA
                  refine va_calli (va_runV (As := [.long (lI aa), .long (lI bb), .long (lI k0), .int (iI 0), .long (lI e0), .long (lI f0), .long (lI g0)]) (rest := []) ⟨hx, hb, hml, hown, hts⟩ (m_isLeft l dC dI ad cs H.size ft par np nc rs npc hi lo X Y O E RX RY RO PC CV aa bb k0 false e0 f0 g0 (by omega) (by omega) (by omega) (by omega) (by omega) (by omega)) (cwV 7 hts (tb_V mlM_116 imM_isLeft seM_isLeft iniM coM_isLeft) rfl rfl rfl (by decide +kernel) (by subst hR; exact ⟨Nat.le_of_ble_eq_true rfl, Nat.le_of_ble_eq_true rfl⟩)) ⟨fun a9 U9 g9 mk9 q9 => by obtain ⟨q0, q1, qP, qK, qD⟩ := q9; exact ⟨q0, q1, qP, va_K.moved (u := U9) (U := U9.calling g9 mk9 a9) (Vm.Alike.refl U9.vm) qK, qD⟩, va_recv hK hP (ci := 3) (q0 := 0) rfl rfl, fun U hU hW => ⟨rfl, by rw [hU], by rw [hU]; exact hP, va_K.moved hW.alike hK, hD.weaken (fun _ _ _ _ => trivial)⟩⟩ rfl rfl hl.1 rfl (lv_room (Nat.le_of_ble_eq_true rfl)) dM_curveCount_388 ⟨by subst hR; exact Nat.le_of_ble_eq_true rfl, by subst hR; exact Nat.le_of_ble_eq_true rfl⟩) hS (fun q9 _ h9 => hFc q9 h9) hFc (fun r_388 u_388 t9 H1 locs1 ht9 hvm9 hw_388 hB9 hz9 hk9 hS1 => ?_)
                  obtain ⟨hP1, hK1, hD1⟩ := hB9
                  rw [ht9] at hP1
                  have hP : va_P (dC, dI) vwCl (mW ad cs ft par np nc rs npc u_388.1 u_388.2 X Y O E RX RY RO PC CV) H1 := hP1
                  have hD : va_D A (mW ad cs ft par np nc rs npc u_388.1 u_388.2 X Y O E RX RY RO PC CV) := hD1.weaken (fun _ _ _ h9 => hFc _ h9)
                  clear hP1 hD1 hK1 hFc
                  have hS := hS1
                  clear hS1 hz9 hk9 ht9 hvm9
                  revert hP hD hS; generalize H1 = H; generalize locs1 = locs; intro hP hD hS
                  obtain ⟨hr_388, hw_388⟩ := hw_388; subst hr_388
                  have cut_399_5 : ∀ (one : Int) (ls : Array Slot), (one = bz (ilf aa bb k0 false e0 f0 g0)) → lv_has ls 22 [(19, .int (iI (bz by_))), (18, .int (iI (bz tr))), (17, .int (iI (bz la))), (16, .int (iI (bz fi))), (14, .long (lI g0)), (12, .long (lI f0)), (10, .long (lI e0)), (8, .long (lI k0)), (6, .long (lI bb)), (4, .long (lI aa)), (0, .ref (ad 0)), (1, .int (iI a0)), (2, .int (iI x)), (3, .int (iI y))] → W p l e R s m args below meth c H locs 0 0 Q (F0 m 399 ls [.int (iI one)]) := by
                    intro one ls hone hl
                    have b7 := bz_in (ilf aa bb k0 false e0 f0 g0)
                    refine lv_istore (lv' := [(20, .int (iI one)), (19, .int (iI (bz by_))), (18, .int (iI (bz tr))), (17, .int (iI (bz la))), (16, .int (iI (bz fi))), (14, .long (lI g0)), (12, .long (lI f0)), (10, .long (lI e0)), (8, .long (lI k0)), (6, .long (lI bb)), (4, .long (lI aa)), (0, .ref (ad 0)), (1, .int (iI a0)), (2, .int (iI x)), (3, .int (iI y))]) hx hb dM_curveCount_399 hl (by decide) rfl (fun ls hl => ?_)
                    refine lv_aload_n hx hb dM_curveCount_401 rfl (lv_at hl 11 rfl) ?_
                    refine lv_lload hx hb dM_curveCount_402 (lv_at hl 10 rfl) ?_
                    refine lv_lload hx hb dM_curveCount_404 (lv_at hl 9 rfl) ?_
                    refine lv_lload hx hb dM_curveCount_406 (lv_at hl 8 rfl) ?_
                    refine xi_iconst hx hb dM_curveCount_408 ?_
                    refine lv_lload hx hb dM_curveCount_409 (lv_at hl 7 rfl) ?_
                    refine lv_lload hx hb dM_curveCount_411 (lv_at hl 6 rfl) ?_
                    refine lv_lload hx hb dM_curveCount_413 (lv_at hl 5 rfl) ?_
                    have hFc := xw_free hD hS hA
                    refine va_calli (va_runV (As := [.long (lI aa), .long (lI bb), .long (lI k0), .int (iI 1), .long (lI e0), .long (lI f0), .long (lI g0)]) (rest := []) ⟨hx, hb, hml, hown, hts⟩ (m_isLeft l dC dI ad cs H.size ft par np nc rs npc u_388.1 u_388.2 X Y O E RX RY RO PC CV aa bb k0 true e0 f0 g0 (by omega) (by omega) (by omega) (by omega) (by omega) (by omega)) (cwV 7 hts (tb_V mlM_116 imM_isLeft seM_isLeft iniM coM_isLeft) rfl rfl rfl (by decide +kernel) (by subst hR; exact ⟨Nat.le_of_ble_eq_true rfl, Nat.le_of_ble_eq_true rfl⟩)) ⟨fun a9 U9 g9 mk9 q9 => by obtain ⟨q0, q1, qP, qK, qD⟩ := q9; exact ⟨q0, q1, qP, va_K.moved (u := U9) (U := U9.calling g9 mk9 a9) (Vm.Alike.refl U9.vm) qK, qD⟩, va_recv hK hP (ci := 3) (q0 := 0) rfl rfl, fun U hU hW => ⟨rfl, by rw [hU], by rw [hU]; exact hP, va_K.moved hW.alike hK, hD.weaken (fun _ _ _ _ => trivial)⟩⟩ rfl rfl hl.1 rfl (lv_room (Nat.le_of_ble_eq_true rfl)) dM_curveCount_415 ⟨by subst hR; exact Nat.le_of_ble_eq_true rfl, by subst hR; exact Nat.le_of_ble_eq_true rfl⟩) hS (fun q9 _ h9 => hFc q9 h9) hFc (fun r_415 u_415 t9 H1 locs1 ht9 hvm9 hw_415 hB9 hz9 hk9 hS1 => ?_)
                    obtain ⟨hP1, hK1, hD1⟩ := hB9
                    rw [ht9] at hP1
                    have hP : va_P (dC, dI) vwCl (mW ad cs ft par np nc rs npc u_415.1 u_415.2 X Y O E RX RY RO PC CV) H1 := hP1
                    have hD : va_D A (mW ad cs ft par np nc rs npc u_415.1 u_415.2 X Y O E RX RY RO PC CV) := hD1.weaken (fun _ _ _ h9 => hFc _ h9)
                    clear hP1 hD1 hK1 hFc
                    have hS := hS1
                    clear hS1 hz9 hk9 ht9 hvm9
                    revert hP hD hS; generalize H1 = H; generalize locs1 = locs; intro hP hD hS
                    obtain ⟨hr_415, hw_415⟩ := hw_415; subst hr_415
                    have cut_426_6 : ∀ (oth : Int) (ls : Array Slot), (oth = bz (ilf aa bb k0 true e0 f0 g0)) → lv_has ls 22 [(20, .int (iI one)), (19, .int (iI (bz by_))), (18, .int (iI (bz tr))), (17, .int (iI (bz la))), (16, .int (iI (bz fi))), (14, .long (lI g0)), (12, .long (lI f0)), (10, .long (lI e0)), (8, .long (lI k0)), (6, .long (lI bb)), (4, .long (lI aa)), (0, .ref (ad 0)), (1, .int (iI a0)), (2, .int (iI x)), (3, .int (iI y))] → W p l e R s m args below meth c H locs 0 0 Q (F0 m 426 ls [.int (iI oth)]) := by
                      intro oth ls hoth hl
                      have b8 := bz_in (ilf aa bb k0 true e0 f0 g0)
                      refine lv_istore (lv' := [(21, .int (iI oth)), (20, .int (iI one)), (19, .int (iI (bz by_))), (18, .int (iI (bz tr))), (17, .int (iI (bz la))), (16, .int (iI (bz fi))), (14, .long (lI g0)), (12, .long (lI f0)), (10, .long (lI e0)), (8, .long (lI k0)), (6, .long (lI bb)), (4, .long (lI aa)), (0, .ref (ad 0)), (1, .int (iI a0)), (2, .int (iI x)), (3, .int (iI y))]) hx hb dM_curveCount_426 hl (by decide) rfl (fun ls hl => ?_)
                      have cut_446_7 : ∀ (v : Int) (ls : Array Slot), (v = cvc2 aa bb k0 e0 f0 g0 fi la) → lv_has ls 22 [(21, .int (iI oth)), (20, .int (iI one)), (19, .int (iI (bz by_))), (18, .int (iI (bz tr))), (17, .int (iI (bz la))), (16, .int (iI (bz fi))), (14, .long (lI g0)), (12, .long (lI f0)), (10, .long (lI e0)), (8, .long (lI k0)), (6, .long (lI bb)), (4, .long (lI aa)), (0, .ref (ad 0)), (1, .int (iI a0)), (2, .int (iI x)), (3, .int (iI y))] → W p l e R s m args below meth c H locs 0 0 Q (F0 m 446 ls [.int (iI v)]) := by
                        intro v ls hv hl
                        subst hQ
                        exact W.iret (v := (iI v)) hx hb hr (fun t9 ht9 hW9 => ⟨⟨_, u_415, rfl, (⟨by rw [hv, e9, hfi, hla], trivial⟩), by rw [ht9]; exact hP, va_K.moved hW9.alike hK, hD⟩, hS.F ht9⟩) hS.2.2 dM_curveCount_446
                      refine lv_iload hx hb dM_curveCount_428 (lv_at hl 5 rfl) ?_
                      refine xb_if_eq (tgt := 441) hx hb dM_curveCount_430 (by decide) (fun c_430 => ?_) (fun c_430 => ?_)
                      · skip
                        refine lv_iload hx hb dM_curveCount_441 (lv_at hl 1 rfl) ?_
                        refine lv_iload hx hb dM_curveCount_443 (lv_at hl 0 rfl) ?_
                        refine xi_sub (z := one - oth) hx hb dM_curveCount_445 rfl ?_
                        exact cut_446_7 (one - oth) _ (by unfold cvc2; rw [if_pos c_177, if_pos ⟨by rw [← htr]; exact c_344, by rw [← hby_]; exact c_349, by omega⟩, if_neg (by rw [c_430]; decide), hone, hoth]) (lv_sub hl [0, 1, 2, 3, 4, 5, 6, 7, 8, 9, 10, 11, 12, 13, 14, 15] rfl)
                      · skip
                        refine lv_iload hx hb dM_curveCount_433 (lv_at hl 0 rfl) ?_
                        refine lv_iload hx hb dM_curveCount_435 (lv_at hl 1 rfl) ?_
                        refine xi_sub (z := oth - one) hx hb dM_curveCount_437 rfl ?_
                        refine lv_goto (tgt := 446) hx hb dM_curveCount_438 (by decide) ?_
                        exact cut_446_7 (oth - one) _ (by unfold cvc2; rw [if_pos c_177, if_pos ⟨by rw [← htr]; exact c_344, by rw [← hby_]; exact c_349, by omega⟩, if_pos c_430, hone, hoth]) (lv_sub hl [0, 1, 2, 3, 4, 5, 6, 7, 8, 9, 10, 11, 12, 13, 14, 15] rfl)
                    refine xb_if_eq (tgt := 425) hx hb dM_curveCount_418 (by decide) (fun c_418 => ?_) (fun c_418 => ?_)
                    · skip
                      refine xi_iconst hx hb dM_curveCount_425 ?_
                      exact cut_426_6 0 _ (by rw [c_418]; rfl) (lv_sub hl [0, 1, 2, 3, 4, 5, 6, 7, 8, 9, 10, 11, 12, 13, 14] rfl)
                    · skip
                      refine xi_iconst hx hb dM_curveCount_421 ?_
                      refine lv_goto (tgt := 426) hx hb dM_curveCount_422 (by decide) ?_
                      exact cut_426_6 1 _ (by rw [c_418]; rfl) (lv_sub hl [0, 1, 2, 3, 4, 5, 6, 7, 8, 9, 10, 11, 12, 13, 14] rfl)
                  refine xb_if_eq (tgt := 398) hx hb dM_curveCount_391 (by decide) (fun c_391 => ?_) (fun c_391 => ?_)
                  · skip
                    refine xi_iconst hx hb dM_curveCount_398 ?_
                    exact cut_399_5 0 _ (by rw [c_391]; rfl) (lv_sub hl [0, 1, 2, 3, 4, 5, 6, 7, 8, 9, 10, 11, 12, 13] rfl)
                  · skip
                    refine xi_iconst hx hb dM_curveCount_394 ?_
                    refine lv_goto (tgt := 399) hx hb dM_curveCount_395 (by decide) ?_
                    exact cut_399_5 1 _ (by rw [c_391]; rfl) (lv_sub hl [0, 1, 2, 3, 4, 5, 6, 7, 8, 9, 10, 11, 12, 13] rfl)
                · skip
                  refine xi_iconst hx hb dM_curveCount_372 ?_
                  subst hQ
                  exact W.iret (v := (iI 0)) hx hb hr (fun t9 ht9 hW9 => ⟨⟨_, (hi, lo), rfl, (⟨by rw [e9, ← hfi, ← hla]; unfold cvc2; rw [if_pos c_177, if_neg (fun h => by omega)], trivial⟩), by rw [ht9]; exact hP, va_K.moved hW9.alike hK, hD⟩, hS.F ht9⟩) hS.2.2 dM_curveCount_373
          refine lv_iload hx hb dM_curveCount_308 (lv_at hl 2 rfl) ?_
          refine xb_if_eq (tgt := 328) hx hb dM_curveCount_310 (by decide) (fun c_310 => ?_) (fun c_310 => ?_)
          · skip
            refine lv_lload hx hb dM_curveCount_328 (lv_at hl 8 rfl) ?_
            refine lv_lconst (v := lI 0) hx hb dM_curveCount_330 (by decide +kernel) ?_
            refine xl_ge (tgt := 339) hx hb dM_curveCount_331 dM_curveCount_332 (by decide) (by omega) (by omega) (fun c_331 => ?_) (fun c_331 => ?_)
            · skip
              refine xi_iconst hx hb dM_curveCount_339 ?_
              exact cut_340_4 false _ (by unfold byd; rw [if_neg (by rw [c_310]; decide), decide_eq_false (by omega)]) (lv_sub hl [0, 1, 2, 3, 4, 5, 6, 7, 8, 9, 10, 11, 12] rfl)
            · skip
              refine xi_iconst hx hb dM_curveCount_335 ?_
              refine lv_goto (tgt := 340) hx hb dM_curveCount_336 (by decide) ?_
              exact cut_340_4 true _ (by unfold byd; rw [if_neg (by rw [c_310]; decide), decide_eq_true (by omega)]) (lv_sub hl [0, 1, 2, 3, 4, 5, 6, 7, 8, 9, 10, 11, 12] rfl)
          · skip
            refine lv_lload hx hb dM_curveCount_313 (lv_at hl 8 rfl) ?_
            refine lv_lconst (v := lI 0) hx hb dM_curveCount_315 (by decide +kernel) ?_
            refine xl_le (tgt := 324) hx hb dM_curveCount_316 dM_curveCount_317 (by decide) (by omega) (by omega) (fun c_316 => ?_) (fun c_316 => ?_)
            · skip
              refine xi_iconst hx hb dM_curveCount_324 ?_
              refine lv_goto (tgt := 340) hx hb dM_curveCount_325 (by decide) ?_
              exact cut_340_4 false _ (by unfold byd; rw [if_pos c_310, decide_eq_false (by omega)]) (lv_sub hl [0, 1, 2, 3, 4, 5, 6, 7, 8, 9, 10, 11, 12] rfl)
            · skip
              refine xi_iconst hx hb dM_curveCount_320 ?_
              refine lv_goto (tgt := 340) hx hb dM_curveCount_321 (by decide) ?_
              exact cut_340_4 true _ (by unfold byd; rw [if_pos c_310, decide_eq_true (by omega)]) (lv_sub hl [0, 1, 2, 3, 4, 5, 6, 7, 8, 9, 10, 11, 12] rfl)
        refine lv_lload hx hb dM_curveCount_240 (lv_at hl 7 rfl) ?_
        refine lv_lconst (v := lI 0) hx hb dM_curveCount_242 (by decide +kernel) ?_
        refine xl_le (tgt := 275) hx hb dM_curveCount_243 dM_curveCount_244 (by decide) (by omega) (by omega) (fun c_243 => ?_) (fun c_243 => ?_)
        · skip
          refine lv_lload hx hb dM_curveCount_275 (lv_at hl 7 rfl) ?_
          refine lv_lconst (v := lI 0) hx hb dM_curveCount_277 (by decide +kernel) ?_
          refine xl_ge (tgt := 305) hx hb dM_curveCount_278 dM_curveCount_279 (by decide) (by omega) (by omega) (fun c_278 => ?_) (fun c_278 => ?_)
          · skip
            refine xi_iconst hx hb dM_curveCount_305 ?_
            exact cut_306_3 false _ (by unfold trn; rw [if_neg (by omega), decide_eq_false (by omega)]) (lv_sub hl [0, 1, 2, 3, 4, 5, 6, 7, 8, 9, 10, 11] rfl)
          · skip
            refine lv_lload hx hb dM_curveCount_282 (lv_at hl 6 rfl) ?_
            refine lv_lconst (v := lI 0) hx hb dM_curveCount_284 (by decide +kernel) ?_
            refine xl_le (tgt := 305) hx hb dM_curveCount_285 dM_curveCount_286 (by decide) (by omega) (by omega) (fun c_285 => ?_) (fun c_285 => ?_)
            · skip
              refine xi_iconst hx hb dM_curveCount_305 ?_
              exact cut_306_3 false _ (by unfold trn; rw [if_neg (by omega), decide_eq_false (by omega)]) (lv_sub hl [0, 1, 2, 3, 4, 5, 6, 7, 8, 9, 10, 11] rfl)
            · skip
              refine lv_lload hx hb dM_curveCount_289 (lv_at hl 6 rfl) ?_
              refine lv_ldc2 (v := (-2)) hx hb hown (hts _ (List.mem_cons_of_mem _ klM_120)) dM_curveCount_291 ?_
              refine xi_top (y := .long (lI (-2))) (by decide +kernel) ?_
              refine lv_lload hx hb dM_curveCount_294 (lv_at hl 7 rfl) ?_
              refine xl_mul (z := (-2) * aa) hx hb dM_curveCount_296 rfl ?_
              refine xl_ge (tgt := 305) hx hb dM_curveCount_297 dM_curveCount_298 (by decide) (by omega) (by omega) (fun c_297 => ?_) (fun c_297 => ?_)
              · skip
                refine xi_iconst hx hb dM_curveCount_305 ?_
                exact cut_306_3 false _ (by unfold trn; rw [if_neg (by omega), decide_eq_false (by omega)]) (lv_sub hl [0, 1, 2, 3, 4, 5, 6, 7, 8, 9, 10, 11] rfl)
              · skip
                refine xi_iconst hx hb dM_curveCount_301 ?_
                refine lv_goto (tgt := 306) hx hb dM_curveCount_302 (by decide) ?_
                exact cut_306_3 true _ (by unfold trn; rw [if_neg (by omega), decide_eq_true (by omega)]) (lv_sub hl [0, 1, 2, 3, 4, 5, 6, 7, 8, 9, 10, 11] rfl)
        · skip
          refine lv_lload hx hb dM_curveCount_247 (lv_at hl 6 rfl) ?_
          refine lv_lconst (v := lI 0) hx hb dM_curveCount_249 (by decide +kernel) ?_
          refine xl_ge (tgt := 271) hx hb dM_curveCount_250 dM_curveCount_251 (by decide) (by omega) (by omega) (fun c_250 => ?_) (fun c_250 => ?_)
          · skip
            refine xi_iconst hx hb dM_curveCount_271 ?_
            refine lv_goto (tgt := 306) hx hb dM_curveCount_272 (by decide) ?_
            exact cut_306_3 false _ (by unfold trn; rw [if_pos c_243, decide_eq_false (by omega)]) (lv_sub hl [0, 1, 2, 3, 4, 5, 6, 7, 8, 9, 10, 11] rfl)
          · skip
            refine lv_lload hx hb dM_curveCount_254 (lv_at hl 6 rfl) ?_
            refine xl_neg (z := -bb) hx hb dM_curveCount_256 rfl ?_
            refine lv_ldc2 (v := 2) hx hb hown (hts _ (List.mem_cons_of_mem _ klM_110)) dM_curveCount_257 ?_
            refine xi_top (y := .long (lI 2)) (by decide +kernel) ?_
            refine lv_lload hx hb dM_curveCount_260 (lv_at hl 7 rfl) ?_
            refine xl_mul (z := 2 * aa) hx hb dM_curveCount_262 rfl ?_
            refine xl_ge (tgt := 271) hx hb dM_curveCount_263 dM_curveCount_264 (by decide) (by omega) (by omega) (fun c_263 => ?_) (fun c_263 => ?_)
            · skip
              refine xi_iconst hx hb dM_curveCount_271 ?_
              refine lv_goto (tgt := 306) hx hb dM_curveCount_272 (by decide) ?_
              exact cut_306_3 false _ (by unfold trn; rw [if_pos c_243, decide_eq_false (by omega)]) (lv_sub hl [0, 1, 2, 3, 4, 5, 6, 7, 8, 9, 10, 11] rfl)
            · skip
              refine xi_iconst hx hb dM_curveCount_267 ?_
              refine lv_goto (tgt := 306) hx hb dM_curveCount_268 (by decide) ?_
              exact cut_306_3 true _ (by unfold trn; rw [if_pos c_243, decide_eq_true (by omega)]) (lv_sub hl [0, 1, 2, 3, 4, 5, 6, 7, 8, 9, 10, 11] rfl)
      · skip
        refine lv_aload_n hx hb dM_curveCount_180 rfl (lv_at hl 8 rfl) ?_
        refine lv_lload hx hb dM_curveCount_181 (lv_at hl 7 rfl) ?_
        refine lv_lload hx hb dM_curveCount_183 (lv_at hl 6 rfl) ?_
        refine lv_lload hx hb dM_curveCount_185 (lv_at hl 5 rfl) ?_
        refine lv_iload hx hb dM_curveCount_187 (lv_at hl 0 rfl) ?_
        have cut_201_8 : ∀ (v4 : Bool) (ls : Array Slot), (v4 = decide (0 < aa)) → lv_has ls 22 [(17, .int (iI (bz la))), (16, .int (iI (bz fi))), (14, .long (lI g0)), (12, .long (lI f0)), (10, .long (lI e0)), (8, .long (lI k0)), (6, .long (lI bb)), (4, .long (lI aa)), (0, .ref (ad 0)), (1, .int (iI a0)), (2, .int (iI x)), (3, .int (iI y))] → W p l e R s m args below meth c H locs 0 0 Q (F0 m 201 ls [.int (iI (bz v4)), .int (iI (bz la)), .long (lI k0), .long (lI bb), .long (lI aa), .ref (ad 0)]) := by
          intro v4 ls hv4 hl
          have cut_209_9 : ∀ (v5 : Bool) (ls : Array Slot), (v5 = (la == decide (0 < aa))) → lv_has ls 22 [(17, .int (iI (bz la))), (16, .int (iI (bz fi))), (14, .long (lI g0)), (12, .long (lI f0)), (10, .long (lI e0)), (8, .long (lI k0)), (6, .long (lI bb)), (4, .long (lI aa)), (0, .ref (ad 0)), (1, .int (iI a0)), (2, .int (iI x)), (3, .int (iI y))] → W p l e R s m args below meth c H locs 0 0 Q (F0 m 209 ls [.int (iI (bz v5)), .long (lI k0), .long (lI bb), .long (lI aa), .ref (ad 0)]) := by
            intro v5 ls hv5 hl
            refine lv_lload hx hb dM_curveCount_209 (lv_at hl 4 rfl) ?_
            refine lv_lload hx hb dM_curveCount_211 (lv_at hl 3 rfl) ?_
            refine lv_lload hx hb dM_curveCount_213 (lv_at hl 2 rfl) ?_
            have hFc := xw_free hD hS hA
            refine va_calli (va_runV (As := [.long (lI aa), .long (lI bb), .long (lI k0), .int (iI (bz v5)), .long (lI e0), .long (lI f0), .long (lI g0)]) (rest := []) ⟨hx, hb, hml, hown, hts⟩ (m_isLeft l dC dI ad cs H.size ft par np nc rs npc hi lo X Y O E RX RY RO PC CV aa bb k0 v5 e0 f0 g0 (by omega) (by omega) (by omega) (by omega) (by omega) (by omega)) (cwV 7 hts (tb_V mlM_116 imM_isLeft seM_isLeft iniM coM_isLeft) rfl rfl rfl (by decide +kernel) (by subst hR; exact ⟨Nat.le_of_ble_eq_true rfl, Nat.le_of_ble_eq_true rfl⟩)) ⟨fun a9 U9 g9 mk9 q9 => by obtain ⟨q0, q1, qP, qK, qD⟩ := q9; exact ⟨q0, q1, qP, va_K.moved (u := U9) (U := U9.calling g9 mk9 a9) (Vm.Alike.refl U9.vm) qK, qD⟩, va_recv hK hP (ci := 3) (q0 := 0) rfl rfl, fun U hU hW => ⟨rfl, by rw [hU], by rw [hU]; exact hP, va_K.moved hW.alike hK, hD.weaken (fun _ _ _ _ => trivial)⟩⟩ rfl rfl hl.1 rfl (lv_room (Nat.le_of_ble_eq_true rfl)) dM_curveCount_215 ⟨by subst hR; exact Nat.le_of_ble_eq_true rfl, by subst hR; exact Nat.le_of_ble_eq_true rfl⟩) hS (fun q9 _ h9 => hFc q9 h9) hFc (fun r_215 u_215 t9 H1 locs1 ht9 hvm9 hw_215 hB9 hz9 hk9 hS1 => ?_)
            obtain ⟨hP1, hK1, hD1⟩ := hB9
            rw [ht9] at hP1
            have hP : va_P (dC, dI) vwCl (mW ad cs ft par np nc rs npc u_215.1 u_215.2 X Y O E RX RY RO PC CV) H1 := hP1
            have hD : va_D A (mW ad cs ft par np nc rs npc u_215.1 u_215.2 X Y O E RX RY RO PC CV) := hD1.weaken (fun _ _ _ h9 => hFc _ h9)
            clear hP1 hD1 hK1 hFc
            have hS := hS1
            clear hS1 hz9 hk9 ht9 hvm9
            revert hP hD hS; generalize H1 = H; generalize locs1 = locs; intro hP hD hS
            obtain ⟨hr_215, hw_215⟩ := hw_215; subst hr_215
            have cut_239_10 : ∀ (v : Int) (ls : Array Slot), (v = cvc2 aa bb k0 e0 f0 g0 fi la) → lv_has ls 22 [(17, .int (iI (bz la))), (16, .int (iI (bz fi))), (14, .long (lI g0)), (12, .long (lI f0)), (10, .long (lI e0)), (8, .long (lI k0)), (6, .long (lI bb)), (4, .long (lI aa)), (0, .ref (ad 0)), (1, .int (iI a0)), (2, .int (iI x)), (3, .int (iI y))] → W p l e R s m args below meth c H locs 0 0 Q (F0 m 239 ls [.int (iI v)]) := by
              intro v ls hv hl
              subst hQ
              exact W.iret (v := (iI v)) hx hb hr (fun t9 ht9 hW9 => ⟨⟨_, u_215, rfl, (⟨by rw [hv, e9, hfi, hla], trivial⟩), by rw [ht9]; exact hP, va_K.moved hW9.alike hK, hD⟩, hS.F ht9⟩) hS.2.2 dM_curveCount_239
            refine lv_istore (lv' := [(18, .int (iI (bz (ilf aa bb k0 v5 e0 f0 g0)))), (17, .int (iI (bz la))), (16, .int (iI (bz fi))), (14, .long (lI g0)), (12, .long (lI f0)), (10, .long (lI e0)), (8, .long (lI k0)), (6, .long (lI bb)), (4, .long (lI aa)), (0, .ref (ad 0)), (1, .int (iI a0)), (2, .int (iI x)), (3, .int (iI y))]) hx hb dM_curveCount_218 hl (by decide) rfl (fun ls hl => ?_)
            refine lv_iload hx hb dM_curveCount_220 (lv_at hl 0 rfl) ?_
            refine xb_if_ne (tgt := 229) hx hb dM_curveCount_222 (by decide) (fun c_222 => ?_) (fun c_222 => ?_)
            · skip
              refine lv_iload hx hb dM_curveCount_229 (lv_at hl 1 rfl) ?_
              refine xb_if_eq (tgt := 238) hx hb dM_curveCount_231 (by decide) (fun c_231 => ?_) (fun c_231 => ?_)
              · skip
                refine xi_iconst hx hb dM_curveCount_238 ?_
                exact cut_239_10 (-1) _ (by unfold cvc2; rw [if_neg c_177, ← hv5, if_pos c_222, if_neg (by rw [c_231]; decide)]) (lv_sub hl [1, 2, 3, 4, 5, 6, 7, 8, 9, 10, 11, 12] rfl)
              · skip
                refine xi_iconst hx hb dM_curveCount_234 ?_
                refine lv_goto (tgt := 239) hx hb dM_curveCount_235 (by decide) ?_
                exact cut_239_10 1 _ (by unfold cvc2; rw [if_neg c_177, ← hv5, if_pos c_222, if_pos c_231]) (lv_sub hl [1, 2, 3, 4, 5, 6, 7, 8, 9, 10, 11, 12] rfl)
            · skip
              refine xi_iconst hx hb dM_curveCount_225 ?_
              refine lv_goto (tgt := 239) hx hb dM_curveCount_226 (by decide) ?_
              exact cut_239_10 0 _ (by unfold cvc2; rw [if_neg c_177, ← hv5, if_neg (by rw [c_222]; decide)]) (lv_sub hl [1, 2, 3, 4, 5, 6, 7, 8, 9, 10, 11, 12] rfl)
          refine xb_icmp_ne (tgt := 208) hx hb dM_curveCount_201 (by decide) (fun c_201 => ?_) (fun c_201 => ?_)
          · skip
            refine xi_iconst hx hb dM_curveCount_208 ?_
            exact cut_209_9 false _ (by rw [← hv4]; revert c_201; clear hv4 hla c_177; cases la <;> cases v4 <;> decide) (lv_sub hl [0, 1, 2, 3, 4, 5, 6, 7, 8, 9, 10, 11] rfl)
          · skip
            refine xi_iconst hx hb dM_curveCount_204 ?_
            refine lv_goto (tgt := 209) hx hb dM_curveCount_205 (by decide) ?_
            exact cut_209_9 true _ (by rw [← hv4]; revert c_201; clear hv4 hla c_177; cases la <;> cases v4 <;> decide) (lv_sub hl [0, 1, 2, 3, 4, 5, 6, 7, 8, 9, 10, 11] rfl)
        refine lv_lload hx hb dM_curveCount_189 (lv_at hl 7 rfl) ?_
        refine lv_lconst (v := lI 0) hx hb dM_curveCount_191 (by decide +kernel) ?_
        refine xl_le (tgt := 200) hx hb dM_curveCount_192 dM_curveCount_193 (by decide) (by omega) (by omega) (fun c_192 => ?_) (fun c_192 => ?_)
        · skip
          refine xi_iconst hx hb dM_curveCount_200 ?_
          exact cut_201_8 false _ (dec_f (by omega)) (lv_sub hl [0, 1, 2, 3, 4, 5, 6, 7, 8, 9, 10, 11] rfl)
        · skip
          refine xi_iconst hx hb dM_curveCount_196 ?_
          refine lv_goto (tgt := 201) hx hb dM_curveCount_197 (by decide) ?_
          exact cut_201_8 true _ (dec_t (by omega)) (lv_sub hl [0, 1, 2, 3, 4, 5, 6, 7, 8, 9, 10, 11] rfl)
    refine lv_aload_n hx hb dM_curveCount_154 rfl (lv_at hl 7 rfl) ?_
    refine va_get (D := (dC, dI)) (ci := 3) (v := .ref (ad 8)) (C := RM) (T := TM) (N := 17) hx hb hts (fun w9 h9 => List.mem_cons_of_mem _ (inM w9 h9)) hown hK hP 0 rfl rfl 13 (by decide) (hts _ (List.mem_cons_of_mem _ flM_32)) (fun _ h9 => h9) rfl dM_curveCount_155 ?_
    refine lv_iload_n hx hb dM_curveCount_158 rfl (lv_at hl 8 rfl) ?_
    refine xi_iconst hx hb dM_curveCount_159 ?_
    refine xi_add (z := a0 + 5) hx hb dM_curveCount_160 rfl ?_
    refine xa_iald hx hb hK hP 8 7 rfl rfl (by decide) (by omega) dM_curveCount_161 ?_
    refine xi_top (y := .int (iI ry)) (by rw [e6]) ?_
    refine lv_iload_n hx hb dM_curveCount_162 rfl (lv_at hl 10 rfl) ?_
    refine xi_icmp_le (tgt := 170) hx hb dM_curveCount_163 (by decide) (by omega) (by omega) (fun c_163 => ?_) (fun c_163 => ?_)
    · skip
      refine xi_iconst hx hb dM_curveCount_170 ?_
      exact cut_171_2 false _ (dec_f (by omega)) (lv_sub hl [0, 1, 2, 3, 4, 5, 6, 7, 8, 9, 10] rfl)
    · skip
      refine xi_iconst hx hb dM_curveCount_166 ?_
      refine lv_goto (tgt := 171) hx hb dM_curveCount_167 (by decide) ?_
      exact cut_171_2 true _ (dec_t (by omega)) (lv_sub hl [0, 1, 2, 3, 4, 5, 6, 7, 8, 9, 10] rfl)
  refine lv_lload hx hb dM_curveCount_140 (lv_at hl 3 rfl) ?_
  refine lv_lconst (v := lI 0) hx hb dM_curveCount_142 (by decide +kernel) ?_
  refine xl_le (tgt := 151) hx hb dM_curveCount_143 dM_curveCount_144 (by decide) (by omega) (by omega) (fun c_143 => ?_) (fun c_143 => ?_)
  · skip
    refine xi_iconst hx hb dM_curveCount_151 ?_
    exact cut_152_1 false _ (dec_f (by omega)) (lv_sub hl [0, 1, 2, 3, 4, 5, 6, 7, 8, 9] rfl)
  · skip
    refine xi_iconst hx hb dM_curveCount_147 ?_
    refine lv_goto (tgt := 152) hx hb dM_curveCount_148 (by decide) ?_
    exact cut_152_1 true _ (dec_t (by omega)) (lv_sub hl [0, 1, 2, 3, 4, 5, 6, 7, 8, 9] rfl)
set_option maxHeartbeats 4000000 in
set_option maxRecDepth 100000 in
/-- windingOf -/
theorem m_windingOf (l : Launch) (dC : Nat → ClassId) (dI : Nat → Nat → Nat) (ad : Nat → Nat) (cs : Nat → ClassId) (sz : Nat) (ft : Int) (par : Bool) (np nc rs npc hi lo : Int) (X Y : Int → Int) (O : Int → Bool) (E RX RY : Int → Int) (RO : Int → Bool) (PC : Int → Int) (CV : Int → Bool) (x y : Int) (hpc : 0 ≤ npc ∧ npc ≤ 512) (hok : pcOk PC npc) (hx0 : -16384 ≤ x ∧ x ≤ 16384) (hy0 : -16384 ≤ y ∧ y ≤ 16384) : Met l yM_windingOf wM_windingOf ({ frames := 5, cells := 0, slots := 0, locals := 174 }) (va_Pc [.ref (ad 0), .int (iI x), .int (iI y)] (fun U => U.heap.size = sz ∧ va_P (dC, dI) vwCl (mW ad cs ft par np nc rs npc hi lo X Y O E RX RY RO PC CV) U.heap ∧ va_K (dC, dI) vwCl (mT cs) U ∧ va_D (fun _ => True) (mW ad cs ft par np nc rs npc hi lo X Y O E RX RY RO PC CV))) (va_Qi (fun (r : Int32) (u : Int × Int) => r = iI (wnd PC CV npc x y) ∧ True) (fun (u : Int × Int) t9 => va_P (dC, dI) vwCl (mW ad cs ft par np nc rs npc u.1 u.2 X Y O E RX RY RO PC CV) t9.heap ∧ va_K (dC, dI) vwCl (mT cs) t9 ∧ va_D (va_A (mW ad cs ft par np nc rs npc hi lo X Y O E RX RY RO PC CV) sz) (mW ad cs ft par np nc rs npc u.1 u.2 X Y O E RX RY RO PC CV)) (va_A (mW ad cs ft par np nc rs npc hi lo X Y O E RX RY RO PC CV) sz)) 0 0 (va_A (mW ad cs ft par np nc rs npc hi lo X Y O E RX RY RO PC CV) sz) := by
  refine Met.ofW (cc := cM_windingOf) (maxL := 5) (ret := (some .int)) (by decide) rfl ?_
  intro p e s m args below meth c s₁ B hml hv
  obtain ⟨hargs, hsz, hP, hK, hD0⟩ := hv
  have hx := B.exec
  have hb := B.bytes
  have hr := B.returns
  have hts := atoms_spec (ws := wM_windingOf) B.pre
  have hown : s.vm.findClass RM = some m.cls := findClass_of_methodNamed B.named
  have hlocks := B.notSynchronized
  subst hsz
  have hD := hD0.self (sz := s.heap.size)
  generalize hAe : va_A (mW ad cs ft par np nc rs npc hi lo X Y O E RX RY RO PC CV) s.heap.size = A at hD ⊢
  have hA : ∀ q : Nat, s.heap.size ≤ q → A q := fun q h => by rw [← hAe]; exact Or.inr h
  have hS0 : va_S A s.heap s.heap [] := va_S.rf
  refine x_name (fun R Q H locs hR hQ hH hlo => ?_)
  rw [← hH] at hP
  have hS : va_S A s.heap H locs := by rw [hH, hlo]; exact hS0
  refine x_entry hargs (Nat.le_of_ble_eq_true rfl) (fun ls hl => ?_)
  have hl : lv_has ls 5 [(0, .ref (ad 0)), (1, .int (iI x)), (2, .int (iI y))] := hl
  have hP : va_P (dC, dI) vwCl (mW ad cs ft par np nc rs npc hi lo X Y O E RX RY RO PC CV) H := hP
  refine xi_iconst hx hb dM_windingOf_0 ?_
  refine lv_istore_n (lv' := [(3, .int (iI 0)), (0, .ref (ad 0)), (1, .int (iI x)), (2, .int (iI y))]) hx hb dM_windingOf_1 rfl hl (by decide) rfl (fun ls hl => ?_)
  refine xi_iconst hx hb dM_windingOf_2 ?_
  refine lv_istore (lv' := [(4, .int (iI 0)), (3, .int (iI 0)), (0, .ref (ad 0)), (1, .int (iI x)), (2, .int (iI y))]) hx hb dM_windingOf_3 hl (by decide) rfl (fun ls hl => ?_)
  have cut_5_1 : ∀ (fu_5 : Nat) (k : Int) (sm : Int) (hi2 : Int) (lo2 : Int) (H : Heap) (locs : List Loc) (ls : Array Slot), ((npc - k).toNat) < fu_5 → (0 ≤ k ∧ k ≤ npc) → (sm = isum (pcc PC CV x y) k.toNat) → va_P (dC, dI) vwCl (mW ad cs ft par np nc rs npc hi2 lo2 X Y O E RX RY RO PC CV) H → va_D A (mW ad cs ft par np nc rs npc hi2 lo2 X Y O E RX RY RO PC CV) → va_S A s.heap H locs → lv_has ls 5 [(0, .ref (ad 0)), (1, .int (iI x)), (2, .int (iI y)), (3, .int (iI sm)), (4, .int (iI k))] → W p l e R s m args below meth c H locs 0 0 Q (F0 m 5 ls []) := by
    intro fu_5
    induction fu_5 with
    | zero => intro _ _ _ _ _ _ _ hm; exact absurd hm (Nat.not_lt_zero _)
    | succ fu_5 ih_5 =>
      intro k sm hi2 lo2 H locs ls hm i1 i2 hP hD hS hl
      have b1 := isum_bd (h := pcc PC CV x y) (fun k => pcc_bd _ _ _ _ k) k.toNat
      rw [← i2] at b1
      refine lv_iload hx hb dM_windingOf_5 (lv_at hl 4 rfl) ?_
      refine lv_aload_n hx hb dM_windingOf_7 rfl (lv_at hl 0 rfl) ?_
      refine va_get (D := (dC, dI)) (ci := 3) (v := .int (iI npc)) (C := RM) (T := TM) (N := 17) hx hb hts (fun w9 h9 => List.mem_cons_of_mem _ (inM w9 h9)) hown hK hP 0 rfl rfl 12 (by decide) (hts _ (List.mem_cons_of_mem _ flM_78)) (fun _ h9 => h9) rfl dM_windingOf_8 ?_
      refine xi_icmp_ge (tgt := 58) hx hb dM_windingOf_11 (by decide) (by omega) (by omega) (fun c_11 => ?_) (fun c_11 => ?_)
      · skip
        refine lv_iload_n hx hb dM_windingOf_58 rfl (lv_at hl 3 rfl) ?_
        subst hQ
        exact W.iret (v := (iI sm)) hx hb hr (fun t9 ht9 hW9 => ⟨⟨_, (hi2, lo2), rfl, (⟨by rw [i2, show k = npc by omega]; rfl, trivial⟩), by rw [ht9]; exact hP, va_K.moved hW9.alike hK, hD⟩, hS.F ht9⟩) hS.2.2 dM_windingOf_59
      · skip
        have cut_50_2 : ∀ (v : Int) (hi3 : Int) (lo3 : Int) (H : Heap) (locs : List Loc) (ls : Array Slot), (v = pcc PC CV x y k) → va_P (dC, dI) vwCl (mW ad cs ft par np nc rs npc hi3 lo3 X Y O E RX RY RO PC CV) H → va_D A (mW ad cs ft par np nc rs npc hi3 lo3 X Y O E RX RY RO PC CV) → va_S A s.heap H locs → lv_has ls 5 [(0, .ref (ad 0)), (1, .int (iI x)), (2, .int (iI y)), (3, .int (iI sm)), (4, .int (iI k))] → W p l e R s m args below meth c H locs 0 0 Q (F0 m 50 ls [.int (iI v), .int (iI sm)]) := by
          intro v hi3 lo3 H locs ls hv hP hD hS hl
          refine xi_add (z := sm + v) hx hb dM_windingOf_50 rfl ?_
          refine lv_istore_n (lv' := [(3, .int (iI (sm + v))), (0, .ref (ad 0)), (1, .int (iI x)), (2, .int (iI y)), (4, .int (iI k))]) hx hb dM_windingOf_51 rfl hl (by decide) rfl (fun ls hl => ?_)
          refine xi_iinc (z := k + 1) (lv' := [(4, .int (iI (k + 1))), (3, .int (iI (sm + v))), (0, .ref (ad 0)), (1, .int (iI x)), (2, .int (iI y))]) hx hb dM_windingOf_52 hl (k := 4) rfl rfl (by decide) rfl (fun ls hl => ?_)
          refine lv_goto (tgt := 5) hx hb dM_windingOf_55 (by decide) ?_
          exact ih_5 (k + 1) (sm + v) hi3 lo3 _ _ _ (by omega) (by omega) (by rw [isum_s _ i1.1, ← i2, hv]) hP hD hS (lv_sub hl [2, 3, 4, 1, 0] rfl)
        have b2 := hok (6 * k) (by omega) (by omega)
        have b3 := hok (6 * k + 1) (by omega) (by omega)
        have b4 := hok (6 * k + 2) (by omega) (by omega)
        have b5 := hok (6 * k + 3) (by omega) (by omega)
        have b6 := hok (6 * k + 4) (by omega) (by omega)
        have b7 := hok (6 * k + 5) (by omega) (by omega)
        have b9 := pcc_bd PC CV x y k
        refine lv_iload_n hx hb dM_windingOf_14 rfl (lv_at hl 3 rfl) ?_
        refine lv_aload_n hx hb dM_windingOf_15 rfl (lv_at hl 0 rfl) ?_
        refine va_get (D := (dC, dI)) (ci := 3) (v := .ref (ad 9)) (C := RM) (T := TM) (N := 17) hx hb hts (fun w9 h9 => List.mem_cons_of_mem _ (inM w9 h9)) hown hK hP 0 rfl rfl 14 (by decide) (hts _ (List.mem_cons_of_mem _ flM_35)) (fun _ h9 => h9) rfl dM_windingOf_16 ?_
        refine lv_iload hx hb dM_windingOf_19 (lv_at hl 4 rfl) ?_
        refine xa_zald hx hb hK hP 9 8 rfl rfl (by decide) (by omega) dM_windingOf_21 ?_
        refine xb_if_eq (tgt := 39) hx hb dM_windingOf_22 (by decide) (fun c_22 => ?_) (fun c_22 => ?_)
        · skip
          refine lv_aload_n hx hb dM_windingOf_39 rfl (lv_at hl 0 rfl) ?_
          refine lv_bipush (v := iI 6) hx hb dM_windingOf_40 (by decide +kernel) ?_
          refine lv_iload hx hb dM_windingOf_42 (lv_at hl 4 rfl) ?_
          refine xi_mul (z := 6 * k) hx hb dM_windingOf_44 rfl ?_
          refine lv_iload_n hx hb dM_windingOf_45 rfl (lv_at hl 1 rfl) ?_
          refine lv_iload_n hx hb dM_windingOf_46 rfl (lv_at hl 2 rfl) ?_
          refine vp_callSi (W.runV (As := [.int (iI (6 * k)), .int (iI x), .int (iI y)]) (rest := [.int (iI sm)]) ⟨hx, hb, hml, hown, hts⟩ (m_lineCount l dC dI ad cs ft par np nc rs npc hi2 lo2 X Y O E RX RY RO PC CV (6 * k) x y (PC (6 * k)) (PC (6 * k + 1)) (PC (6 * k + 2)) (PC (6 * k + 3)) (PC (6 * k + 4)) (PC (6 * k + 5)) rfl rfl rfl rfl rfl rfl b2 b3 b4 b5 b6 b7 hx0 hy0 (by omega)) (cwV 3 hts (tb_V mlM_128 imM_lineCount seM_lineCount iniM coM_lineCount) rfl rfl rfl (by decide +kernel) (by subst hR; exact ⟨Nat.le_of_ble_eq_true rfl, Nat.le_of_ble_eq_true rfl⟩)) ⟨fun a9 U9 g9 mk9 q9 => by obtain ⟨q0, qP, qK⟩ := q9; exact ⟨q0, qP, va_K.moved (u := U9) (U := U9.calling g9 mk9 a9) (Vm.Alike.refl U9.vm) qK⟩, va_recv hK hP (ci := 3) (q0 := 0) rfl rfl, fun U hU hW => ⟨rfl, by rw [hU]; exact hP, va_K.moved hW.alike hK⟩⟩ rfl rfl hl.1 rfl (lv_room (Nat.le_of_ble_eq_true rfl)) dM_windingOf_47 ⟨by subst hR; exact Nat.zero_le _, by subst hR; exact Nat.zero_le _⟩) (fun r_47 hw_47 => ?_)
          subst hw_47
          exact cut_50_2 (lnc (PC (6 * k)) (PC (6 * k + 1)) (PC (6 * k + 4)) (PC (6 * k + 5)) x y) hi2 lo2 _ _ _ (by unfold pcc; rw [if_neg (by rw [c_22]; decide)]) hP hD hS (lv_sub hl [0, 1, 2, 3, 4] rfl)
        · skip
          refine lv_aload_n hx hb dM_windingOf_25 rfl (lv_at hl 0 rfl) ?_
          refine lv_bipush (v := iI 6) hx hb dM_windingOf_26 (by decide +kernel) ?_
          refine lv_iload hx hb dM_windingOf_28 (lv_at hl 4 rfl) ?_
          refine xi_mul (z := 6 * k) hx hb dM_windingOf_30 rfl ?_
          refine lv_iload_n hx hb dM_windingOf_31 rfl (lv_at hl 1 rfl) ?_
          refine lv_iload_n hx hb dM_windingOf_32 rfl (lv_at hl 2 rfl) ?_
          have hFc := xw_free hD hS hA
          refine va_calli (va_runV (As := [.int (iI (6 * k)), .int (iI x), .int (iI y)]) (rest := [.int (iI sm)]) ⟨hx, hb, hml, hown, hts⟩ (m_curveCount l dC dI ad cs H.size ft par np nc rs npc hi2 lo2 X Y O E RX RY RO PC CV (6 * k) x y (PC (6 * k)) (PC (6 * k + 1)) (PC (6 * k + 2)) (PC (6 * k + 3)) (PC (6 * k + 4)) (PC (6 * k + 5)) rfl rfl rfl rfl rfl rfl b2 b3 b4 b5 b6 b7 hx0 hy0 (by omega)) (cwV 3 hts (tb_V mlM_124 imM_curveCount seM_curveCount iniM coM_curveCount) rfl rfl rfl (by decide +kernel) (by subst hR; exact ⟨Nat.le_of_ble_eq_true rfl, Nat.le_of_ble_eq_true rfl⟩)) ⟨fun a9 U9 g9 mk9 q9 => by obtain ⟨q0, q1, qP, qK, qD⟩ := q9; exact ⟨q0, q1, qP, va_K.moved (u := U9) (U := U9.calling g9 mk9 a9) (Vm.Alike.refl U9.vm) qK, qD⟩, va_recv hK hP (ci := 3) (q0 := 0) rfl rfl, fun U hU hW => ⟨rfl, by rw [hU], by rw [hU]; exact hP, va_K.moved hW.alike hK, hD.weaken (fun _ _ _ _ => trivial)⟩⟩ rfl rfl hl.1 rfl (lv_room (Nat.le_of_ble_eq_true rfl)) dM_windingOf_33 ⟨by subst hR; exact Nat.le_of_ble_eq_true rfl, by subst hR; exact Nat.le_of_ble_eq_true rfl⟩) hS (fun q9 _ h9 => hFc q9 h9) hFc (fun r_33 u_33 t9 H1 locs1 ht9 hvm9 hw_33 hB9 hz9 hk9 hS1 => ?_)
          obtain ⟨hP1, hK1, hD1⟩ := hB9
          rw [ht9] at hP1
          have hP : va_P (dC, dI) vwCl (mW ad cs ft par np nc rs npc u_33.1 u_33.2 X Y O E RX RY RO PC CV) H1 := hP1
          have hD : va_D A (mW ad cs ft par np nc rs npc u_33.1 u_33.2 X Y O E RX RY RO PC CV) := hD1.weaken (fun _ _ _ h9 => hFc _ h9)
          clear hP1 hD1 hK1 hFc
          have hS := hS1
          clear hS1 hz9 hk9 ht9 hvm9
          revert hP hD hS; generalize H1 = H; generalize locs1 = locs; intro hP hD hS
          obtain ⟨hr_33, hw_33⟩ := hw_33; subst hr_33
          refine lv_goto (tgt := 50) hx hb dM_windingOf_36 (by decide) ?_
          exact cut_50_2 (cvc (PC (6 * k)) (PC (6 * k + 1)) (PC (6 * k + 2)) (PC (6 * k + 3)) (PC (6 * k + 4)) (PC (6 * k + 5)) x y) u_33.1 u_33.2 _ _ _ (by unfold pcc; rw [if_pos c_22]) hP hD hS (lv_sub hl [0, 1, 2, 3, 4] rfl)
  exact cut_5_1 (((npc - (0 : Int)).toNat) + 1) 0 0 hi lo _ _ _ (Nat.lt_succ_self _) (by omega) (rfl) hP hD hS (lv_sub hl [2, 3, 4, 1, 0] rfl)
set_option maxHeartbeats 4000000 in
set_option maxRecDepth 100000 in
/-- isIn -/
theorem m_isIn (l : Launch) (dC : Nat → ClassId) (dI : Nat → Nat → Nat) (ad : Nat → Nat) (cs : Nat → ClassId) (sz : Nat) (ft : Int) (par : Bool) (np nc rs npc hi lo : Int) (X Y : Int → Int) (O : Int → Bool) (E RX RY : Int → Int) (RO : Int → Bool) (PC : Int → Int) (CV : Int → Bool) (x y : Int) (hpc : 0 ≤ npc ∧ npc ≤ 512) (hok : pcOk PC npc) (hx0 : -16384 ≤ x ∧ x ≤ 16384) (hy0 : -16384 ≤ y ∧ y ≤ 16384) : Met l yM_isIn wM_isIn ({ frames := 6, cells := 0, slots := 0, locals := 198 }) (va_Pc [.ref (ad 0), .int (iI x), .int (iI y)] (fun U => U.heap.size = sz ∧ va_P (dC, dI) vwCl (mW ad cs ft par np nc rs npc hi lo X Y O E RX RY RO PC CV) U.heap ∧ va_K (dC, dI) vwCl (mT cs) U ∧ va_D (fun _ => True) (mW ad cs ft par np nc rs npc hi lo X Y O E RX RY RO PC CV))) (va_Qi (fun (r : Int32) (u : Int × Int) => r = iI (bz (isin par (wnd PC CV npc x y))) ∧ True) (fun (u : Int × Int) t9 => va_P (dC, dI) vwCl (mW ad cs ft par np nc rs npc u.1 u.2 X Y O E RX RY RO PC CV) t9.heap ∧ va_K (dC, dI) vwCl (mT cs) t9 ∧ va_D (va_A (mW ad cs ft par np nc rs npc hi lo X Y O E RX RY RO PC CV) sz) (mW ad cs ft par np nc rs npc u.1 u.2 X Y O E RX RY RO PC CV)) (va_A (mW ad cs ft par np nc rs npc hi lo X Y O E RX RY RO PC CV) sz)) 0 0 (va_A (mW ad cs ft par np nc rs npc hi lo X Y O E RX RY RO PC CV) sz) := by
  refine Met.ofW (cc := cM_isIn) (maxL := 4) (ret := (some .boolean)) (by decide) rfl ?_
  intro p e s m args below meth c s₁ B hml hv
  obtain ⟨hargs, hsz, hP, hK, hD0⟩ := hv
  have hx := B.exec
  have hb := B.bytes
  have hr := B.returns
  have hts := atoms_spec (ws := wM_isIn) B.pre
  have hown : s.vm.findClass RM = some m.cls := findClass_of_methodNamed B.named
  have hlocks := B.notSynchronized
  subst hsz
  have hD := hD0.self (sz := s.heap.size)
  generalize hAe : va_A (mW ad cs ft par np nc rs npc hi lo X Y O E RX RY RO PC CV) s.heap.size = A at hD ⊢
  have hA : ∀ q : Nat, s.heap.size ≤ q → A q := fun q h => by rw [← hAe]; exact Or.inr h
  have hS0 : va_S A s.heap s.heap [] := va_S.rf
  refine x_name (fun R Q H locs hR hQ hH hlo => ?_)
  rw [← hH] at hP
  have hS : va_S A s.heap H locs := by rw [hH, hlo]; exact hS0
  refine x_entry hargs (Nat.le_of_ble_eq_true rfl) (fun ls hl => ?_)
  have hl : lv_has ls 4 [(0, .ref (ad 0)), (1, .int (iI x)), (2, .int (iI y))] := hl
  have hP : va_P (dC, dI) vwCl (mW ad cs ft par np nc rs npc hi lo X Y O E RX RY RO PC CV) H := hP
  obtain ⟨w, hw⟩ : ∃ z, z = wnd PC CV npc x y := ⟨_, rfl⟩
  have b1 := wnd_bd PC CV x y hpc
  rw [← hw] at b1
  obtain ⟨z2, hz2, b2, b3⟩ := rem2 (w := w) (by omega)
  refine lv_aload_n hx hb dM_isIn_0 rfl (lv_at hl 0 rfl) ?_
  refine lv_iload_n hx hb dM_isIn_1 rfl (lv_at hl 1 rfl) ?_
  refine lv_iload_n hx hb dM_isIn_2 rfl (lv_at hl 2 rfl) ?_
  have hFc := xw_free hD hS hA
  refine va_calli (va_runV (As := [.int (iI x), .int (iI y)]) (rest := []) ⟨hx, hb, hml, hown, hts⟩ (m_windingOf l dC dI ad cs H.size ft par np nc rs npc hi lo X Y O E RX RY RO PC CV x y hpc hok hx0 hy0) (cwV 2 hts (tb_V mlM_131 imM_windingOf seM_windingOf iniM coM_windingOf) rfl rfl rfl (by decide +kernel) (by subst hR; exact ⟨Nat.le_of_ble_eq_true rfl, Nat.le_of_ble_eq_true rfl⟩)) ⟨fun a9 U9 g9 mk9 q9 => by obtain ⟨q0, q1, qP, qK, qD⟩ := q9; exact ⟨q0, q1, qP, va_K.moved (u := U9) (U := U9.calling g9 mk9 a9) (Vm.Alike.refl U9.vm) qK, qD⟩, va_recv hK hP (ci := 3) (q0 := 0) rfl rfl, fun U hU hW => ⟨rfl, by rw [hU], by rw [hU]; exact hP, va_K.moved hW.alike hK, hD.weaken (fun _ _ _ _ => trivial)⟩⟩ rfl rfl hl.1 rfl (lv_room (Nat.le_of_ble_eq_true rfl)) dM_isIn_3 ⟨by subst hR; exact Nat.le_of_ble_eq_true rfl, by subst hR; exact Nat.le_of_ble_eq_true rfl⟩) hS (fun q9 _ h9 => hFc q9 h9) hFc (fun r_3 u_3 t9 H1 locs1 ht9 hvm9 hw_3 hB9 hz9 hk9 hS1 => ?_)
  obtain ⟨hP1, hK1, hD1⟩ := hB9
  rw [ht9] at hP1
  have hP : va_P (dC, dI) vwCl (mW ad cs ft par np nc rs npc u_3.1 u_3.2 X Y O E RX RY RO PC CV) H1 := hP1
  have hD : va_D A (mW ad cs ft par np nc rs npc u_3.1 u_3.2 X Y O E RX RY RO PC CV) := hD1.weaken (fun _ _ _ h9 => hFc _ h9)
  clear hP1 hD1 hK1 hFc
  have hS := hS1
  clear hS1 hz9 hk9 ht9 hvm9
  revert hP hD hS; generalize H1 = H; generalize locs1 = locs; intro hP hD hS
  obtain ⟨hr_3, -⟩ := hw_3
  refine xi_top (y := .int (iI w)) (by rw [hr_3, hw]) ?_
  refine lv_istore_n (lv' := [(3, .int (iI w)), (0, .ref (ad 0)), (1, .int (iI x)), (2, .int (iI y))]) hx hb dM_isIn_6 rfl hl (by decide) rfl (fun ls hl => ?_)
  have cut_37_1 : ∀ (v : Bool) (ls : Array Slot), (v = isin par w) → lv_has ls 4 [(3, .int (iI w)), (0, .ref (ad 0)), (1, .int (iI x)), (2, .int (iI y))] → W p l e R s m args below meth c H locs 0 0 Q (F0 m 37 ls [.int (iI (bz v))]) := by
    intro v ls hv hl
    subst hQ
    exact W.zret (v := (iI (bz v))) hx hb hr (xi_narZ2 _) (fun t9 ht9 hW9 => ⟨⟨_, u_3, rfl, (⟨by rw [hv, hw], trivial⟩), by rw [ht9]; exact hP, va_K.moved hW9.alike hK, hD⟩, hS.F ht9⟩) hS.2.2 dM_isIn_37
  refine lv_aload_n hx hb dM_isIn_7 rfl (lv_at hl 1 rfl) ?_
  refine va_get (D := (dC, dI)) (ci := 3) (v := .int (iI (bz par))) (C := RM) (T := TM) (N := 17) hx hb hts (fun w9 h9 => List.mem_cons_of_mem _ (inM w9 h9)) hown hK hP 0 rfl rfl 1 (by decide) (hts _ (List.mem_cons_of_mem _ flM_67)) (fun _ h9 => h9) rfl dM_isIn_8 ?_
  refine xb_if_eq (tgt := 28) hx hb dM_isIn_11 (by decide) (fun c_11 => ?_) (fun c_11 => ?_)
  · skip
    refine lv_iload_n hx hb dM_isIn_28 rfl (lv_at hl 0 rfl) ?_
    refine xi_if_eq (tgt := 36) hx hb dM_isIn_29 (by decide) (by omega) (fun c_29 => ?_) (fun c_29 => ?_)
    · skip
      refine xi_iconst hx hb dM_isIn_36 ?_
      exact cut_37_1 false _ (by unfold isin; rw [if_neg (by rw [c_11]; decide), decide_eq_false (by omega)]) (lv_sub hl [0, 1, 2, 3] rfl)
    · skip
      refine xi_iconst hx hb dM_isIn_32 ?_
      refine lv_goto (tgt := 37) hx hb dM_isIn_33 (by decide) ?_
      exact cut_37_1 true _ (by unfold isin; rw [if_neg (by rw [c_11]; decide), decide_eq_true (by omega)]) (lv_sub hl [0, 1, 2, 3] rfl)
  · skip
    refine lv_iload_n hx hb dM_isIn_14 rfl (lv_at hl 0 rfl) ?_
    refine xi_iconst hx hb dM_isIn_15 ?_
    refine lv_irem hx hb dM_isIn_16 (by decide +kernel) ?_
    refine xi_top (y := .int (iI z2)) (by rw [hz2]) ?_
    refine xi_if_eq (tgt := 24) hx hb dM_isIn_17 (by decide) (by omega) (fun c_17 => ?_) (fun c_17 => ?_)
    · skip
      refine xi_iconst hx hb dM_isIn_24 ?_
      refine lv_goto (tgt := 37) hx hb dM_isIn_25 (by decide) ?_
      exact cut_37_1 false _ (by unfold isin; rw [if_pos c_11, decide_eq_false (by omega)]) (lv_sub hl [0, 1, 2, 3] rfl)
    · skip
      refine xi_iconst hx hb dM_isIn_20 ?_
      refine lv_goto (tgt := 37) hx hb dM_isIn_21 (by decide) ?_
      exact cut_37_1 true _ (by unfold isin; rw [if_pos c_11, decide_eq_true (by omega)]) (lv_sub hl [0, 1, 2, 3] rfl)
set_option maxHeartbeats 4000000 in
set_option maxRecDepth 100000 in
/-- isSet -/
theorem m_isSet (l : Launch) (dC : Nat → ClassId) (dI : Nat → Nat → Nat) (ad : Nat → Nat) (cs : Nat → ClassId) (sz : Nat) (ft : Int) (par : Bool) (np nc rs npc hi lo : Int) (X Y : Int → Int) (O : Int → Bool) (E RX RY : Int → Int) (RO : Int → Bool) (PC : Int → Int) (CV : Int → Bool) (x q : Int) (hpc : 0 ≤ npc ∧ npc ≤ 512) (hok : pcOk PC npc) (hx0 : 0 ≤ x ∧ x ≤ 63) (hq0 : 0 ≤ q ∧ q ≤ 63) : Met l yM_isSet wM_isSet ({ frames := 7, cells := 0, slots := 0, locals := 221 }) (va_Pc [.ref (ad 0), .int (iI x), .int (iI q)] (fun U => U.heap.size = sz ∧ va_P (dC, dI) vwCl (mW ad cs ft par np nc rs npc hi lo X Y O E RX RY RO PC CV) U.heap ∧ va_K (dC, dI) vwCl (mT cs) U ∧ va_D (fun _ => True) (mW ad cs ft par np nc rs npc hi lo X Y O E RX RY RO PC CV))) (va_Qi (fun (r : Int32) (u : Int × Int) => r = iI (bz (isin par (wnd PC CV npc (64 * x + 32) (64 * (63 - q) + 32)))) ∧ True) (fun (u : Int × Int) t9 => va_P (dC, dI) vwCl (mW ad cs ft par np nc rs npc u.1 u.2 X Y O E RX RY RO PC CV) t9.heap ∧ va_K (dC, dI) vwCl (mT cs) t9 ∧ va_D (va_A (mW ad cs ft par np nc rs npc hi lo X Y O E RX RY RO PC CV) sz) (mW ad cs ft par np nc rs npc u.1 u.2 X Y O E RX RY RO PC CV)) (va_A (mW ad cs ft par np nc rs npc hi lo X Y O E RX RY RO PC CV) sz)) 0 0 (va_A (mW ad cs ft par np nc rs npc hi lo X Y O E RX RY RO PC CV) sz) := by
  refine Met.ofW (cc := cM_isSet) (maxL := 3) (ret := (some .boolean)) (by decide) rfl ?_
  intro p e s m args below meth c s₁ B hml hv
  obtain ⟨hargs, hsz, hP, hK, hD0⟩ := hv
  have hx := B.exec
  have hb := B.bytes
  have hr := B.returns
  have hts := atoms_spec (ws := wM_isSet) B.pre
  have hown : s.vm.findClass RM = some m.cls := findClass_of_methodNamed B.named
  have hlocks := B.notSynchronized
  subst hsz
  have hD := hD0.self (sz := s.heap.size)
  generalize hAe : va_A (mW ad cs ft par np nc rs npc hi lo X Y O E RX RY RO PC CV) s.heap.size = A at hD ⊢
  have hA : ∀ q : Nat, s.heap.size ≤ q → A q := fun q h => by rw [← hAe]; exact Or.inr h
  have hS0 : va_S A s.heap s.heap [] := va_S.rf
  refine x_name (fun R Q H locs hR hQ hH hlo => ?_)
  rw [← hH] at hP
  have hS : va_S A s.heap H locs := by rw [hH, hlo]; exact hS0
  refine x_entry hargs (Nat.le_of_ble_eq_true rfl) (fun ls hl => ?_)
  have hl : lv_has ls 3 [(0, .ref (ad 0)), (1, .int (iI x)), (2, .int (iI q))] := hl
  have hP : va_P (dC, dI) vwCl (mW ad cs ft par np nc rs npc hi lo X Y O E RX RY RO PC CV) H := hP
  refine lv_aload_n hx hb dM_isSet_0 rfl (lv_at hl 0 rfl) ?_
  refine lv_bipush (v := iI 64) hx hb dM_isSet_1 (by decide +kernel) ?_
  refine lv_iload_n hx hb dM_isSet_3 rfl (lv_at hl 1 rfl) ?_
  refine xi_mul (z := 64 * x) hx hb dM_isSet_4 rfl ?_
  refine lv_bipush (v := iI 32) hx hb dM_isSet_5 (by decide +kernel) ?_
  refine xi_add (z := (64 * x) + 32) hx hb dM_isSet_7 rfl ?_
  refine lv_bipush (v := iI 64) hx hb dM_isSet_8 (by decide +kernel) ?_
  refine lv_bipush (v := iI 63) hx hb dM_isSet_10 (by decide +kernel) ?_
  refine lv_iload_n hx hb dM_isSet_12 rfl (lv_at hl 2 rfl) ?_
  refine xi_sub (z := 63 - q) hx hb dM_isSet_13 rfl ?_
  refine xi_mul (z := 64 * (63 - q)) hx hb dM_isSet_14 rfl ?_
  refine lv_bipush (v := iI 32) hx hb dM_isSet_15 (by decide +kernel) ?_
  refine xi_add (z := (64 * (63 - q)) + 32) hx hb dM_isSet_17 rfl ?_
  have hFc := xw_free hD hS hA
  refine va_calli (va_runV (As := [.int (iI ((64 * x) + 32)), .int (iI ((64 * (63 - q)) + 32))]) (rest := []) ⟨hx, hb, hml, hown, hts⟩ (m_isIn l dC dI ad cs H.size ft par np nc rs npc hi lo X Y O E RX RY RO PC CV (64 * x + 32) (64 * (63 - q) + 32) hpc hok (by omega) (by omega)) (cwV 2 hts (tb_V mlM_135 imM_isIn seM_isIn iniM coM_isIn) rfl rfl rfl (by decide +kernel) (by subst hR; exact ⟨Nat.le_of_ble_eq_true rfl, Nat.le_of_ble_eq_true rfl⟩)) ⟨fun a9 U9 g9 mk9 q9 => by obtain ⟨q0, q1, qP, qK, qD⟩ := q9; exact ⟨q0, q1, qP, va_K.moved (u := U9) (U := U9.calling g9 mk9 a9) (Vm.Alike.refl U9.vm) qK, qD⟩, va_recv hK hP (ci := 3) (q0 := 0) rfl rfl, fun U hU hW => ⟨rfl, by rw [hU], by rw [hU]; exact hP, va_K.moved hW.alike hK, hD.weaken (fun _ _ _ _ => trivial)⟩⟩ rfl rfl hl.1 rfl (lv_room (Nat.le_of_ble_eq_true rfl)) dM_isSet_18 ⟨by subst hR; exact Nat.le_of_ble_eq_true rfl, by subst hR; exact Nat.le_of_ble_eq_true rfl⟩) hS (fun q9 _ h9 => hFc q9 h9) hFc (fun r_18 u_18 t9 H1 locs1 ht9 hvm9 hw_18 hB9 hz9 hk9 hS1 => ?_)
  obtain ⟨hP1, hK1, hD1⟩ := hB9
  rw [ht9] at hP1
  have hP : va_P (dC, dI) vwCl (mW ad cs ft par np nc rs npc u_18.1 u_18.2 X Y O E RX RY RO PC CV) H1 := hP1
  have hD : va_D A (mW ad cs ft par np nc rs npc u_18.1 u_18.2 X Y O E RX RY RO PC CV) := hD1.weaken (fun _ _ _ h9 => hFc _ h9)
  clear hP1 hD1 hK1 hFc
  have hS := hS1
  clear hS1 hz9 hk9 ht9 hvm9
  revert hP hD hS; generalize H1 = H; generalize locs1 = locs; intro hP hD hS
  obtain ⟨hr_18, hw_18⟩ := hw_18; subst hr_18
  subst hQ
  exact W.zret (v := (iI (bz (isin par (wnd PC CV npc (64 * x + 32) (64 * (63 - q) + 32)))))) hx hb hr (xi_narZ2 _) (fun t9 ht9 hW9 => ⟨⟨_, u_18, rfl, (⟨rfl, trivial⟩), by rw [ht9]; exact hP, va_K.moved hW9.alike hK, hD⟩, hS.F ht9⟩) hS.2.2 dM_isSet_21
