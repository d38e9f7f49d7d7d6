/-! Piece and Place -/
def crs (oy sy py qy ry y : Int) (u : Bool) : Bool :=
  if decide (y < py) = decide (y < ry) then (decide (y < qy) != decide (y < py)) && decide (0 < oy * oy - 4 * sy * (py - y)) else decide (y < ry) == u
theorem crs_a {oy sy py qy ry y : Int} {u : Bool} (h : decide (y < py) ≠ decide (y < ry)) : crs oy sy py qy ry y u = (decide (y < ry) == u) := if_neg h
theorem crs_b {oy sy py qy ry y : Int} {u : Bool} (h : decide (y < py) = decide (y < ry)) : crs oy sy py qy ry y u = ((decide (y < qy) != decide (y < py)) && decide (0 < oy * oy - 4 * sy * (py - y))) := if_pos h
def tkF (sx ox sy oy : Int) (u : Bool) : Int := if sy = 0 then 0 else if u = true then sy * ox - sx * oy else -(sy * ox - sx * oy)
def tkU (sy oy py y : Int) : Int := if sy = 0 then 0 else oy * oy - 4 * sy * (py - y)
def tkS (sy oy : Int) : Int := if sy = 0 then oy * oy else 2 * sy * sy
def tkW (sx ox sy oy px py y : Int) : Int := if sy = 0 then sx * (py - y) * (py - y) - ox * oy * (py - y) + oy * oy * px else -(sy * ox - sx * oy) * oy - 2 * sy * sx * (py - y) + 2 * sy * sy * px
theorem crv_1 {u n t : Int} (ht : 0 < t) (h : 32768 < n / t) : crv u n t = 1 := by unfold crv; rw [if_neg (by omega), if_pos h]
theorem crv_2 {u n t q r k : Int} (ht : 0 < t) (hq : q = n / t) (hr : r = n % t) (h : ¬ 32768 < q) (hk : k = (u - q * q) * t - 2 * q * r) : crv u n t = if k < 0 then 1 else if r < k then -1 else r * r - k * t := by
  subst hk; subst hq; subst hr
  unfold crv
  rw [if_neg (by omega), if_neg h]

set_option maxHeartbeats 4000000 in
set_option maxRecDepth 100000 in
/-- underRoot -/
theorem p_underRoot (l : Launch) (dC : Nat → ClassId) (dI : Nat → Nat → Nat) (h0 : Nat) (ln : Bool) (sx ox sy oy px py qx qy rx ry : Int) (y : Int) (h1 : -32768 ≤ oy ∧ oy ≤ 32768) (h2 : -32768 ≤ sy ∧ sy ≤ 32768) (h3 : -8192 ≤ py ∧ py ≤ 8192) (h4 : -16384 ≤ y ∧ y ≤ 16384) : Met l yP_underRoot wP_underRoot ({ frames := 0, cells := 0, slots := 0, locals := 0 }) (va_Pc [.ref h0, .int (iI y)] (fun U => va_P (dC, dI) vwCl [(h0, .inr (0, [.int (iI (bz ln)), .int (iI sx), .int (iI ox), .int (iI sy), .int (iI oy), .int (iI px), .int (iI py), .int (iI qx), .int (iI qy), .int (iI rx), .int (iI ry)]))] U.heap ∧ va_K (dC, dI) vwCl [] U)) (vp_Sl (fun r => r = lI (oy * oy - 4 * sy * (py - y)))) 0 0 (fun _ => False) := by
  refine Met.ofW (cc := cP_underRoot) (maxL := 2) (ret := (some .long)) (by decide) rfl ?_
  intro p e s m args below meth c s₁ B hml hv
  obtain ⟨hargs, hP, hK⟩ := hv
  have hx := B.exec
  have hb := B.bytes
  have hr := B.returns
  have hts := atoms_spec (ws := wP_underRoot) B.pre
  have hown : s.vm.findClass RP = some m.cls := findClass_of_methodNamed B.named
  have hlocks := B.notSynchronized
  refine x_name (fun R Q H locs hR hQ hH hlo => ?_)
  rw [← hH] at hP
  refine x_entry hargs (Nat.le_of_ble_eq_true rfl) (fun ls hl => ?_)
  have hl : lv_has ls 2 [(0, .ref h0), (1, .int (iI y))] := hl
  have hP : va_P (dC, dI) vwCl [(h0, .inr (0, [.int (iI (bz ln)), .int (iI sx), .int (iI ox), .int (iI sy), .int (iI oy), .int (iI px), .int (iI py), .int (iI qx), .int (iI qy), .int (iI rx), .int (iI ry)]))] H := hP
  refine lv_aload_n hx hb dP_underRoot_0 rfl (lv_at hl 0 rfl) ?_
  refine va_get (D := (dC, dI)) (ci := 0) (v := .int (iI oy)) (C := RP) (T := TP) (N := 11) hx hb hts (fun w9 h9 => List.mem_cons_of_mem _ (inP w9 h9)) hown hK hP 0 rfl rfl 4 (by decide) (hts _ (List.mem_cons_of_mem _ flP_41)) (fun _ h9 => h9) rfl dP_underRoot_1 ?_
  refine xl_i2l hx hb dP_underRoot_4 (by omega) ?_
  refine lv_aload_n hx hb dP_underRoot_5 rfl (lv_at hl 0 rfl) ?_
  refine va_get (D := (dC, dI)) (ci := 0) (v := .int (iI oy)) (C := RP) (T := TP) (N := 11) hx hb hts (fun w9 h9 => List.mem_cons_of_mem _ (inP w9 h9)) hown hK hP 0 rfl rfl 4 (by decide) (hts _ (List.mem_cons_of_mem _ flP_41)) (fun _ h9 => h9) rfl dP_underRoot_6 ?_
  refine xl_i2l hx hb dP_underRoot_9 (by omega) ?_
  refine xl_mul (z := oy * oy) hx hb dP_underRoot_10 rfl ?_
  refine lv_ldc2 (v := 4) hx hb hown (hts _ (List.mem_cons_of_mem _ klP_48)) dP_underRoot_11 ?_
  refine xi_top (y := .long (lI 4)) (by decide +kernel) ?_
  refine lv_aload_n hx hb dP_underRoot_14 rfl (lv_at hl 0 rfl) ?_
  refine va_get (D := (dC, dI)) (ci := 0) (v := .int (iI sy)) (C := RP) (T := TP) (N := 11) hx hb hts (fun w9 h9 => List.mem_cons_of_mem _ (inP w9 h9)) hown hK hP 0 rfl rfl 3 (by decide) (hts _ (List.mem_cons_of_mem _ flP_35)) (fun _ h9 => h9) rfl dP_underRoot_15 ?_
  refine xl_i2l hx hb dP_underRoot_18 (by omega) ?_
  refine xl_mul (z := 4 * sy) hx hb dP_underRoot_19 rfl ?_
  refine lv_aload_n hx hb dP_underRoot_20 rfl (lv_at hl 0 rfl) ?_
  refine va_get (D := (dC, dI)) (ci := 0) (v := .int (iI py)) (C := RP) (T := TP) (N := 11) hx hb hts (fun w9 h9 => List.mem_cons_of_mem _ (inP w9 h9)) hown hK hP 0 rfl rfl 6 (by decide) (hts _ (List.mem_cons_of_mem _ flP_17)) (fun _ h9 => h9) rfl dP_underRoot_21 ?_
  refine lv_iload_n hx hb dP_underRoot_24 rfl (lv_at hl 1 rfl) ?_
  refine xi_sub (z := py - y) hx hb dP_underRoot_25 rfl ?_
  refine xl_i2l hx hb dP_underRoot_26 (by omega) ?_
  refine xl_mul (z := (4 * sy) * (py - y)) hx hb dP_underRoot_27 rfl ?_
  refine xl_sub (z := (oy * oy) - ((4 * sy) * (py - y))) hx hb dP_underRoot_28 rfl ?_
  subst hQ
  exact W.lret (v := (lI ((oy * oy) - ((4 * sy) * (py - y))))) hx hb hr (fun t9 ht9 hW9 => ⟨_, rfl, rfl, ht9.trans hH⟩) (by rw [hlo]; intro q9 h9; cases h9) dP_underRoot_29
set_option maxHeartbeats 4000000 in
set_option maxRecDepth 100000 in
/-- crosses -/
theorem p_crosses (l : Launch) (dC : Nat → ClassId) (dI : Nat → Nat → Nat) (h0 : Nat) (ln : Bool) (sx ox sy oy px py qx qy rx ry : Int) (y : Int) (u : Bool) (h1 : -32768 ≤ oy ∧ oy ≤ 32768) (h2 : -32768 ≤ sy ∧ sy ≤ 32768) (h3 : -8192 ≤ py ∧ py ≤ 8192) (h4 : -16384 ≤ y ∧ y ≤ 16384) (h5 : -8192 ≤ qy ∧ qy ≤ 8192) (h6 : -8192 ≤ ry ∧ ry ≤ 8192) : Met l yP_crosses wP_crosses ({ frames := 1, cells := 0, slots := 0, locals := 21 }) (va_Pc [.ref h0, .int (iI y), .int (iI (bz u))] (fun U => va_P (dC, dI) vwCl [(h0, .inr (0, [.int (iI (bz ln)), .int (iI sx), .int (iI ox), .int (iI sy), .int (iI oy), .int (iI px), .int (iI py), .int (iI qx), .int (iI qy), .int (iI rx), .int (iI ry)]))] U.heap ∧ va_K (dC, dI) vwCl [] U)) (vp_Si (fun r => r = iI (bz (crs oy sy py qy ry y u)))) 0 0 (fun _ => False) := by
  refine Met.ofW (cc := cP_crosses) (maxL := 5) (ret := (some .boolean)) (by decide) rfl ?_
  intro p e s m args below meth c s₁ B hml hv
  obtain ⟨hargs, hP, hK⟩ := hv
  have hx := B.exec
  have hb := B.bytes
  have hr := B.returns
  have hts := atoms_spec (ws := wP_crosses) B.pre
  have hown : s.vm.findClass RP = some m.cls := findClass_of_methodNamed B.named
  have hlocks := B.notSynchronized
  refine x_name (fun R Q H locs hR hQ hH hlo => ?_)
  rw [← hH] at hP
  refine x_entry hargs (Nat.le_of_ble_eq_true rfl) (fun ls hl => ?_)
  have hl : lv_has ls 5 [(0, .ref h0), (1, .int (iI y)), (2, .int (iI (bz u)))] := hl
  have hP : va_P (dC, dI) vwCl [(h0, .inr (0, [.int (iI (bz ln)), .int (iI sx), .int (iI ox), .int (iI sy), .int (iI oy), .int (iI px), .int (iI py), .int (iI qx), .int (iI qy), .int (iI rx), .int (iI ry)]))] H := hP
  have cut_13_1 : ∀ (v1 : Bool) (ls : Array Slot), (v1 = decide (y < py)) → lv_has ls 5 [(0, .ref h0), (1, .int (iI y)), (2, .int (iI (bz u)))] → W p l e R s m args below meth c H locs 0 0 Q (F0 m 13 ls [.int (iI (bz v1))]) := by
    intro v1 ls hv1 hl
    refine lv_istore_n (lv' := [(3, .int (iI (bz v1))), (0, .ref h0), (1, .int (iI y)), (2, .int (iI (bz u)))]) hx hb dP_crosses_13 rfl hl (by decide) rfl (fun ls hl => ?_)
    have cut_27_2 : ∀ (v2 : Bool) (ls : Array Slot), (v2 = decide (y < ry)) → lv_has ls 5 [(3, .int (iI (bz v1))), (0, .ref h0), (1, .int (iI y)), (2, .int (iI (bz u)))] → W p l e R s m args below meth c H locs 0 0 Q (F0 m 27 ls [.int (iI (bz v2))]) := by
      intro v2 ls hv2 hl
      refine lv_istore (lv' := [(4, .int (iI (bz v2))), (3, .int (iI (bz v1))), (0, .ref h0), (1, .int (iI y)), (2, .int (iI (bz u)))]) hx hb dP_crosses_27 hl (by decide) rfl (fun ls hl => ?_)
      refine lv_iload_n hx hb dP_crosses_29 rfl (lv_at hl 1 rfl) ?_
      refine lv_iload hx hb dP_crosses_30 (lv_at hl 0 rfl) ?_
      refine xb_icmp_eq (tgt := 47) hx hb dP_crosses_32 (by decide) (fun c_32 => ?_) (fun c_32 => ?_)
      · skip
        have cut_60_3 : ∀ (v3 : Bool) (ls : Array Slot), (v3 = decide (y < qy)) → lv_has ls 5 [(4, .int (iI (bz v2))), (3, .int (iI (bz v1))), (0, .ref h0), (1, .int (iI y)), (2, .int (iI (bz u)))] → W p l e R s m args below meth c H locs 0 0 Q (F0 m 60 ls [.int (iI (bz v3))]) := by
          intro v3 ls hv3 hl
          refine lv_iload_n hx hb dP_crosses_60 rfl (lv_at hl 1 rfl) ?_
          have cut_79_4 : ∀ (w : Bool) (ls : Array Slot), (w = crs oy sy py qy ry y u) → lv_has ls 5 [(4, .int (iI (bz v2))), (3, .int (iI (bz v1))), (0, .ref h0), (1, .int (iI y)), (2, .int (iI (bz u)))] → W p l e R s m args below meth c H locs 0 0 Q (F0 m 79 ls [.int (iI (bz w))]) := by
            intro w ls hw hl
            subst hQ
            exact W.zret (v := (iI (bz w))) hx hb hr (xi_narZ2 _) (fun t9 ht9 hW9 => ⟨_, rfl, (by rw [hw]), ht9.trans hH⟩) (by rw [hlo]; intro q9 h9; cases h9) dP_crosses_79
          refine xb_icmp_eq (tgt := 78) hx hb dP_crosses_61 (by decide) (fun c_61 => ?_) (fun c_61 => ?_)
          · skip
            refine xi_iconst hx hb dP_crosses_78 ?_
            exact cut_79_4 false _ (by rw [crs_b (by rw [← hv1, ← hv2]; exact c_32), ← hv3, ← hv1, c_61]; cases v1 <;> rfl) (lv_sub hl [0, 1, 2, 3, 4] rfl)
          · skip
            refine lv_aload_n hx hb dP_crosses_64 rfl (lv_at hl 2 rfl) ?_
            refine lv_iload_n hx hb dP_crosses_65 rfl (lv_at hl 3 rfl) ?_
            refine vp_callSl (W.runV (As := [.int (iI y)]) (rest := []) ⟨hx, hb, hml, hown, hts⟩ (p_underRoot l dC dI h0 ln sx ox sy oy px py qx qy rx ry y h1 h2 h3 h4) (cwV 1 hts (tb_V mlP_44 imP_underRoot seP_underRoot iniP coP_underRoot) rfl rfl rfl (by decide +kernel) (by subst hR; exact ⟨Nat.le_of_ble_eq_true rfl, Nat.le_of_ble_eq_true rfl⟩)) ⟨fun a9 U9 g9 mk9 q9 => by obtain ⟨q0, qP, qK⟩ := q9; exact ⟨q0, qP, va_K.moved (u := U9) (U := U9.calling g9 mk9 a9) (Vm.Alike.refl U9.vm) qK⟩, va_recv hK hP (ci := 0) (q0 := 0) rfl rfl, fun U hU hW => ⟨rfl, by rw [hU]; exact hP, va_K.moved hW.alike hK⟩⟩ rfl rfl hl.1 rfl (lv_room (Nat.le_of_ble_eq_true rfl)) dP_crosses_66 ⟨by subst hR; exact Nat.zero_le _, by subst hR; exact Nat.zero_le _⟩) (fun r_66 hw_66 => ?_)
            subst hw_66
            have b1 := mul_bd 32768 32768 (a := oy) (b := oy) (by omega) (by omega)
            have b2 := mul_bd 131072 24576 (a := 4 * sy) (b := py - y) (by omega) (by omega)
            refine lv_lconst (v := lI 0) hx hb dP_crosses_69 (by decide +kernel) ?_
            refine xl_le (tgt := 78) hx hb dP_crosses_70 dP_crosses_71 (by decide) (by omega) (by omega) (fun c_70 => ?_) (fun c_70 => ?_)
            · skip
              refine xi_iconst hx hb dP_crosses_78 ?_
              exact cut_79_4 false _ (by rw [crs_b (by rw [← hv1, ← hv2]; exact c_32), ← hv3, ← hv1, decide_eq_false (show ¬ 0 < oy * oy - 4 * sy * (py - y) by omega)]; cases v3 <;> cases v1 <;> rfl) (lv_sub hl [0, 1, 2, 3, 4] rfl)
            · skip
              refine xi_iconst hx hb dP_crosses_74 ?_
              refine lv_goto (tgt := 79) hx hb dP_crosses_75 (by decide) ?_
              exact cut_79_4 true _ (by rw [crs_b (by rw [← hv1, ← hv2]; exact c_32), ← hv3, ← hv1, decide_eq_true (show 0 < oy * oy - 4 * sy * (py - y) by omega)]; revert c_61; clear hv1 hv2 hv3 c_32; cases v3 <;> cases v1 <;> decide) (lv_sub hl [0, 1, 2, 3, 4] rfl)
        refine lv_aload_n hx hb dP_crosses_47 rfl (lv_at hl 2 rfl) ?_
        refine va_get (D := (dC, dI)) (ci := 0) (v := .int (iI qy)) (C := RP) (T := TP) (N := 11) hx hb hts (fun w9 h9 => List.mem_cons_of_mem _ (inP w9 h9)) hown hK hP 0 rfl rfl 8 (by decide) (hts _ (List.mem_cons_of_mem _ flP_23)) (fun _ h9 => h9) rfl dP_crosses_48 ?_
        refine lv_iload_n hx hb dP_crosses_51 rfl (lv_at hl 3 rfl) ?_
        refine xi_icmp_le (tgt := 59) hx hb dP_crosses_52 (by decide) (by omega) (by omega) (fun c_52 => ?_) (fun c_52 => ?_)
        · skip
          refine xi_iconst hx hb dP_crosses_59 ?_
          exact cut_60_3 false _ (dec_f (by omega)) (lv_sub hl [0, 1, 2, 3, 4] rfl)
        · skip
          refine xi_iconst hx hb dP_crosses_55 ?_
          refine lv_goto (tgt := 60) hx hb dP_crosses_56 (by decide) ?_
          exact cut_60_3 true _ (dec_t (by omega)) (lv_sub hl [0, 1, 2, 3, 4] rfl)
      · skip
        have cut_46_5 : ∀ (w : Bool) (ls : Array Slot), (w = crs oy sy py qy ry y u) → lv_has ls 5 [(4, .int (iI (bz v2))), (3, .int (iI (bz v1))), (0, .ref h0), (1, .int (iI y)), (2, .int (iI (bz u)))] → W p l e R s m args below meth c H locs 0 0 Q (F0 m 46 ls [.int (iI (bz w))]) := by
          intro w ls hw hl
          subst hQ
          exact W.zret (v := (iI (bz w))) hx hb hr (xi_narZ2 _) (fun t9 ht9 hW9 => ⟨_, rfl, (by rw [hw]), ht9.trans hH⟩) (by rw [hlo]; intro q9 h9; cases h9) dP_crosses_46
        refine lv_iload hx hb dP_crosses_35 (lv_at hl 0 rfl) ?_
        refine lv_iload_n hx hb dP_crosses_37 rfl (lv_at hl 4 rfl) ?_
        refine xb_icmp_ne (tgt := 45) hx hb dP_crosses_38 (by decide) (fun c_38 => ?_) (fun c_38 => ?_)
        · skip
          refine xi_iconst hx hb dP_crosses_45 ?_
          exact cut_46_5 false _ (by rw [crs_a (by rw [← hv1, ← hv2]; exact c_32), ← hv2]; revert c_38; clear hv1 hv2 c_32; cases v2 <;> cases u <;> decide) (lv_sub hl [0, 1, 2, 3, 4] rfl)
        · skip
          refine xi_iconst hx hb dP_crosses_41 ?_
          refine lv_goto (tgt := 46) hx hb dP_crosses_42 (by decide) ?_
          exact cut_46_5 true _ (by rw [crs_a (by rw [← hv1, ← hv2]; exact c_32), ← hv2]; revert c_38; clear hv1 hv2 c_32; cases v2 <;> cases u <;> decide) (lv_sub hl [0, 1, 2, 3, 4] rfl)
    refine lv_aload_n hx hb dP_crosses_14 rfl (lv_at hl 1 rfl) ?_
    refine va_get (D := (dC, dI)) (ci := 0) (v := .int (iI ry)) (C := RP) (T := TP) (N := 11) hx hb hts (fun w9 h9 => List.mem_cons_of_mem _ (inP w9 h9)) hown hK hP 0 rfl rfl 10 (by decide) (hts _ (List.mem_cons_of_mem _ flP_29)) (fun _ h9 => h9) rfl dP_crosses_15 ?_
    refine lv_iload_n hx hb dP_crosses_18 rfl (lv_at hl 2 rfl) ?_
    refine xi_icmp_le (tgt := 26) hx hb dP_crosses_19 (by decide) (by omega) (by omega) (fun c_19 => ?_) (fun c_19 => ?_)
    · skip
      refine xi_iconst hx hb dP_crosses_26 ?_
      exact cut_27_2 false _ (dec_f (by omega)) (lv_sub hl [0, 1, 2, 3] rfl)
    · skip
      refine xi_iconst hx hb dP_crosses_22 ?_
      refine lv_goto (tgt := 27) hx hb dP_crosses_23 (by decide) ?_
      exact cut_27_2 true _ (dec_t (by omega)) (lv_sub hl [0, 1, 2, 3] rfl)
  refine lv_aload_n hx hb dP_crosses_0 rfl (lv_at hl 0 rfl) ?_
  refine va_get (D := (dC, dI)) (ci := 0) (v := .int (iI py)) (C := RP) (T := TP) (N := 11) hx hb hts (fun w9 h9 => List.mem_cons_of_mem _ (inP w9 h9)) hown hK hP 0 rfl rfl 6 (by decide) (hts _ (List.mem_cons_of_mem _ flP_17)) (fun _ h9 => h9) rfl dP_crosses_1 ?_
  refine lv_iload_n hx hb dP_crosses_4 rfl (lv_at hl 1 rfl) ?_
  refine xi_icmp_le (tgt := 12) hx hb dP_crosses_5 (by decide) (by omega) (by omega) (fun c_5 => ?_) (fun c_5 => ?_)
  · skip
    refine xi_iconst hx hb dP_crosses_12 ?_
    exact cut_13_1 false _ (dec_f (by omega)) (lv_sub hl [0, 1, 2] rfl)
  · skip
    refine xi_iconst hx hb dP_crosses_8 ?_
    refine lv_goto (tgt := 13) hx hb dP_crosses_9 (by decide) ?_
    exact cut_13_1 true _ (dec_t (by omega)) (lv_sub hl [0, 1, 2] rfl)
set_option maxHeartbeats 4000000 in
set_option maxRecDepth 100000 in
/-- compareToRoot -/
theorem l_compareToRoot (l : Launch) (dC : Nat → ClassId) (dI : Nat → Nat → Nat) (h0 : Nat) (w f u sc : Int) (n tm : Int) (hu : 0 < u ∧ u < 1073741824) (hn : 0 ≤ n ∧ n ≤ 4611686018427387904) (ht : 0 < tm ∧ tm ≤ 2147483648) : Met l yL_compareToRoot wL_compareToRoot ({ frames := 0, cells := 0, slots := 0, locals := 0 }) (va_Pc [.ref h0, .long (lI n), .long (lI tm)] (fun U => va_P (dC, dI) vwCl [(h0, .inr (1, [.long (lI w), .long (lI f), .long (lI u), .long (lI sc)]))] U.heap ∧ va_K (dC, dI) vwCl [] U)) (vp_Sl (fun r => r = lI (crv u n tm))) 0 0 (fun _ => False) := by
  refine Met.ofW (cc := cL_compareToRoot) (maxL := 11) (ret := (some .long)) (by decide) rfl ?_
  intro p e s m args below meth c s₁ B hml hv
  obtain ⟨hargs, hP, hK⟩ := hv
  have hx := B.exec
  have hb := B.bytes
  have hr := B.returns
  have hts := atoms_spec (ws := wL_compareToRoot) B.pre
  have hown : s.vm.findClass RL = some m.cls := findClass_of_methodNamed B.named
  have hlocks := B.notSynchronized
  refine x_name (fun R Q H locs hR hQ hH hlo => ?_)
  rw [← hH] at hP
  refine x_entry hargs (Nat.le_of_ble_eq_true rfl) (fun ls hl => ?_)
  have hl : lv_has ls 11 [(0, .ref h0), (1, .long (lI n)), (3, .long (lI tm))] := hl
  have hP : va_P (dC, dI) vwCl [(h0, .inr (1, [.long (lI w), .long (lI f), .long (lI u), .long (lI sc)]))] H := hP
  refine lv_lload_n hx hb dL_compareToRoot_0 rfl (lv_at hl 2 rfl) ?_
  refine lv_lconst (v := lI 0) hx hb dL_compareToRoot_1 (by decide +kernel) ?_
  refine xl_gt (tgt := 8) hx hb dL_compareToRoot_2 dL_compareToRoot_3 (by decide) (by omega) (by omega) (fun c_2 => ?_) (fun c_2 => ?_)
  · skip
    obtain ⟨q, hq⟩ : ∃ q, q = n / tm := ⟨_, rfl⟩
    obtain ⟨r, hr9⟩ : ∃ r, r = n % tm := ⟨_, rfl⟩
    have q0 : 0 ≤ q := by rw [hq]; exact Int.ediv_nonneg hn.1 (by omega)
    have q1 : q ≤ n := by rw [hq]; exact Int.ediv_le_self _ hn.1
    have r0 : 0 ≤ r := by rw [hr9]; exact Int.emod_nonneg n (by omega)
    have r1 : r < tm := by rw [hr9]; exact Int.emod_lt_of_pos n ht.1
    refine lv_lload_n hx hb dL_compareToRoot_8 rfl (lv_at hl 1 rfl) ?_
    refine lv_lload_n hx hb dL_compareToRoot_9 rfl (lv_at hl 2 rfl) ?_
    refine xl_div (z := q) hx hb dL_compareToRoot_10 (by omega) (by omega) (hq.symm) ?_
    refine lv_lstore (lv' := [(5, .long (lI q)), (0, .ref h0), (1, .long (lI n)), (3, .long (lI tm))]) hx hb dL_compareToRoot_11 hl (by decide) rfl (fun ls hl => ?_)
    refine lv_lload_n hx hb dL_compareToRoot_13 rfl (lv_at hl 2 rfl) ?_
    refine lv_lload_n hx hb dL_compareToRoot_14 rfl (lv_at hl 3 rfl) ?_
    refine xl_rem (z := r) hx hb dL_compareToRoot_15 (by omega) (by omega) (hr9.symm) ?_
    refine lv_lstore (lv' := [(7, .long (lI r)), (5, .long (lI q)), (0, .ref h0), (1, .long (lI n)), (3, .long (lI tm))]) hx hb dL_compareToRoot_16 hl (by decide) rfl (fun ls hl => ?_)
    refine lv_lload hx hb dL_compareToRoot_18 (lv_at hl 1 rfl) ?_
    refine lv_ldc2 (v := 32768) hx hb hown (hts _ (List.mem_cons_of_mem _ klL_59)) dL_compareToRoot_20 ?_
    refine xi_top (y := .long (lI 32768)) (by decide +kernel) ?_
    refine xl_le (tgt := 29) hx hb dL_compareToRoot_23 dL_compareToRoot_24 (by decide) (by omega) (by omega) (fun c_23 => ?_) (fun c_23 => ?_)
    · skip
      obtain ⟨k, hk⟩ : ∃ k, k = (u - q * q) * tm - 2 * q * r := ⟨_, rfl⟩
      have b1 := mul_bd 32768 32768 (a := q) (b := q) (by omega) (by omega)
      have b2 := mul_bd 2147483648 2147483648 (a := u - q * q) (b := tm) (by omega) (by omega)
      have b3 := mul_bd 65536 2147483648 (a := 2 * q) (b := r) (by omega) (by omega)
      have e9 := crv_2 (u := u) ht.1 hq hr9 (by omega) hk
      refine lv_aload_n hx hb dL_compareToRoot_29 rfl (lv_at hl 2 rfl) ?_
      refine va_get (D := (dC, dI)) (ci := 1) (v := .long (lI u)) (C := RL) (T := TL) (N := 4) hx hb hts (fun w9 h9 => List.mem_cons_of_mem _ (inL w9 h9)) hown hK hP 0 rfl rfl 2 (by decide) (hts _ (List.mem_cons_of_mem _ flL_33)) (fun _ h9 => h9) rfl dL_compareToRoot_30 ?_
      refine lv_lload hx hb dL_compareToRoot_33 (lv_at hl 1 rfl) ?_
      refine lv_lload hx hb dL_compareToRoot_35 (lv_at hl 1 rfl) ?_
      refine xl_mul (z := q * q) hx hb dL_compareToRoot_37 rfl ?_
      refine xl_sub (z := u - (q * q)) hx hb dL_compareToRoot_38 rfl ?_
      refine lv_lload_n hx hb dL_compareToRoot_39 rfl (lv_at hl 4 rfl) ?_
      refine xl_mul (z := (u - (q * q)) * tm) hx hb dL_compareToRoot_40 rfl ?_
      refine lv_ldc2 (v := 2) hx hb hown (hts _ (List.mem_cons_of_mem _ klL_49)) dL_compareToRoot_41 ?_
      refine xi_top (y := .long (lI 2)) (by decide +kernel) ?_
      refine lv_lload hx hb dL_compareToRoot_44 (lv_at hl 1 rfl) ?_
      refine xl_mul (z := 2 * q) hx hb dL_compareToRoot_46 rfl ?_
      refine lv_lload hx hb dL_compareToRoot_47 (lv_at hl 0 rfl) ?_
      refine xl_mul (z := (2 * q) * r) hx hb dL_compareToRoot_49 rfl ?_
      refine xl_sub (z := k) hx hb dL_compareToRoot_50 (hk.symm) ?_
      refine lv_lstore (lv' := [(9, .long (lI k)), (7, .long (lI r)), (5, .long (lI q)), (0, .ref h0), (1, .long (lI n)), (3, .long (lI tm))]) hx hb dL_compareToRoot_51 hl (by decide) rfl (fun ls hl => ?_)
      refine lv_lload hx hb dL_compareToRoot_53 (lv_at hl 0 rfl) ?_
      refine lv_lconst (v := lI 0) hx hb dL_compareToRoot_55 (by decide +kernel) ?_
      refine xl_ge (tgt := 62) hx hb dL_compareToRoot_56 dL_compareToRoot_57 (by decide) (by omega) (by omega) (fun c_56 => ?_) (fun c_56 => ?_)
      · skip
        refine lv_lload hx hb dL_compareToRoot_62 (lv_at hl 0 rfl) ?_
        refine lv_lload hx hb dL_compareToRoot_64 (lv_at hl 1 rfl) ?_
        refine xl_le (tgt := 74) hx hb dL_compareToRoot_66 dL_compareToRoot_67 (by decide) (by omega) (by omega) (fun c_66 => ?_) (fun c_66 => ?_)
        · skip
          refine lv_lload hx hb dL_compareToRoot_74 (lv_at hl 1 rfl) ?_
          refine lv_lload hx hb dL_compareToRoot_76 (lv_at hl 1 rfl) ?_
          refine xl_mul (z := r * r) hx hb dL_compareToRoot_78 rfl ?_
          refine lv_lload hx hb dL_compareToRoot_79 (lv_at hl 0 rfl) ?_
          refine lv_lload_n hx hb dL_compareToRoot_81 rfl (lv_at hl 5 rfl) ?_
          refine xl_mul (z := k * tm) hx hb dL_compareToRoot_82 rfl ?_
          refine xl_sub (z := (r * r) - (k * tm)) hx hb dL_compareToRoot_83 rfl ?_
          subst hQ
          exact W.lret (v := (lI ((r * r) - (k * tm)))) hx hb hr (fun t9 ht9 hW9 => ⟨_, rfl, (by rw [e9, if_neg (by omega), if_neg (by omega)]), ht9.trans hH⟩) (by rw [hlo]; intro q9 h9; cases h9) dL_compareToRoot_84
        · skip
          refine lv_ldc2 (v := (-1)) hx hb hown (hts _ (List.mem_cons_of_mem _ klL_61)) dL_compareToRoot_70 ?_
          refine xi_top (y := .long (lI (-1))) (by decide +kernel) ?_
          subst hQ
          exact W.lret (v := (lI (-1))) hx hb hr (fun t9 ht9 hW9 => ⟨_, rfl, (by rw [e9, if_neg (by omega), if_pos (by omega)]), ht9.trans hH⟩) (by rw [hlo]; intro q9 h9; cases h9) dL_compareToRoot_73
      · skip
        refine lv_lconst (v := lI 1) hx hb dL_compareToRoot_60 (by decide +kernel) ?_
        subst hQ
        exact W.lret (v := (lI 1)) hx hb hr (fun t9 ht9 hW9 => ⟨_, rfl, (by rw [e9, if_pos (by omega)]), ht9.trans hH⟩) (by rw [hlo]; intro q9 h9; cases h9) dL_compareToRoot_61
    · skip
      refine lv_lconst (v := lI 1) hx hb dL_compareToRoot_27 (by decide +kernel) ?_
      subst hQ
      exact W.lret (v := (lI 1)) hx hb hr (fun t9 ht9 hW9 => ⟨_, rfl, (by rw [crv_1 ht.1 (by rw [← hq]; omega)]), ht9.trans hH⟩) (by rw [hlo]; intro q9 h9; cases h9) dL_compareToRoot_28
  · exact absurd c_2 (by omega)
theorem crv_bd {u n t : Int} (hu : 0 < u) (hu2 : u < 1073741824) (hn : 0 ≤ n) (ht : 0 < t ∧ t ≤ 2147483648) : -9223372036854775808 ≤ crv u n t ∧ crv u n t ≤ 9223372036854775807 := by
  unfold crv
  have r0 : 0 ≤ n % t := Int.emod_nonneg n (by omega)
  have r1 : n % t < t := Int.emod_lt_of_pos n ht.1
  rw [if_neg (by omega)]
  generalize n / t = q at *
  generalize n % t = r at *
  generalize (u - q * q) * t - 2 * q * r = k at *
  split
  · omega
  · split
    · omega
    · split
      · omega
      · have b1 := mul_bd 2147483648 2147483648 (a := r) (b := r) (by omega) (by omega)
        have b2 := mul_bd 2147483648 2147483648 (a := k) (b := t) (by omega) (by omega)
        have b3 := sq_nn r
        have b4 : 0 ≤ k * t := mul_nn (by omega) (by omega)
        omega
set_option maxHeartbeats 4000000 in
set_option maxRecDepth 100000 in
/-- isRightOf -/
theorem l_isRightOf (l : Launch) (dC : Nat → ClassId) (dI : Nat → Nat → Nat) (h0 : Nat) (w f u sc : Int) (x : Int) (hu : -1152921504606846976 ≤ u ∧ u < 1073741824) (hf : -2147483647 ≤ f ∧ f ≤ 2147483647) (hw : -1125899906842624 ≤ w ∧ w ≤ 1125899906842624) (hs : 0 ≤ sc ∧ sc ≤ 2147483647) (hx0 : -32768 ≤ x ∧ x ≤ 32768) : Met l yL_isRightOf wL_isRightOf ({ frames := 1, cells := 0, slots := 0, locals := 30 }) (va_Pc [.ref h0, .int (iI x)] (fun U => va_P (dC, dI) vwCl [(h0, .inr (1, [.long (lI w), .long (lI f), .long (lI u), .long (lI sc)]))] U.heap ∧ va_K (dC, dI) vwCl [] U)) (vp_Si (fun r => r = iI (bz (rgt (w - sc * x) f u)))) 0 0 (fun _ => False) := by
  refine Met.ofW (cc := cL_isRightOf) (maxL := 4) (ret := (some .boolean)) (by decide) rfl ?_
  intro p e s m args below meth c s₁ B hml hv
  obtain ⟨hargs, hP, hK⟩ := hv
  have hx := B.exec
  have hb := B.bytes
  have hr := B.returns
  have hts := atoms_spec (ws := wL_isRightOf) B.pre
  have hown : s.vm.findClass RL = some m.cls := findClass_of_methodNamed B.named
  have hlocks := B.notSynchronized
  refine x_name (fun R Q H locs hR hQ hH hlo => ?_)
  rw [← hH] at hP
  refine x_entry hargs (Nat.le_of_ble_eq_true rfl) (fun ls hl => ?_)
  have hl : lv_has ls 4 [(0, .ref h0), (1, .int (iI x))] := hl
  have hP : va_P (dC, dI) vwCl [(h0, .inr (1, [.long (lI w), .long (lI f), .long (lI u), .long (lI sc)]))] H := hP
  obtain ⟨rs, hrs⟩ : ∃ z, z = w - sc * x := ⟨_, rfl⟩
  have b0 := mul_bd 2147483648 32768 (a := sc) (b := x) (by omega) (by omega)
  have b9 : -4611686018427387904 ≤ rs ∧ rs ≤ 4611686018427387904 := by omega
  refine lv_aload_n hx hb dL_isRightOf_0 rfl (lv_at hl 0 rfl) ?_
  refine va_get (D := (dC, dI)) (ci := 1) (v := .long (lI w)) (C := RL) (T := TL) (N := 4) hx hb hts (fun w9 h9 => List.mem_cons_of_mem _ (inL w9 h9)) hown hK hP 0 rfl rfl 0 (by decide) (hts _ (List.mem_cons_of_mem _ flL_42)) (fun _ h9 => h9) rfl dL_isRightOf_1 ?_
  refine lv_aload_n hx hb dL_isRightOf_4 rfl (lv_at hl 0 rfl) ?_
  refine va_get (D := (dC, dI)) (ci := 1) (v := .long (lI sc)) (C := RL) (T := TL) (N := 4) hx hb hts (fun w9 h9 => List.mem_cons_of_mem _ (inL w9 h9)) hown hK hP 0 rfl rfl 3 (by decide) (hts _ (List.mem_cons_of_mem _ flL_36)) (fun _ h9 => h9) rfl dL_isRightOf_5 ?_
  refine lv_iload_n hx hb dL_isRightOf_8 rfl (lv_at hl 1 rfl) ?_
  refine xl_i2l hx hb dL_isRightOf_9 (by omega) ?_
  refine xl_mul (z := sc * x) hx hb dL_isRightOf_10 rfl ?_
  refine xl_sub (z := rs) hx hb dL_isRightOf_11 (hrs.symm) ?_
  refine lv_lstore_n (lv' := [(2, .long (lI rs)), (0, .ref h0), (1, .int (iI x))]) hx hb dL_isRightOf_12 rfl hl (by decide) rfl (fun ls hl => ?_)
  refine lv_aload_n hx hb dL_isRightOf_13 rfl (lv_at hl 1 rfl) ?_
  refine va_get (D := (dC, dI)) (ci := 1) (v := .long (lI f)) (C := RL) (T := TL) (N := 4) hx hb hts (fun w9 h9 => List.mem_cons_of_mem _ (inL w9 h9)) hown hK hP 0 rfl rfl 1 (by decide) (hts _ (List.mem_cons_of_mem _ flL_27)) (fun _ h9 => h9) rfl dL_isRightOf_14 ?_
  refine lv_lconst (v := lI 0) hx hb dL_isRightOf_17 (by decide +kernel) ?_
  refine xl_eq (tgt := 31) hx hb dL_isRightOf_18 dL_isRightOf_19 (by decide) (by omega) (by omega) (fun c_18 => ?_) (fun c_18 => ?_)
  · skip
    have cut_42_1 : ∀ (v : Bool) (ls : Array Slot), (v = rgt rs f u) → lv_has ls 4 [(2, .long (lI rs)), (0, .ref h0), (1, .int (iI x))] → W p l e R s m args below meth c H locs 0 0 Q (F0 m 42 ls [.int (iI (bz v))]) := by
      intro v ls hv hl
      subst hQ
      exact W.zret (v := (iI (bz v))) hx hb hr (xi_narZ2 _) (fun t9 ht9 hW9 => ⟨_, rfl, (by rw [hv, hrs]), ht9.trans hH⟩) (by rw [hlo]; intro q9 h9; cases h9) dL_isRightOf_42
    refine lv_lload_n hx hb dL_isRightOf_31 rfl (lv_at hl 0 rfl) ?_
    refine lv_lconst (v := lI 0) hx hb dL_isRightOf_32 (by decide +kernel) ?_
    refine xl_le (tgt := 41) hx hb dL_isRightOf_33 dL_isRightOf_34 (by decide) (by omega) (by omega) (fun c_33 => ?_) (fun c_33 => ?_)
    · skip
      refine xi_iconst hx hb dL_isRightOf_41 ?_
      exact cut_42_1 false _ (by unfold rgt; rw [if_pos (by omega), decide_eq_false (by omega)]) (lv_sub hl [0, 1, 2] rfl)
    · skip
      refine xi_iconst hx hb dL_isRightOf_37 ?_
      refine lv_goto (tgt := 42) hx hb dL_isRightOf_38 (by decide) ?_
      exact cut_42_1 true _ (by unfold rgt; rw [if_pos (by omega), decide_eq_true (by omega)]) (lv_sub hl [0, 1, 2] rfl)
  · skip
    refine lv_aload_n hx hb dL_isRightOf_22 rfl (lv_at hl 1 rfl) ?_
    refine va_get (D := (dC, dI)) (ci := 1) (v := .long (lI u)) (C := RL) (T := TL) (N := 4) hx hb hts (fun w9 h9 => List.mem_cons_of_mem _ (inL w9 h9)) hown hK hP 0 rfl rfl 2 (by decide) (hts _ (List.mem_cons_of_mem _ flL_33)) (fun _ h9 => h9) rfl dL_isRightOf_23 ?_
    refine lv_lconst (v := lI 0) hx hb dL_isRightOf_26 (by decide +kernel) ?_
    refine xl_gt (tgt := 43) hx hb dL_isRightOf_27 dL_isRightOf_28 (by decide) (by omega) (by omega) (fun c_27 => ?_) (fun c_27 => ?_)
    · skip
      refine lv_aload_n hx hb dL_isRightOf_43 rfl (lv_at hl 1 rfl) ?_
      refine va_get (D := (dC, dI)) (ci := 1) (v := .long (lI f)) (C := RL) (T := TL) (N := 4) hx hb hts (fun w9 h9 => List.mem_cons_of_mem _ (inL w9 h9)) hown hK hP 0 rfl rfl 1 (by decide) (hts _ (List.mem_cons_of_mem _ flL_27)) (fun _ h9 => h9) rfl dL_isRightOf_44 ?_
      refine lv_lconst (v := lI 0) hx hb dL_isRightOf_47 (by decide +kernel) ?_
      refine xl_le (tgt := 79) hx hb dL_isRightOf_48 dL_isRightOf_49 (by decide) (by omega) (by omega) (fun c_48 => ?_) (fun c_48 => ?_)
      · skip
        have cut_105_2 : ∀ (v : Bool) (ls : Array Slot), (v = rgt rs f u) → lv_has ls 4 [(2, .long (lI rs)), (0, .ref h0), (1, .int (iI x))] → W p l e R s m args below meth c H locs 0 0 Q (F0 m 105 ls [.int (iI (bz v))]) := by
          intro v ls hv hl
          subst hQ
          exact W.zret (v := (iI (bz v))) hx hb hr (xi_narZ2 _) (fun t9 ht9 hW9 => ⟨_, rfl, (by rw [hv, hrs]), ht9.trans hH⟩) (by rw [hlo]; intro q9 h9; cases h9) dL_isRightOf_105
        refine lv_lload_n hx hb dL_isRightOf_79 rfl (lv_at hl 0 rfl) ?_
        refine lv_lconst (v := lI 0) hx hb dL_isRightOf_80 (by decide +kernel) ?_
        refine xl_le (tgt := 104) hx hb dL_isRightOf_81 dL_isRightOf_82 (by decide) (by omega) (by omega) (fun c_81 => ?_) (fun c_81 => ?_)
        · skip
          refine xi_iconst hx hb dL_isRightOf_104 ?_
          exact cut_105_2 false _ (by unfold rgt; rw [if_neg (by omega), if_neg (by omega), decide_eq_false (by omega)]) (lv_sub hl [0, 1, 2] rfl)
        · skip
          refine lv_aload_n hx hb dL_isRightOf_85 rfl (lv_at hl 1 rfl) ?_
          refine lv_lload_n hx hb dL_isRightOf_86 rfl (lv_at hl 0 rfl) ?_
          refine lv_aload_n hx hb dL_isRightOf_87 rfl (lv_at hl 1 rfl) ?_
          refine va_get (D := (dC, dI)) (ci := 1) (v := .long (lI f)) (C := RL) (T := TL) (N := 4) hx hb hts (fun w9 h9 => List.mem_cons_of_mem _ (inL w9 h9)) hown hK hP 0 rfl rfl 1 (by decide) (hts _ (List.mem_cons_of_mem _ flL_27)) (fun _ h9 => h9) rfl dL_isRightOf_88 ?_
          refine xl_neg (z := -f) hx hb dL_isRightOf_91 rfl ?_
          refine vp_callSl (W.runV (As := [.long (lI rs), .long (lI (-f))]) (rest := []) ⟨hx, hb, hml, hown, hts⟩ (l_compareToRoot l dC dI h0 w f u sc (rs) (-f) (by omega) (by omega) (by omega)) (cwV 2 hts (tb_V mlL_55 imL_compareToRoot seL_compareToRoot iniL coL_compareToRoot) rfl rfl rfl (by decide +kernel) (by subst hR; exact ⟨Nat.le_of_ble_eq_true rfl, Nat.le_of_ble_eq_true rfl⟩)) ⟨fun a9 U9 g9 mk9 q9 => by obtain ⟨q0, qP, qK⟩ := q9; exact ⟨q0, qP, va_K.moved (u := U9) (U := U9.calling g9 mk9 a9) (Vm.Alike.refl U9.vm) qK⟩, va_recv hK hP (ci := 1) (q0 := 0) rfl rfl, fun U hU hW => ⟨rfl, by rw [hU]; exact hP, va_K.moved hW.alike hK⟩⟩ rfl rfl hl.1 rfl (lv_room (Nat.le_of_ble_eq_true rfl)) dL_isRightOf_92 ⟨by subst hR; exact Nat.zero_le _, by subst hR; exact Nat.zero_le _⟩) (fun r_92 hw_92 => ?_)
          obtain ⟨cv, hcv⟩ : ∃ z, z = crv u (rs) (-f) := ⟨_, rfl⟩
          have h8 := crv_sign (u := u) (n := rs) (t := -f) (by omega) (by omega) (by omega) (by omega)
          rw [← hcv] at h8
          have h7 : (-f) * (-f) = f * f := Int.neg_mul_neg _ _
          rw [h7] at h8
          have b8 : -9223372036854775808 ≤ cv ∧ cv ≤ 9223372036854775807 := by rw [hcv]; exact crv_bd (by omega) (by omega) (by omega) (by omega)
          refine xi_top (y := .long (lI cv)) (by rw [hw_92, hcv]) ?_
          refine lv_lconst (v := lI 0) hx hb dL_isRightOf_95 (by decide +kernel) ?_
          refine xl_le (tgt := 104) hx hb dL_isRightOf_96 dL_isRightOf_97 (by decide) (by omega) (by omega) (fun c_96 => ?_) (fun c_96 => ?_)
          · skip
            refine xi_iconst hx hb dL_isRightOf_104 ?_
            exact cut_105_2 false _ (by unfold rgt; rw [if_neg (by omega), if_neg (by omega), decide_eq_false (by omega)]) (lv_sub hl [0, 1, 2] rfl)
          · skip
            refine xi_iconst hx hb dL_isRightOf_100 ?_
            refine lv_goto (tgt := 105) hx hb dL_isRightOf_101 (by decide) ?_
            exact cut_105_2 true _ (by unfold rgt; rw [if_neg (by omega), if_neg (by omega), decide_eq_true (by omega)]) (lv_sub hl [0, 1, 2] rfl)
      · skip
        have cut_78_3 : ∀ (v : Bool) (ls : Array Slot), (v = rgt rs f u) → lv_has ls 4 [(2, .long (lI rs)), (0, .ref h0), (1, .int (iI x))] → W p l e R s m args below meth c H locs 0 0 Q (F0 m 78 ls [.int (iI (bz v))]) := by
          intro v ls hv hl
          subst hQ
          exact W.zret (v := (iI (bz v))) hx hb hr (xi_narZ2 _) (fun t9 ht9 hW9 => ⟨_, rfl, (by rw [hv, hrs]), ht9.trans hH⟩) (by rw [hlo]; intro q9 h9; cases h9) dL_isRightOf_78
        refine lv_lload_n hx hb dL_isRightOf_52 rfl (lv_at hl 0 rfl) ?_
        refine lv_lconst (v := lI 0) hx hb dL_isRightOf_53 (by decide +kernel) ?_
        refine xl_ge (tgt := 73) hx hb dL_isRightOf_54 dL_isRightOf_55 (by decide) (by omega) (by omega) (fun c_54 => ?_) (fun c_54 => ?_)
        · skip
          refine xi_iconst hx hb dL_isRightOf_73 ?_
          refine lv_goto (tgt := 78) hx hb dL_isRightOf_74 (by decide) ?_
          exact cut_78_3 true _ (by unfold rgt; rw [if_neg (by omega), if_pos (by omega), decide_eq_true (by omega)]) (lv_sub hl [0, 1, 2] rfl)
        · skip
          refine lv_aload_n hx hb dL_isRightOf_58 rfl (lv_at hl 1 rfl) ?_
          refine lv_lload_n hx hb dL_isRightOf_59 rfl (lv_at hl 0 rfl) ?_
          refine xl_neg (z := -rs) hx hb dL_isRightOf_60 rfl ?_
          refine lv_aload_n hx hb dL_isRightOf_61 rfl (lv_at hl 1 rfl) ?_
          refine va_get (D := (dC, dI)) (ci := 1) (v := .long (lI f)) (C := RL) (T := TL) (N := 4) hx hb hts (fun w9 h9 => List.mem_cons_of_mem _ (inL w9 h9)) hown hK hP 0 rfl rfl 1 (by decide) (hts _ (List.mem_cons_of_mem _ flL_27)) (fun _ h9 => h9) rfl dL_isRightOf_62 ?_
          refine vp_callSl (W.runV (As := [.long (lI (-rs)), .long (lI f)]) (rest := []) ⟨hx, hb, hml, hown, hts⟩ (l_compareToRoot l dC dI h0 w f u sc (-rs) (f) (by omega) (by omega) (by omega)) (cwV 2 hts (tb_V mlL_55 imL_compareToRoot seL_compareToRoot iniL coL_compareToRoot) rfl rfl rfl (by decide +kernel) (by subst hR; exact ⟨Nat.le_of_ble_eq_true rfl, Nat.le_of_ble_eq_true rfl⟩)) ⟨fun a9 U9 g9 mk9 q9 => by obtain ⟨q0, qP, qK⟩ := q9; exact ⟨q0, qP, va_K.moved (u := U9) (U := U9.calling g9 mk9 a9) (Vm.Alike.refl U9.vm) qK⟩, va_recv hK hP (ci := 1) (q0 := 0) rfl rfl, fun U hU hW => ⟨rfl, by rw [hU]; exact hP, va_K.moved hW.alike hK⟩⟩ rfl rfl hl.1 rfl (lv_room (Nat.le_of_ble_eq_true rfl)) dL_isRightOf_65 ⟨by subst hR; exact Nat.zero_le _, by subst hR; exact Nat.zero_le _⟩) (fun r_65 hw_65 => ?_)
          obtain ⟨cv, hcv⟩ : ∃ z, z = crv u (-rs) (f) := ⟨_, rfl⟩
          have h8 := crv_sign (u := u) (n := -rs) (t := f) (by omega) (by omega) (by omega) (by omega)
          rw [← hcv] at h8
          have h7 : (-rs) * (-rs) = rs * rs := Int.neg_mul_neg _ _
          rw [h7] at h8
          have b8 : -9223372036854775808 ≤ cv ∧ cv ≤ 9223372036854775807 := by rw [hcv]; exact crv_bd (by omega) (by omega) (by omega) (by omega)
          refine xi_top (y := .long (lI cv)) (by rw [hw_65, hcv]) ?_
          refine lv_lconst (v := lI 0) hx hb dL_isRightOf_68 (by decide +kernel) ?_
          refine xl_ge (tgt := 77) hx hb dL_isRightOf_69 dL_isRightOf_70 (by decide) (by omega) (by omega) (fun c_69 => ?_) (fun c_69 => ?_)
          · skip
            refine xi_iconst hx hb dL_isRightOf_77 ?_
            exact cut_78_3 false _ (by unfold rgt; rw [if_neg (by omega), if_pos (by omega), decide_eq_false (by omega)]) (lv_sub hl [0, 1, 2] rfl)
          · skip
            refine xi_iconst hx hb dL_isRightOf_73 ?_
            refine lv_goto (tgt := 78) hx hb dL_isRightOf_74 (by decide) ?_
            exact cut_78_3 true _ (by unfold rgt; rw [if_neg (by omega), if_pos (by omega), decide_eq_true (by omega)]) (lv_sub hl [0, 1, 2] rfl)
    · skip
      have cut_42_4 : ∀ (v : Bool) (ls : Array Slot), (v = rgt rs f u) → lv_has ls 4 [(2, .long (lI rs)), (0, .ref h0), (1, .int (iI x))] → W p l e R s m args below meth c H locs 0 0 Q (F0 m 42 ls [.int (iI (bz v))]) := by
        intro v ls hv hl
        subst hQ
        exact W.zret (v := (iI (bz v))) hx hb hr (xi_narZ2 _) (fun t9 ht9 hW9 => ⟨_, rfl, (by rw [hv, hrs]), ht9.trans hH⟩) (by rw [hlo]; intro q9 h9; cases h9) dL_isRightOf_42
      refine lv_lload_n hx hb dL_isRightOf_31 rfl (lv_at hl 0 rfl) ?_
      refine lv_lconst (v := lI 0) hx hb dL_isRightOf_32 (by decide +kernel) ?_
      refine xl_le (tgt := 41) hx hb dL_isRightOf_33 dL_isRightOf_34 (by decide) (by omega) (by omega) (fun c_33 => ?_) (fun c_33 => ?_)
      · skip
        refine xi_iconst hx hb dL_isRightOf_41 ?_
        exact cut_42_4 false _ (by unfold rgt; rw [if_pos (by omega), decide_eq_false (by omega)]) (lv_sub hl [0, 1, 2] rfl)
      · skip
        refine xi_iconst hx hb dL_isRightOf_37 ?_
        refine lv_goto (tgt := 42) hx hb dL_isRightOf_38 (by decide) ?_
        exact cut_42_4 true _ (by unfold rgt; rw [if_pos (by omega), decide_eq_true (by omega)]) (lv_sub hl [0, 1, 2] rfl)
/-- the points first + step * i that a place is to the right of come first, and there are k of them -/
def ptl (w f u sc fi sp mn k : Int) : Prop := 0 ≤ k ∧ k ≤ mn ∧ (∀ i : Int, 0 ≤ i → i < k → rgt (w - sc * (fi + sp * i)) f u = true) ∧ (k < mn → rgt (w - sc * (fi + sp * k)) f u = false)
def pow7 (m : Int) : Prop := m = 64 ∨ m = 32 ∨ m = 16 ∨ m = 8 ∨ m = 4 ∨ m = 2 ∨ m = 1 ∨ m = 0
def bd2 (m : Int) : Int := if m = 0 then 1 else 2 * m
theorem pow7_h {m : Int} (h : pow7 m) (h0 : 0 < m) : pow7 (m / 2) ∧ bd2 (m / 2) = m ∧ bd2 m = 2 * m ∧ 0 ≤ m / 2 ∧ m / 2 < m ∧ m ≤ 64 := by
  rcases h with h | h | h | h | h | h | h | h <;> subst h <;> first | omega | (refine ⟨?_, by decide, by decide, by decide, by decide, by decide⟩; unfold pow7; decide)
theorem rgt_pts {w f u sc fi sp i j : Int} (hs : 0 ≤ sc) (hp : 0 ≤ sp) (hij : i ≤ j) (h : rgt (w - sc * (fi + sp * j)) f u = true) : rgt (w - sc * (fi + sp * i)) f u = true := by
  refine rgt_mono ?_ h
  have h1 : sp * i ≤ sp * j := Int.mul_le_mul_of_nonneg_left hij hp
  have h2 : sc * (fi + sp * i) ≤ sc * (fi + sp * j) := Int.mul_le_mul_of_nonneg_left (by omega) hs
  omega
theorem ptl_end {w f u sc fi sp mn lf mo : Int} (i1 : 0 ≤ lf ∧ lf ≤ mn) (h0 : mo = 0) (i3 : ∀ i : Int, 0 ≤ i → i < lf → rgt (w - sc * (fi + sp * i)) f u = true) (i4 : mn < lf + bd2 mo ∨ rgt (w - sc * (fi + sp * (lf + bd2 mo - 1))) f u = false) : ptl w f u sc fi sp mn lf := by
  subst h0
  have h1 : bd2 0 = 1 := rfl
  rw [h1] at i4
  refine ⟨i1.1, i1.2, i3, fun h => ?_⟩
  rcases i4 with h7 | h7
  · omega
  · rw [show lf + 1 - 1 = lf by omega] at h7; exact h7
set_option maxHeartbeats 4000000 in
set_option maxRecDepth 100000 in
/-- pointsLeft -/
theorem l_pointsLeft (l : Launch) (dC : Nat → ClassId) (dI : Nat → Nat → Nat) (h0 : Nat) (w f u sc : Int) (fi sp mn : Int) (hu : -1152921504606846976 ≤ u ∧ u < 1073741824) (hf : -2147483647 ≤ f ∧ f ≤ 2147483647) (hw : -1125899906842624 ≤ w ∧ w ≤ 1125899906842624) (hs : 0 ≤ sc ∧ sc ≤ 2147483647) (hfi : -16384 ≤ fi ∧ fi ≤ 16384) (hsp : 0 ≤ sp ∧ sp ≤ 64) (hmn : 0 ≤ mn ∧ mn ≤ 64) : Met l yL_pointsLeft wL_pointsLeft ({ frames := 2, cells := 0, slots := 0, locals := 53 }) (va_Pc [.ref h0, .int (iI fi), .int (iI sp), .int (iI mn)] (fun U => va_P (dC, dI) vwCl [(h0, .inr (1, [.long (lI w), .long (lI f), .long (lI u), .long (lI sc)]))] U.heap ∧ va_K (dC, dI) vwCl [] U)) (vp_Si (fun r => ∃ k : Int, r = iI k ∧ ptl w f u sc fi sp mn k)) 0 0 (fun _ => False) := by
  refine Met.ofW (cc := cL_pointsLeft) (maxL := 6) (ret := (some .int)) (by decide) rfl ?_
  intro p e s m args below meth c s₁ B hml hv
  obtain ⟨hargs, hP, hK⟩ := hv
  have hx := B.exec
  have hb := B.bytes
  have hr := B.returns
  have hts := atoms_spec (ws := wL_pointsLeft) B.pre
  have hown : s.vm.findClass RL = some m.cls := findClass_of_methodNamed B.named
  have hlocks := B.notSynchronized
  refine x_name (fun R Q H locs hR hQ hH hlo => ?_)
  rw [← hH] at hP
  refine x_entry hargs (Nat.le_of_ble_eq_true rfl) (fun ls hl => ?_)
  have hl : lv_has ls 6 [(0, .ref h0), (1, .int (iI fi)), (2, .int (iI sp)), (3, .int (iI mn))] := hl
  have hP : va_P (dC, dI) vwCl [(h0, .inr (1, [.long (lI w), .long (lI f), .long (lI u), .long (lI sc)]))] H := hP
  refine xi_iconst hx hb dL_pointsLeft_0 ?_
  refine lv_istore (lv' := [(4, .int (iI 0)), (0, .ref h0), (1, .int (iI fi)), (2, .int (iI sp)), (3, .int (iI mn))]) hx hb dL_pointsLeft_1 hl (by decide) rfl (fun ls hl => ?_)
  refine lv_bipush (v := iI 64) hx hb dL_pointsLeft_3 (by decide +kernel) ?_
  refine lv_istore (lv' := [(5, .int (iI 64)), (4, .int (iI 0)), (0, .ref h0), (1, .int (iI fi)), (2, .int (iI sp)), (3, .int (iI mn))]) hx hb dL_pointsLeft_5 hl (by decide) rfl (fun ls hl => ?_)
  have cut_7_1 : ∀ (fu_7 : Nat) (lf : Int) (mo : Int) (ls : Array Slot), mo.toNat < fu_7 → (0 ≤ lf ∧ lf ≤ mn) → (pow7 mo) → (∀ i : Int, 0 ≤ i → i < lf → rgt (w - sc * (fi + sp * i)) f u = true) → (mn < lf + bd2 mo ∨ rgt (w - sc * (fi + sp * (lf + bd2 mo - 1))) f u = false) → lv_has ls 6 [(0, .ref h0), (1, .int (iI fi)), (2, .int (iI sp)), (3, .int (iI mn)), (4, .int (iI lf)), (5, .int (iI mo))] → W p l e R s m args below meth c H locs 0 0 Q (F0 m 7 ls []) := by
    intro fu_7
    induction fu_7 with
    | zero => intro _ _ _ hm; exact absurd hm (Nat.not_lt_zero _)
    | succ fu_7 ih_7 =>
      intro lf mo ls hm i1 i2 i3 i4 hl
      have b9 : 0 ≤ mo ∧ mo ≤ 64 := by rcases i2 with h | h | h | h | h | h | h | h <;> omega
      refine lv_iload hx hb dL_pointsLeft_7 (lv_at hl 5 rfl) ?_
      refine xi_if_le (tgt := 55) hx hb dL_pointsLeft_9 (by decide) (by omega) (fun c_9 => ?_) (fun c_9 => ?_)
      · skip
        refine lv_iload hx hb dL_pointsLeft_55 (lv_at hl 4 rfl) ?_
        subst hQ
        exact W.iret (v := (iI lf)) hx hb hr (fun t9 ht9 hW9 => ⟨_, rfl, (⟨lf, rfl, ptl_end i1 (by omega) i3 i4⟩), ht9.trans hH⟩) (by rw [hlo]; intro q9 h9; cases h9) dL_pointsLeft_57
      · skip
        have h9 := pow7_h i2 (by omega)
        refine lv_iload hx hb dL_pointsLeft_12 (lv_at hl 4 rfl) ?_
        refine lv_iload hx hb dL_pointsLeft_14 (lv_at hl 5 rfl) ?_
        refine xi_add (z := lf + mo) hx hb dL_pointsLeft_16 rfl ?_
        refine lv_iload_n hx hb dL_pointsLeft_17 rfl (lv_at hl 3 rfl) ?_
        refine xi_icmp_gt (tgt := 46) hx hb dL_pointsLeft_18 (by decide) (by omega) (by omega) (fun c_18 => ?_) (fun c_18 => ?_)
        · skip
          refine lv_iload hx hb dL_pointsLeft_46 (lv_at hl 5 rfl) ?_
          refine xi_iconst hx hb dL_pointsLeft_48 ?_
          refine xi_div (z := mo / 2) hx hb dL_pointsLeft_49 (by omega) (by omega) rfl ?_
          refine lv_istore (lv' := [(5, .int (iI (mo / 2))), (0, .ref h0), (1, .int (iI fi)), (2, .int (iI sp)), (3, .int (iI mn)), (4, .int (iI lf))]) hx hb dL_pointsLeft_50 hl (by decide) rfl (fun ls hl => ?_)
          refine lv_goto (tgt := 7) hx hb dL_pointsLeft_52 (by decide) ?_
          exact ih_7 lf (mo / 2) _ (by omega) (by omega) (h9.1) (i3) (by rw [h9.2.1]; exact Or.inl (by omega)) (lv_sub hl [1, 2, 3, 4, 5, 0] rfl)
        · skip
          have b1 := mul_bd 64 64 (a := sp) (b := lf + mo - 1) (by omega) (by omega)
          refine lv_aload_n hx hb dL_pointsLeft_21 rfl (lv_at hl 0 rfl) ?_
          refine lv_iload_n hx hb dL_pointsLeft_22 rfl (lv_at hl 1 rfl) ?_
          refine lv_iload_n hx hb dL_pointsLeft_23 rfl (lv_at hl 2 rfl) ?_
          refine lv_iload hx hb dL_pointsLeft_24 (lv_at hl 4 rfl) ?_
          refine lv_iload hx hb dL_pointsLeft_26 (lv_at hl 5 rfl) ?_
          refine xi_add (z := lf + mo) hx hb dL_pointsLeft_28 rfl ?_
          refine xi_iconst hx hb dL_pointsLeft_29 ?_
          refine xi_sub (z := lf + mo - 1) hx hb dL_pointsLeft_30 rfl ?_
          refine xi_mul (z := sp * (lf + mo - 1)) hx hb dL_pointsLeft_31 rfl ?_
          refine xi_add (z := fi + sp * (lf + mo - 1)) hx hb dL_pointsLeft_32 rfl ?_
          refine vp_callSi (W.runV (As := [.int (iI (fi + sp * (lf + mo - 1)))]) (rest := []) ⟨hx, hb, hml, hown, hts⟩ (l_isRightOf l dC dI h0 w f u sc (fi + sp * (lf + mo - 1)) hu hf hw hs (by omega)) (cwV 1 hts (tb_V mlL_51 imL_isRightOf seL_isRightOf iniL coL_isRightOf) rfl rfl rfl (by decide +kernel) (by subst hR; exact ⟨Nat.le_of_ble_eq_true rfl, Nat.le_of_ble_eq_true rfl⟩)) ⟨fun a9 U9 g9 mk9 q9 => by obtain ⟨q0, qP, qK⟩ := q9; exact ⟨q0, qP, va_K.moved (u := U9) (U := U9.calling g9 mk9 a9) (Vm.Alike.refl U9.vm) qK⟩, va_recv hK hP (ci := 1) (q0 := 0) rfl rfl, fun U hU hW => ⟨rfl, by rw [hU]; exact hP, va_K.moved hW.alike hK⟩⟩ rfl rfl hl.1 rfl (lv_room (Nat.le_of_ble_eq_true rfl)) dL_pointsLeft_33 ⟨by subst hR; exact Nat.zero_le _, by subst hR; exact Nat.zero_le _⟩) (fun r_33 hw_33 => ?_)
          subst hw_33
          refine xb_if_eq (tgt := 46) hx hb dL_pointsLeft_36 (by decide) (fun c_36 => ?_) (fun c_36 => ?_)
          · skip
            refine lv_iload hx hb dL_pointsLeft_46 (lv_at hl 5 rfl) ?_
            refine xi_iconst hx hb dL_pointsLeft_48 ?_
            refine xi_div (z := mo / 2) hx hb dL_pointsLeft_49 (by omega) (by omega) rfl ?_
            refine lv_istore (lv' := [(5, .int (iI (mo / 2))), (0, .ref h0), (1, .int (iI fi)), (2, .int (iI sp)), (3, .int (iI mn)), (4, .int (iI lf))]) hx hb dL_pointsLeft_50 hl (by decide) rfl (fun ls hl => ?_)
            refine lv_goto (tgt := 7) hx hb dL_pointsLeft_52 (by decide) ?_
            exact ih_7 lf (mo / 2) _ (by omega) (by omega) (h9.1) (i3) (by rw [h9.2.1]; exact Or.inr c_36) (lv_sub hl [1, 2, 3, 4, 5, 0] rfl)
          · skip
            refine lv_iload hx hb dL_pointsLeft_39 (lv_at hl 4 rfl) ?_
            refine lv_iload hx hb dL_pointsLeft_41 (lv_at hl 5 rfl) ?_
            refine xi_add (z := lf + mo) hx hb dL_pointsLeft_43 rfl ?_
            refine lv_istore (lv' := [(4, .int (iI (lf + mo))), (0, .ref h0), (1, .int (iI fi)), (2, .int (iI sp)), (3, .int (iI mn)), (5, .int (iI mo))]) hx hb dL_pointsLeft_44 hl (by decide) rfl (fun ls hl => ?_)
            refine lv_iload hx hb dL_pointsLeft_46 (lv_at hl 5 rfl) ?_
            refine xi_iconst hx hb dL_pointsLeft_48 ?_
            refine xi_div (z := mo / 2) hx hb dL_pointsLeft_49 (by omega) (by omega) rfl ?_
            refine lv_istore (lv' := [(5, .int (iI (mo / 2))), (4, .int (iI (lf + mo))), (0, .ref h0), (1, .int (iI fi)), (2, .int (iI sp)), (3, .int (iI mn))]) hx hb dL_pointsLeft_50 hl (by decide) rfl (fun ls hl => ?_)
            refine lv_goto (tgt := 7) hx hb dL_pointsLeft_52 (by decide) ?_
            exact ih_7 (lf + mo) (mo / 2) _ (by omega) (by omega) (h9.1) (fun i h1 h2 => rgt_pts hs.1 hsp.1 (by omega) c_36) (by rw [h9.2.1]; rcases i4 with h | h; exact Or.inl (by omega); right; rw [h9.2.2.1] at h; rw [show lf + mo + mo - 1 = lf + 2 * mo - 1 by omega]; exact h) (lv_sub hl [2, 3, 4, 5, 1, 0] rfl)
  exact cut_7_1 (((64 : Int).toNat) + 1) 0 64 _ (Nat.lt_succ_self _) (by omega) (Or.inl rfl) (fun i h1 h2 => by omega) (Or.inl (by unfold bd2; rw [if_neg (by decide)]; omega)) (lv_sub hl [2, 3, 4, 5, 1, 0] rfl)
set_option maxHeartbeats 4000000 in
set_option maxRecDepth 100000 in
/-- take -/
theorem l_take (l : Launch) (dC : Nat → ClassId) (dI : Nat → Nat → Nat) (sz : Nat) (h0 h1 : Nat) (w f un sc : Int) (ln : Bool) (sx ox sy oy px py qx qy rx ry : Int) (y : Int) (up : Bool) (b1 : -32768 ≤ sx ∧ sx ≤ 32768) (b2 : -32768 ≤ ox ∧ ox ≤ 32768) (b3 : -32768 ≤ sy ∧ sy ≤ 32768) (b4 : -32768 ≤ oy ∧ oy ≤ 32768) (b5 : -8192 ≤ px ∧ px ≤ 8192) (b6 : -8192 ≤ py ∧ py ≤ 8192) (b7 : -16384 ≤ y ∧ y ≤ 16384) : Met l yL_take wL_take ({ frames := 1, cells := 0, slots := 0, locals := 21 }) (va_Pc [.ref h0, .ref h1, .int (iI y), .int (iI (bz up))] (fun U => U.heap.size = sz ∧ va_P (dC, dI) vwCl [(h0, .inr (1, [.long (lI w), .long (lI f), .long (lI un), .long (lI sc)])), (h1, .inr (0, [.int (iI (bz ln)), .int (iI sx), .int (iI ox), .int (iI sy), .int (iI oy), .int (iI px), .int (iI py), .int (iI qx), .int (iI qy), .int (iI rx), .int (iI ry)]))] U.heap ∧ va_K (dC, dI) vwCl [] U ∧ va_D (fun _ => True) [(h0, .inr (1, [.long (lI w), .long (lI f), .long (lI un), .long (lI sc)])), (h1, .inr (0, [.int (iI (bz ln)), .int (iI sx), .int (iI ox), .int (iI sy), .int (iI oy), .int (iI px), .int (iI py), .int (iI qx), .int (iI qy), .int (iI rx), .int (iI ry)]))])) (va_Qv (fun (u : Int × Int × Int × Int) => u.1 = tkW sx ox sy oy px py y ∧ u.2.1 = tkF sx ox sy oy up ∧ u.2.2.1 = tkU sy oy py y ∧ u.2.2.2 = tkS sy oy) (fun (u : Int × Int × Int × Int) t9 => va_P (dC, dI) vwCl [(h0, .inr (1, [.long (lI u.1), .long (lI u.2.1), .long (lI u.2.2.1), .long (lI u.2.2.2)])), (h1, .inr (0, [.int (iI (bz ln)), .int (iI sx), .int (iI ox), .int (iI sy), .int (iI oy), .int (iI px), .int (iI py), .int (iI qx), .int (iI qy), .int (iI rx), .int (iI ry)]))] t9.heap ∧ va_K (dC, dI) vwCl [] t9 ∧ va_D (va_A [(h0, .inr (1, [.long (lI w), .long (lI f), .long (lI un), .long (lI sc)])), (h1, .inr (0, [.int (iI (bz ln)), .int (iI sx), .int (iI ox), .int (iI sy), .int (iI oy), .int (iI px), .int (iI py), .int (iI qx), .int (iI qy), .int (iI rx), .int (iI ry)]))] sz) [(h0, .inr (1, [.long (lI u.1), .long (lI u.2.1), .long (lI u.2.2.1), .long (lI u.2.2.2)])), (h1, .inr (0, [.int (iI (bz ln)), .int (iI sx), .int (iI ox), .int (iI sy), .int (iI oy), .int (iI px), .int (iI py), .int (iI qx), .int (iI qy), .int (iI rx), .int (iI ry)]))]) (va_A [(h0, .inr (1, [.long (lI w), .long (lI f), .long (lI un), .long (lI sc)])), (h1, .inr (0, [.int (iI (bz ln)), .int (iI sx), .int (iI ox), .int (iI sy), .int (iI oy), .int (iI px), .int (iI py), .int (iI qx), .int (iI qy), .int (iI rx), .int (iI ry)]))] sz)) 0 0 (va_A [(h0, .inr (1, [.long (lI w), .long (lI f), .long (lI un), .long (lI sc)])), (h1, .inr (0, [.int (iI (bz ln)), .int (iI sx), .int (iI ox), .int (iI sy), .int (iI oy), .int (iI px), .int (iI py), .int (iI qx), .int (iI qy), .int (iI rx), .int (iI ry)]))] sz) := by
  refine Met.ofW (cc := cL_take) (maxL := 16) (ret := none) (by decide) rfl ?_
  intro p e s m args below meth c s₁ B hml hv
  obtain ⟨hargs, hsz, hP, hK, hD0⟩ := hv
  have hx := B.exec
  have hb := B.bytes
  have hr := B.returns
  have hts := atoms_spec (ws := wL_take) B.pre
  have hown : s.vm.findClass RL = some m.cls := findClass_of_methodNamed B.named
  have hlocks := B.notSynchronized
  subst hsz
  have hD := hD0.self (sz := s.heap.size)
  generalize hAe : va_A [(h0, .inr (1, [.long (lI w), .long (lI f), .long (lI un), .long (lI sc)])), (h1, .inr (0, [.int (iI (bz ln)), .int (iI sx), .int (iI ox), .int (iI sy), .int (iI oy), .int (iI px), .int (iI py), .int (iI qx), .int (iI qy), .int (iI rx), .int (iI ry)]))] s.heap.size = A at hD ⊢
  have hA : ∀ q : Nat, s.heap.size ≤ q → A q := fun q h => by rw [← hAe]; exact Or.inr h
  have hS0 : va_S A s.heap s.heap [] := va_S.rf
  refine x_name (fun R Q H locs hR hQ hH hlo => ?_)
  rw [← hH] at hP
  have hS : va_S A s.heap H locs := by rw [hH, hlo]; exact hS0
  refine x_entry hargs (Nat.le_of_ble_eq_true rfl) (fun ls hl => ?_)
  have hl : lv_has ls 16 [(0, .ref h0), (1, .ref h1), (2, .int (iI y)), (3, .int (iI (bz up)))] := hl
  have hP : va_P (dC, dI) vwCl [(h0, .inr (1, [.long (lI w), .long (lI f), .long (lI un), .long (lI sc)])), (h1, .inr (0, [.int (iI (bz ln)), .int (iI sx), .int (iI ox), .int (iI sy), .int (iI oy), .int (iI px), .int (iI py), .int (iI qx), .int (iI qy), .int (iI rx), .int (iI ry)]))] H := hP
  refine lv_aload_n hx hb dL_take_0 rfl (lv_at hl 1 rfl) ?_
  refine va_get (D := (dC, dI)) (ci := 0) (v := .int (iI sx)) (C := RP) (T := TP) (N := 11) hx hb hts (fun w9 h9 => List.mem_cons_of_mem _ (inP w9 h9)) hown hK hP 1 rfl rfl 1 (by decide) (hts _ (List.mem_cons_of_mem _ flL_9)) (fun _ h9 => h9) rfl dL_take_1 ?_
  refine xl_i2l hx hb dL_take_4 (by omega) ?_
  refine lv_lstore (lv' := [(4, .long (lI sx)), (0, .ref h0), (1, .ref h1), (2, .int (iI y)), (3, .int (iI (bz up)))]) hx hb dL_take_5 hl (by decide) rfl (fun ls hl => ?_)
  refine lv_aload_n hx hb dL_take_7 rfl (lv_at hl 2 rfl) ?_
  refine va_get (D := (dC, dI)) (ci := 0) (v := .int (iI ox)) (C := RP) (T := TP) (N := 11) hx hb hts (fun w9 h9 => List.mem_cons_of_mem _ (inP w9 h9)) hown hK hP 1 rfl rfl 2 (by decide) (hts _ (List.mem_cons_of_mem _ flL_15)) (fun _ h9 => h9) rfl dL_take_8 ?_
  refine xl_i2l hx hb dL_take_11 (by omega) ?_
  refine lv_lstore (lv' := [(6, .long (lI ox)), (4, .long (lI sx)), (0, .ref h0), (1, .ref h1), (2, .int (iI y)), (3, .int (iI (bz up)))]) hx hb dL_take_12 hl (by decide) rfl (fun ls hl => ?_)
  refine lv_aload_n hx hb dL_take_14 rfl (lv_at hl 3 rfl) ?_
  refine va_get (D := (dC, dI)) (ci := 0) (v := .int (iI sy)) (C := RP) (T := TP) (N := 11) hx hb hts (fun w9 h9 => List.mem_cons_of_mem _ (inP w9 h9)) hown hK hP 1 rfl rfl 3 (by decide) (hts _ (List.mem_cons_of_mem _ flL_18)) (fun _ h9 => h9) rfl dL_take_15 ?_
  refine xl_i2l hx hb dL_take_18 (by omega) ?_
  refine lv_lstore (lv' := [(8, .long (lI sy)), (6, .long (lI ox)), (4, .long (lI sx)), (0, .ref h0), (1, .ref h1), (2, .int (iI y)), (3, .int (iI (bz up)))]) hx hb dL_take_19 hl (by decide) rfl (fun ls hl => ?_)
  refine lv_aload_n hx hb dL_take_21 rfl (lv_at hl 4 rfl) ?_
  refine va_get (D := (dC, dI)) (ci := 0) (v := .int (iI oy)) (C := RP) (T := TP) (N := 11) hx hb hts (fun w9 h9 => List.mem_cons_of_mem _ (inP w9 h9)) hown hK hP 1 rfl rfl 4 (by decide) (hts _ (List.mem_cons_of_mem _ flL_21)) (fun _ h9 => h9) rfl dL_take_22 ?_
  refine xl_i2l hx hb dL_take_25 (by omega) ?_
  refine lv_lstore (lv' := [(10, .long (lI oy)), (8, .long (lI sy)), (6, .long (lI ox)), (4, .long (lI sx)), (0, .ref h0), (1, .ref h1), (2, .int (iI y)), (3, .int (iI (bz up)))]) hx hb dL_take_26 hl (by decide) rfl (fun ls hl => ?_)
  refine lv_aload_n hx hb dL_take_28 rfl (lv_at hl 5 rfl) ?_
  refine va_get (D := (dC, dI)) (ci := 0) (v := .int (iI py)) (C := RP) (T := TP) (N := 11) hx hb hts (fun w9 h9 => List.mem_cons_of_mem _ (inP w9 h9)) hown hK hP 1 rfl rfl 6 (by decide) (hts _ (List.mem_cons_of_mem _ flL_24)) (fun _ h9 => h9) rfl dL_take_29 ?_
  refine lv_iload_n hx hb dL_take_32 rfl (lv_at hl 6 rfl) ?_
  refine xi_sub (z := py - y) hx hb dL_take_33 rfl ?_
  refine xl_i2l hx hb dL_take_34 (by omega) ?_
  refine lv_lstore (lv' := [(12, .long (lI (py - y))), (10, .long (lI oy)), (8, .long (lI sy)), (6, .long (lI ox)), (4, .long (lI sx)), (0, .ref h0), (1, .ref h1), (2, .int (iI y)), (3, .int (iI (bz up)))]) hx hb dL_take_35 hl (by decide) rfl (fun ls hl => ?_)
  refine lv_lload hx hb dL_take_37 (lv_at hl 2 rfl) ?_
  refine lv_lconst (v := lI 0) hx hb dL_take_39 (by decide +kernel) ?_
  refine xl_ne (tgt := 98) hx hb dL_take_40 dL_take_41 (by decide) (by omega) (by omega) (fun c_40 => ?_) (fun c_40 => ?_)
  · skip
    refine lv_lload hx hb dL_take_98 (lv_at hl 2 rfl) ?_
    refine lv_lload hx hb dL_take_100 (lv_at hl 3 rfl) ?_
    refine xl_mul (z := sy * ox) hx hb dL_take_102 rfl ?_
    refine lv_lload hx hb dL_take_103 (lv_at hl 4 rfl) ?_
    refine lv_lload hx hb dL_take_105 (lv_at hl 1 rfl) ?_
    refine xl_mul (z := sx * oy) hx hb dL_take_107 rfl ?_
    refine xl_sub (z := sy * ox - sx * oy) hx hb dL_take_108 rfl ?_
    refine lv_lstore (lv' := [(14, .long (lI (sy * ox - sx * oy))), (12, .long (lI (py - y))), (10, .long (lI oy)), (8, .long (lI sy)), (6, .long (lI ox)), (4, .long (lI sx)), (0, .ref h0), (1, .ref h1), (2, .int (iI y)), (3, .int (iI (bz up)))]) hx hb dL_take_109 hl (by decide) rfl (fun ls hl => ?_)
    refine lv_aload_n hx hb dL_take_111 rfl (lv_at hl 6 rfl) ?_
    refine lv_iload_n hx hb dL_take_112 rfl (lv_at hl 9 rfl) ?_
    refine xb_if_eq (tgt := 121) hx hb dL_take_113 (by decide) (fun c_113 => ?_) (fun c_113 => ?_)
    · skip
      refine lv_lload hx hb dL_take_121 (lv_at hl 0 rfl) ?_
      refine xl_neg (z := -(sy * ox - sx * oy)) hx hb dL_take_123 rfl ?_
      refine va_put (D := (dC, dI)) (ci := 1) (v := .long (lI (-(sy * ox - sx * oy)))) (ty := .long) (C := RL) (T := TL) (N := 4) hx hb hts (fun w9 h9 => List.mem_cons_of_mem _ (inL w9 h9)) tyL tyL_ok nmL hown hK hP hD hS 0 rfl rfl 1 (by decide) (hts _ (List.mem_cons_of_mem _ flL_27)) (fun _ h9 => h9) rfl (by decide +kernel) rfl rfl (Nat.le_of_ble_eq_true rfl) dL_take_124 (fun H locs hP hD hS => ?_)
      have hP : va_P (dC, dI) vwCl [(h0, .inr (1, [.long (lI w), .long (lI (-(sy * ox - sx * oy))), .long (lI un), .long (lI sc)])), (h1, .inr (0, [.int (iI (bz ln)), .int (iI sx), .int (iI ox), .int (iI sy), .int (iI oy), .int (iI px), .int (iI py), .int (iI qx), .int (iI qy), .int (iI rx), .int (iI ry)]))] H := hP
      have hD : va_D A [(h0, .inr (1, [.long (lI w), .long (lI (-(sy * ox - sx * oy))), .long (lI un), .long (lI sc)])), (h1, .inr (0, [.int (iI (bz ln)), .int (iI sx), .int (iI ox), .int (iI sy), .int (iI oy), .int (iI px), .int (iI py), .int (iI qx), .int (iI qy), .int (iI rx), .int (iI ry)]))] := hD
      refine lv_aload_n hx hb dL_take_127 rfl (lv_at hl 6 rfl) ?_
      refine lv_aload_n hx hb dL_take_128 rfl (lv_at hl 7 rfl) ?_
      refine lv_iload_n hx hb dL_take_129 rfl (lv_at hl 8 rfl) ?_
      have hPc := hP.sub (ws' := [(h1, .inr (0, [.int (iI (bz ln)), .int (iI sx), .int (iI ox), .int (iI sy), .int (iI oy), .int (iI px), .int (iI py), .int (iI qx), .int (iI qy), .int (iI rx), .int (iI ry)]))]) [1] rfl
      have hKc := hK.sub (tys' := []) [] rfl
      refine vp_callSl (W.runV (As := [.int (iI y)]) (rest := [.ref h0]) ⟨hx, hb, hml, hown, hts⟩ (p_underRoot l dC dI h1 ln sx ox sy oy px py qx qy rx ry y b4 b3 b6 b7) (cwV 1 hts (tb_V mlL_45 imP_underRoot seP_underRoot iniP coP_underRoot) rfl rfl rfl (by decide +kernel) (by subst hR; exact ⟨Nat.le_of_ble_eq_true rfl, Nat.le_of_ble_eq_true rfl⟩)) ⟨fun a9 U9 g9 mk9 q9 => by obtain ⟨q0, qP, qK⟩ := q9; exact ⟨q0, qP, va_K.moved (u := U9) (U := U9.calling g9 mk9 a9) (Vm.Alike.refl U9.vm) qK⟩, va_recv hKc hPc (ci := 0) (q0 := 0) rfl rfl, fun U hU hW => ⟨rfl, by rw [hU]; exact hPc, va_K.moved hW.alike hKc⟩⟩ rfl rfl hl.1 rfl (lv_room (Nat.le_of_ble_eq_true rfl)) dL_take_130 ⟨by subst hR; exact Nat.zero_le _, by subst hR; exact Nat.zero_le _⟩) (fun r_130 hw_130 => ?_)
      subst hw_130
      refine va_put (D := (dC, dI)) (ci := 1) (v := .long (lI (oy * oy - 4 * sy * (py - y)))) (ty := .long) (C := RL) (T := TL) (N := 4) hx hb hts (fun w9 h9 => List.mem_cons_of_mem _ (inL w9 h9)) tyL tyL_ok nmL hown hK hP hD hS 0 rfl rfl 2 (by decide) (hts _ (List.mem_cons_of_mem _ flL_33)) (fun _ h9 => h9) rfl (by decide +kernel) rfl rfl (Nat.le_of_ble_eq_true rfl) dL_take_133 (fun H locs hP hD hS => ?_)
      have hP : va_P (dC, dI) vwCl [(h0, .inr (1, [.long (lI w), .long (lI (-(sy * ox - sx * oy))), .long (lI (oy * oy - 4 * sy * (py - y))), .long (lI sc)])), (h1, .inr (0, [.int (iI (bz ln)), .int (iI sx), .int (iI ox), .int (iI sy), .int (iI oy), .int (iI px), .int (iI py), .int (iI qx), .int (iI qy), .int (iI rx), .int (iI ry)]))] H := hP
      have hD : va_D A [(h0, .inr (1, [.long (lI w), .long (lI (-(sy * ox - sx * oy))), .long (lI (oy * oy - 4 * sy * (py - y))), .long (lI sc)])), (h1, .inr (0, [.int (iI (bz ln)), .int (iI sx), .int (iI ox), .int (iI sy), .int (iI oy), .int (iI px), .int (iI py), .int (iI qx), .int (iI qy), .int (iI rx), .int (iI ry)]))] := hD
      refine lv_aload_n hx hb dL_take_136 rfl (lv_at hl 6 rfl) ?_
      refine lv_ldc2 (v := 2) hx hb hown (hts _ (List.mem_cons_of_mem _ klL_49)) dL_take_137 ?_
      refine xi_top (y := .long (lI 2)) (by decide +kernel) ?_
      refine lv_lload hx hb dL_take_140 (lv_at hl 3 rfl) ?_
      refine xl_mul (z := 2 * sy) hx hb dL_take_142 rfl ?_
      refine lv_lload hx hb dL_take_143 (lv_at hl 3 rfl) ?_
      refine xl_mul (z := (2 * sy) * sy) hx hb dL_take_145 rfl ?_
      refine va_put (D := (dC, dI)) (ci := 1) (v := .long (lI ((2 * sy) * sy))) (ty := .long) (C := RL) (T := TL) (N := 4) hx hb hts (fun w9 h9 => List.mem_cons_of_mem _ (inL w9 h9)) tyL tyL_ok nmL hown hK hP hD hS 0 rfl rfl 3 (by decide) (hts _ (List.mem_cons_of_mem _ flL_36)) (fun _ h9 => h9) rfl (by decide +kernel) rfl rfl (Nat.le_of_ble_eq_true rfl) dL_take_146 (fun H locs hP hD hS => ?_)
      have hP : va_P (dC, dI) vwCl [(h0, .inr (1, [.long (lI w), .long (lI (-(sy * ox - sx * oy))), .long (lI (oy * oy - 4 * sy * (py - y))), .long (lI ((2 * sy) * sy))])), (h1, .inr (0, [.int (iI (bz ln)), .int (iI sx), .int (iI ox), .int (iI sy), .int (iI oy), .int (iI px), .int (iI py), .int (iI qx), .int (iI qy), .int (iI rx), .int (iI ry)]))] H := hP
      have hD : va_D A [(h0, .inr (1, [.long (lI w), .long (lI (-(sy * ox - sx * oy))), .long (lI (oy * oy - 4 * sy * (py - y))), .long (lI ((2 * sy) * sy))])), (h1, .inr (0, [.int (iI (bz ln)), .int (iI sx), .int (iI ox), .int (iI sy), .int (iI oy), .int (iI px), .int (iI py), .int (iI qx), .int (iI qy), .int (iI rx), .int (iI ry)]))] := hD
      refine lv_aload_n hx hb dL_take_149 rfl (lv_at hl 6 rfl) ?_
      refine lv_lload hx hb dL_take_150 (lv_at hl 0 rfl) ?_
      refine xl_neg (z := -(sy * ox - sx * oy)) hx hb dL_take_152 rfl ?_
      refine lv_lload hx hb dL_take_153 (lv_at hl 2 rfl) ?_
      refine xl_mul (z := (-(sy * ox - sx * oy)) * oy) hx hb dL_take_155 rfl ?_
      refine lv_ldc2 (v := 2) hx hb hown (hts _ (List.mem_cons_of_mem _ klL_49)) dL_take_156 ?_
      refine xi_top (y := .long (lI 2)) (by decide +kernel) ?_
      refine lv_lload hx hb dL_take_159 (lv_at hl 3 rfl) ?_
      refine xl_mul (z := 2 * sy) hx hb dL_take_161 rfl ?_
      refine lv_lload hx hb dL_take_162 (lv_at hl 5 rfl) ?_
      refine xl_mul (z := (2 * sy) * sx) hx hb dL_take_164 rfl ?_
      refine lv_lload hx hb dL_take_165 (lv_at hl 1 rfl) ?_
      refine xl_mul (z := ((2 * sy) * sx) * (py - y)) hx hb dL_take_167 rfl ?_
      refine xl_sub (z := ((-(sy * ox - sx * oy)) * oy) - (((2 * sy) * sx) * (py - y))) hx hb dL_take_168 rfl ?_
      refine lv_aload_n hx hb dL_take_169 rfl (lv_at hl 6 rfl) ?_
      refine va_get (D := (dC, dI)) (ci := 1) (v := .long (lI ((2 * sy) * sy))) (C := RL) (T := TL) (N := 4) hx hb hts (fun w9 h9 => List.mem_cons_of_mem _ (inL w9 h9)) hown hK hP 0 rfl rfl 3 (by decide) (hts _ (List.mem_cons_of_mem _ flL_36)) (fun _ h9 => h9) rfl dL_take_170 ?_
      refine lv_aload_n hx hb dL_take_173 rfl (lv_at hl 7 rfl) ?_
      refine va_get (D := (dC, dI)) (ci := 0) (v := .int (iI px)) (C := RP) (T := TP) (N := 11) hx hb hts (fun w9 h9 => List.mem_cons_of_mem _ (inP w9 h9)) hown hK hP 1 rfl rfl 5 (by decide) (hts _ (List.mem_cons_of_mem _ flL_39)) (fun _ h9 => h9) rfl dL_take_174 ?_
      refine xl_i2l hx hb dL_take_177 (by omega) ?_
      refine xl_mul (z := ((2 * sy) * sy) * px) hx hb dL_take_178 rfl ?_
      refine xl_add (z := (((-(sy * ox - sx * oy)) * oy) - (((2 * sy) * sx) * (py - y))) + (((2 * sy) * sy) * px)) hx hb dL_take_179 rfl ?_
      refine va_put (D := (dC, dI)) (ci := 1) (v := .long (lI ((((-(sy * ox - sx * oy)) * oy) - (((2 * sy) * sx) * (py - y))) + (((2 * sy) * sy) * px)))) (ty := .long) (C := RL) (T := TL) (N := 4) hx hb hts (fun w9 h9 => List.mem_cons_of_mem _ (inL w9 h9)) tyL tyL_ok nmL hown hK hP hD hS 0 rfl rfl 0 (by decide) (hts _ (List.mem_cons_of_mem _ flL_42)) (fun _ h9 => h9) rfl (by decide +kernel) rfl rfl (Nat.le_of_ble_eq_true rfl) dL_take_180 (fun H locs hP hD hS => ?_)
      have hP : va_P (dC, dI) vwCl [(h0, .inr (1, [.long (lI ((((-(sy * ox - sx * oy)) * oy) - (((2 * sy) * sx) * (py - y))) + (((2 * sy) * sy) * px))), .long (lI (-(sy * ox - sx * oy))), .long (lI (oy * oy - 4 * sy * (py - y))), .long (lI ((2 * sy) * sy))])), (h1, .inr (0, [.int (iI (bz ln)), .int (iI sx), .int (iI ox), .int (iI sy), .int (iI oy), .int (iI px), .int (iI py), .int (iI qx), .int (iI qy), .int (iI rx), .int (iI ry)]))] H := hP
      have hD : va_D A [(h0, .inr (1, [.long (lI ((((-(sy * ox - sx * oy)) * oy) - (((2 * sy) * sx) * (py - y))) + (((2 * sy) * sy) * px))), .long (lI (-(sy * ox - sx * oy))), .long (lI (oy * oy - 4 * sy * (py - y))), .long (lI ((2 * sy) * sy))])), (h1, .inr (0, [.int (iI (bz ln)), .int (iI sx), .int (iI ox), .int (iI sy), .int (iI oy), .int (iI px), .int (iI py), .int (iI qx), .int (iI qy), .int (iI rx), .int (iI ry)]))] := hD
      subst hQ
      exact W.vret hx hb hr (fun t9 ht9 hW9 => ⟨⟨((((-(sy * ox - sx * oy)) * oy) - (((2 * sy) * sx) * (py - y))) + (((2 * sy) * sy) * px), -(sy * ox - sx * oy), oy * oy - 4 * sy * (py - y), (2 * sy) * sy), rfl, (⟨by unfold tkW; rw [if_neg c_40], by unfold tkF; rw [if_neg c_40, if_neg (by rw [c_113]; decide)], by unfold tkU; rw [if_neg c_40], by unfold tkS; rw [if_neg c_40]⟩), by rw [ht9]; exact hP, va_K.moved hW9.alike hK, hD⟩, hS.F ht9⟩) hS.2.2 dL_take_183
    · skip
      refine lv_lload hx hb dL_take_116 (lv_at hl 0 rfl) ?_
      refine lv_goto (tgt := 124) hx hb dL_take_118 (by decide) ?_
      refine va_put (D := (dC, dI)) (ci := 1) (v := .long (lI (sy * ox - sx * oy))) (ty := .long) (C := RL) (T := TL) (N := 4) hx hb hts (fun w9 h9 => List.mem_cons_of_mem _ (inL w9 h9)) tyL tyL_ok nmL hown hK hP hD hS 0 rfl rfl 1 (by decide) (hts _ (List.mem_cons_of_mem _ flL_27)) (fun _ h9 => h9) rfl (by decide +kernel) rfl rfl (Nat.le_of_ble_eq_true rfl) dL_take_124 (fun H locs hP hD hS => ?_)
      have hP : va_P (dC, dI) vwCl [(h0, .inr (1, [.long (lI w), .long (lI (sy * ox - sx * oy)), .long (lI un), .long (lI sc)])), (h1, .inr (0, [.int (iI (bz ln)), .int (iI sx), .int (iI ox), .int (iI sy), .int (iI oy), .int (iI px), .int (iI py), .int (iI qx), .int (iI qy), .int (iI rx), .int (iI ry)]))] H := hP
      have hD : va_D A [(h0, .inr (1, [.long (lI w), .long (lI (sy * ox - sx * oy)), .long (lI un), .long (lI sc)])), (h1, .inr (0, [.int (iI (bz ln)), .int (iI sx), .int (iI ox), .int (iI sy), .int (iI oy), .int (iI px), .int (iI py), .int (iI qx), .int (iI qy), .int (iI rx), .int (iI ry)]))] := hD
      refine lv_aload_n hx hb dL_take_127 rfl (lv_at hl 6 rfl) ?_
      refine lv_aload_n hx hb dL_take_128 rfl (lv_at hl 7 rfl) ?_
      refine lv_iload_n hx hb dL_take_129 rfl (lv_at hl 8 rfl) ?_
      have hPc := hP.sub (ws' := [(h1, .inr (0, [.int (iI (bz ln)), .int (iI sx), .int (iI ox), .int (iI sy), .int (iI oy), .int (iI px), .int (iI py), .int (iI qx), .int (iI qy), .int (iI rx), .int (iI ry)]))]) [1] rfl
      have hKc := hK.sub (tys' := []) [] rfl
      refine vp_callSl (W.runV (As := [.int (iI y)]) (rest := [.ref h0]) ⟨hx, hb, hml, hown, hts⟩ (p_underRoot l dC dI h1 ln sx ox sy oy px py qx qy rx ry y b4 b3 b6 b7) (cwV 1 hts (tb_V mlL_45 imP_underRoot seP_underRoot iniP coP_underRoot) rfl rfl rfl (by decide +kernel) (by subst hR; exact ⟨Nat.le_of_ble_eq_true rfl, Nat.le_of_ble_eq_true rfl⟩)) ⟨fun a9 U9 g9 mk9 q9 => by obtain ⟨q0, qP, qK⟩ := q9; exact ⟨q0, qP, va_K.moved (u := U9) (U := U9.calling g9 mk9 a9) (Vm.Alike.refl U9.vm) qK⟩, va_recv hKc hPc (ci := 0) (q0 := 0) rfl rfl, fun U hU hW => ⟨rfl, by rw [hU]; exact hPc, va_K.moved hW.alike hKc⟩⟩ rfl rfl hl.1 rfl (lv_room (Nat.le_of_ble_eq_true rfl)) dL_take_130 ⟨by subst hR; exact Nat.zero_le _, by subst hR; exact Nat.zero_le _⟩) (fun r_130 hw_130 => ?_)
      subst hw_130
      refine va_put (D := (dC, dI)) (ci := 1) (v := .long (lI (oy * oy - 4 * sy * (py - y)))) (ty := .long) (C := RL) (T := TL) (N := 4) hx hb hts (fun w9 h9 => List.mem_cons_of_mem _ (inL w9 h9)) tyL tyL_ok nmL hown hK hP hD hS 0 rfl rfl 2 (by decide) (hts _ (List.mem_cons_of_mem _ flL_33)) (fun _ h9 => h9) rfl (by decide +kernel) rfl rfl (Nat.le_of_ble_eq_true rfl) dL_take_133 (fun H locs hP hD hS => ?_)
      have hP : va_P (dC, dI) vwCl [(h0, .inr (1, [.long (lI w), .long (lI (sy * ox - sx * oy)), .long (lI (oy * oy - 4 * sy * (py - y))), .long (lI sc)])), (h1, .inr (0, [.int (iI (bz ln)), .int (iI sx), .int (iI ox), .int (iI sy), .int (iI oy), .int (iI px), .int (iI py), .int (iI qx), .int (iI qy), .int (iI rx), .int (iI ry)]))] H := hP
      have hD : va_D A [(h0, .inr (1, [.long (lI w), .long (lI (sy * ox - sx * oy)), .long (lI (oy * oy - 4 * sy * (py - y))), .long (lI sc)])), (h1, .inr (0, [.int (iI (bz ln)), .int (iI sx), .int (iI ox), .int (iI sy), .int (iI oy), .int (iI px), .int (iI py), .int (iI qx), .int (iI qy), .int (iI rx), .int (iI ry)]))] := hD
      refine lv_aload_n hx hb dL_take_136 rfl (lv_at hl 6 rfl) ?_
      refine lv_ldc2 (v := 2) hx hb hown (hts _ (List.mem_cons_of_mem _ klL_49)) dL_take_137 ?_
      refine xi_top (y := .long (lI 2)) (by decide +kernel) ?_
      refine lv_lload hx hb dL_take_140 (lv_at hl 3 rfl) ?_
      refine xl_mul (z := 2 * sy) hx hb dL_take_142 rfl ?_
      refine lv_lload hx hb dL_take_143 (lv_at hl 3 rfl) ?_
      refine xl_mul (z := (2 * sy) * sy) hx hb dL_take_145 rfl ?_
      refine va_put (D := (dC, dI)) (ci := 1) (v := .long (lI ((2 * sy) * sy))) (ty := .long) (C := RL) (T := TL) (N := 4) hx hb hts (fun w9 h9 => List.mem_cons_of_mem _ (inL w9 h9)) tyL tyL_ok nmL hown hK hP hD hS 0 rfl rfl 3 (by decide) (hts _ (List.mem_cons_of_mem _ flL_36)) (fun _ h9 => h9) rfl (by decide +kernel) rfl rfl (Nat.le_of_ble_eq_true rfl) dL_take_146 (fun H locs hP hD hS => ?_)
      have hP : va_P (dC, dI) vwCl [(h0, .inr (1, [.long (lI w), .long (lI (sy * ox - sx * oy)), .long (lI (oy * oy - 4 * sy * (py - y))), .long (lI ((2 * sy) * sy))])), (h1, .inr (0, [.int (iI (bz ln)), .int (iI sx), .int (iI ox), .int (iI sy), .int (iI oy), .int (iI px), .int (iI py), .int (iI qx), .int (iI qy), .int (iI rx), .int (iI ry)]))] H := hP
      have hD : va_D A [(h0, .inr (1, [.long (lI w), .long (lI (sy * ox - sx * oy)), .long (lI (oy * oy - 4 * sy * (py - y))), .long (lI ((2 * sy) * sy))])), (h1, .inr (0, [.int (iI (bz ln)), .int (iI sx), .int (iI ox), .int (iI sy), .int (iI oy), .int (iI px), .int (iI py), .int (iI qx), .int (iI qy), .int (iI rx), .int (iI ry)]))] := hD
      refine lv_aload_n hx hb dL_take_149 rfl (lv_at hl 6 rfl) ?_
      refine lv_lload hx hb dL_take_150 (lv_at hl 0 rfl) ?_
      refine xl_neg (z := -(sy * ox - sx * oy)) hx hb dL_take_152 rfl ?_
      refine lv_lload hx hb dL_take_153 (lv_at hl 2 rfl) ?_
      refine xl_mul (z := (-(sy * ox - sx * oy)) * oy) hx hb dL_take_155 rfl ?_
      refine lv_ldc2 (v := 2) hx hb hown (hts _ (List.mem_cons_of_mem _ klL_49)) dL_take_156 ?_
      refine xi_top (y := .long (lI 2)) (by decide +kernel) ?_
      refine lv_lload hx hb dL_take_159 (lv_at hl 3 rfl) ?_
      refine xl_mul (z := 2 * sy) hx hb dL_take_161 rfl ?_
      refine lv_lload hx hb dL_take_162 (lv_at hl 5 rfl) ?_
      refine xl_mul (z := (2 * sy) * sx) hx hb dL_take_164 rfl ?_
      refine lv_lload hx hb dL_take_165 (lv_at hl 1 rfl) ?_
      refine xl_mul (z := ((2 * sy) * sx) * (py - y)) hx hb dL_take_167 rfl ?_
      refine xl_sub (z := ((-(sy * ox - sx * oy)) * oy) - (((2 * sy) * sx) * (py - y))) hx hb dL_take_168 rfl ?_
      refine lv_aload_n hx hb dL_take_169 rfl (lv_at hl 6 rfl) ?_
      refine va_get (D := (dC, dI)) (ci := 1) (v := .long (lI ((2 * sy) * sy))) (C := RL) (T := TL) (N := 4) hx hb hts (fun w9 h9 => List.mem_cons_of_mem _ (inL w9 h9)) hown hK hP 0 rfl rfl 3 (by decide) (hts _ (List.mem_cons_of_mem _ flL_36)) (fun _ h9 => h9) rfl dL_take_170 ?_
      refine lv_aload_n hx hb dL_take_173 rfl (lv_at hl 7 rfl) ?_
      refine va_get (D := (dC, dI)) (ci := 0) (v := .int (iI px)) (C := RP) (T := TP) (N := 11) hx hb hts (fun w9 h9 => List.mem_cons_of_mem _ (inP w9 h9)) hown hK hP 1 rfl rfl 5 (by decide) (hts _ (List.mem_cons_of_mem _ flL_39)) (fun _ h9 => h9) rfl dL_take_174 ?_
      refine xl_i2l hx hb dL_take_177 (by omega) ?_
      refine xl_mul (z := ((2 * sy) * sy) * px) hx hb dL_take_178 rfl ?_
      refine xl_add (z := (((-(sy * ox - sx * oy)) * oy) - (((2 * sy) * sx) * (py - y))) + (((2 * sy) * sy) * px)) hx hb dL_take_179 rfl ?_
      refine va_put (D := (dC, dI)) (ci := 1) (v := .long (lI ((((-(sy * ox - sx * oy)) * oy) - (((2 * sy) * sx) * (py - y))) + (((2 * sy) * sy) * px)))) (ty := .long) (C := RL) (T := TL) (N := 4) hx hb hts (fun w9 h9 => List.mem_cons_of_mem _ (inL w9 h9)) tyL tyL_ok nmL hown hK hP hD hS 0 rfl rfl 0 (by decide) (hts _ (List.mem_cons_of_mem _ flL_42)) (fun _ h9 => h9) rfl (by decide +kernel) rfl rfl (Nat.le_of_ble_eq_true rfl) dL_take_180 (fun H locs hP hD hS => ?_)
      have hP : va_P (dC, dI) vwCl [(h0, .inr (1, [.long (lI ((((-(sy * ox - sx * oy)) * oy) - (((2 * sy) * sx) * (py - y))) + (((2 * sy) * sy) * px))), .long (lI (sy * ox - sx * oy)), .long (lI (oy * oy - 4 * sy * (py - y))), .long (lI ((2 * sy) * sy))])), (h1, .inr (0, [.int (iI (bz ln)), .int (iI sx), .int (iI ox), .int (iI sy), .int (iI oy), .int (iI px), .int (iI py), .int (iI qx), .int (iI qy), .int (iI rx), .int (iI ry)]))] H := hP
      have hD : va_D A [(h0, .inr (1, [.long (lI ((((-(sy * ox - sx * oy)) * oy) - (((2 * sy) * sx) * (py - y))) + (((2 * sy) * sy) * px))), .long (lI (sy * ox - sx * oy)), .long (lI (oy * oy - 4 * sy * (py - y))), .long (lI ((2 * sy) * sy))])), (h1, .inr (0, [.int (iI (bz ln)), .int (iI sx), .int (iI ox), .int (iI sy), .int (iI oy), .int (iI px), .int (iI py), .int (iI qx), .int (iI qy), .int (iI rx), .int (iI ry)]))] := hD
      subst hQ
      exact W.vret hx hb hr (fun t9 ht9 hW9 => ⟨⟨((((-(sy * ox - sx * oy)) * oy) - (((2 * sy) * sx) * (py - y))) + (((2 * sy) * sy) * px), sy * ox - sx * oy, oy * oy - 4 * sy * (py - y), (2 * sy) * sy), rfl, (⟨by unfold tkW; rw [if_neg c_40], by unfold tkF; rw [if_neg c_40, if_pos c_113], by unfold tkU; rw [if_neg c_40], by unfold tkS; rw [if_neg c_40]⟩), by rw [ht9]; exact hP, va_K.moved hW9.alike hK, hD⟩, hS.F ht9⟩) hS.2.2 dL_take_183
  · skip
    refine lv_aload_n hx hb dL_take_44 rfl (lv_at hl 5 rfl) ?_
    refine lv_lconst (v := lI 0) hx hb dL_take_45 (by decide +kernel) ?_
    refine va_put (D := (dC, dI)) (ci := 1) (v := .long (lI 0)) (ty := .long) (C := RL) (T := TL) (N := 4) hx hb hts (fun w9 h9 => List.mem_cons_of_mem _ (inL w9 h9)) tyL tyL_ok nmL hown hK hP hD hS 0 rfl rfl 1 (by decide) (hts _ (List.mem_cons_of_mem _ flL_27)) (fun _ h9 => h9) rfl (by decide +kernel) rfl rfl (Nat.le_of_ble_eq_true rfl) dL_take_46 (fun H locs hP hD hS => ?_)
    have hP : va_P (dC, dI) vwCl [(h0, .inr (1, [.long (lI w), .long (lI 0), .long (lI un), .long (lI sc)])), (h1, .inr (0, [.int (iI (bz ln)), .int (iI sx), .int (iI ox), .int (iI sy), .int (iI oy), .int (iI px), .int (iI py), .int (iI qx), .int (iI qy), .int (iI rx), .int (iI ry)]))] H := hP
    have hD : va_D A [(h0, .inr (1, [.long (lI w), .long (lI 0), .long (lI un), .long (lI sc)])), (h1, .inr (0, [.int (iI (bz ln)), .int (iI sx), .int (iI ox), .int (iI sy), .int (iI oy), .int (iI px), .int (iI py), .int (iI qx), .int (iI qy), .int (iI rx), .int (iI ry)]))] := hD
    refine lv_aload_n hx hb dL_take_49 rfl (lv_at hl 5 rfl) ?_
    refine lv_lconst (v := lI 0) hx hb dL_take_50 (by decide +kernel) ?_
    refine va_put (D := (dC, dI)) (ci := 1) (v := .long (lI 0)) (ty := .long) (C := RL) (T := TL) (N := 4) hx hb hts (fun w9 h9 => List.mem_cons_of_mem _ (inL w9 h9)) tyL tyL_ok nmL hown hK hP hD hS 0 rfl rfl 2 (by decide) (hts _ (List.mem_cons_of_mem _ flL_33)) (fun _ h9 => h9) rfl (by decide +kernel) rfl rfl (Nat.le_of_ble_eq_true rfl) dL_take_51 (fun H locs hP hD hS => ?_)
    have hP : va_P (dC, dI) vwCl [(h0, .inr (1, [.long (lI w), .long (lI 0), .long (lI 0), .long (lI sc)])), (h1, .inr (0, [.int (iI (bz ln)), .int (iI sx), .int (iI ox), .int (iI sy), .int (iI oy), .int (iI px), .int (iI py), .int (iI qx), .int (iI qy), .int (iI rx), .int (iI ry)]))] H := hP
    have hD : va_D A [(h0, .inr (1, [.long (lI w), .long (lI 0), .long (lI 0), .long (lI sc)])), (h1, .inr (0, [.int (iI (bz ln)), .int (iI sx), .int (iI ox), .int (iI sy), .int (iI oy), .int (iI px), .int (iI py), .int (iI qx), .int (iI qy), .int (iI rx), .int (iI ry)]))] := hD
    refine lv_aload_n hx hb dL_take_54 rfl (lv_at hl 5 rfl) ?_
    refine lv_lload hx hb dL_take_55 (lv_at hl 1 rfl) ?_
    refine lv_lload hx hb dL_take_57 (lv_at hl 1 rfl) ?_
    refine xl_mul (z := oy * oy) hx hb dL_take_59 rfl ?_
    refine va_put (D := (dC, dI)) (ci := 1) (v := .long (lI (oy * oy))) (ty := .long) (C := RL) (T := TL) (N := 4) hx hb hts (fun w9 h9 => List.mem_cons_of_mem _ (inL w9 h9)) tyL tyL_ok nmL hown hK hP hD hS 0 rfl rfl 3 (by decide) (hts _ (List.mem_cons_of_mem _ flL_36)) (fun _ h9 => h9) rfl (by decide +kernel) rfl rfl (Nat.le_of_ble_eq_true rfl) dL_take_60 (fun H locs hP hD hS => ?_)
    have hP : va_P (dC, dI) vwCl [(h0, .inr (1, [.long (lI w), .long (lI 0), .long (lI 0), .long (lI (oy * oy))])), (h1, .inr (0, [.int (iI (bz ln)), .int (iI sx), .int (iI ox), .int (iI sy), .int (iI oy), .int (iI px), .int (iI py), .int (iI qx), .int (iI qy), .int (iI rx), .int (iI ry)]))] H := hP
    have hD : va_D A [(h0, .inr (1, [.long (lI w), .long (lI 0), .long (lI 0), .long (lI (oy * oy))])), (h1, .inr (0, [.int (iI (bz ln)), .int (iI sx), .int (iI ox), .int (iI sy), .int (iI oy), .int (iI px), .int (iI py), .int (iI qx), .int (iI qy), .int (iI rx), .int (iI ry)]))] := hD
    refine lv_aload_n hx hb dL_take_63 rfl (lv_at hl 5 rfl) ?_
    refine lv_lload hx hb dL_take_64 (lv_at hl 4 rfl) ?_
    refine lv_lload hx hb dL_take_66 (lv_at hl 0 rfl) ?_
    refine xl_mul (z := sx * (py - y)) hx hb dL_take_68 rfl ?_
    refine lv_lload hx hb dL_take_69 (lv_at hl 0 rfl) ?_
    refine xl_mul (z := (sx * (py - y)) * (py - y)) hx hb dL_take_71 rfl ?_
    refine lv_lload hx hb dL_take_72 (lv_at hl 3 rfl) ?_
    refine lv_lload hx hb dL_take_74 (lv_at hl 1 rfl) ?_
    refine xl_mul (z := ox * oy) hx hb dL_take_76 rfl ?_
    refine lv_lload hx hb dL_take_77 (lv_at hl 0 rfl) ?_
    refine xl_mul (z := (ox * oy) * (py - y)) hx hb dL_take_79 rfl ?_
    refine xl_sub (z := ((sx * (py - y)) * (py - y)) - ((ox * oy) * (py - y))) hx hb dL_take_80 rfl ?_
    refine lv_aload_n hx hb dL_take_81 rfl (lv_at hl 5 rfl) ?_
    refine va_get (D := (dC, dI)) (ci := 1) (v := .long (lI (oy * oy))) (C := RL) (T := TL) (N := 4) hx hb hts (fun w9 h9 => List.mem_cons_of_mem _ (inL w9 h9)) hown hK hP 0 rfl rfl 3 (by decide) (hts _ (List.mem_cons_of_mem _ flL_36)) (fun _ h9 => h9) rfl dL_take_82 ?_
    refine lv_aload_n hx hb dL_take_85 rfl (lv_at hl 6 rfl) ?_
    refine va_get (D := (dC, dI)) (ci := 0) (v := .int (iI px)) (C := RP) (T := TP) (N := 11) hx hb hts (fun w9 h9 => List.mem_cons_of_mem _ (inP w9 h9)) hown hK hP 1 rfl rfl 5 (by decide) (hts _ (List.mem_cons_of_mem _ flL_39)) (fun _ h9 => h9) rfl dL_take_86 ?_
    refine xl_i2l hx hb dL_take_89 (by omega) ?_
    refine xl_mul (z := (oy * oy) * px) hx hb dL_take_90 rfl ?_
    refine xl_add (z := (((sx * (py - y)) * (py - y)) - ((ox * oy) * (py - y))) + ((oy * oy) * px)) hx hb dL_take_91 rfl ?_
    refine va_put (D := (dC, dI)) (ci := 1) (v := .long (lI ((((sx * (py - y)) * (py - y)) - ((ox * oy) * (py - y))) + ((oy * oy) * px)))) (ty := .long) (C := RL) (T := TL) (N := 4) hx hb hts (fun w9 h9 => List.mem_cons_of_mem _ (inL w9 h9)) tyL tyL_ok nmL hown hK hP hD hS 0 rfl rfl 0 (by decide) (hts _ (List.mem_cons_of_mem _ flL_42)) (fun _ h9 => h9) rfl (by decide +kernel) rfl rfl (Nat.le_of_ble_eq_true rfl) dL_take_92 (fun H locs hP hD hS => ?_)
    have hP : va_P (dC, dI) vwCl [(h0, .inr (1, [.long (lI ((((sx * (py - y)) * (py - y)) - ((ox * oy) * (py - y))) + ((oy * oy) * px))), .long (lI 0), .long (lI 0), .long (lI (oy * oy))])), (h1, .inr (0, [.int (iI (bz ln)), .int (iI sx), .int (iI ox), .int (iI sy), .int (iI oy), .int (iI px), .int (iI py), .int (iI qx), .int (iI qy), .int (iI rx), .int (iI ry)]))] H := hP
    have hD : va_D A [(h0, .inr (1, [.long (lI ((((sx * (py - y)) * (py - y)) - ((ox * oy) * (py - y))) + ((oy * oy) * px))), .long (lI 0), .long (lI 0), .long (lI (oy * oy))])), (h1, .inr (0, [.int (iI (bz ln)), .int (iI sx), .int (iI ox), .int (iI sy), .int (iI oy), .int (iI px), .int (iI py), .int (iI qx), .int (iI qy), .int (iI rx), .int (iI ry)]))] := hD
    refine lv_goto (tgt := 183) hx hb dL_take_95 (by decide) ?_
    subst hQ
    exact W.vret hx hb hr (fun t9 ht9 hW9 => ⟨⟨((((sx * (py - y)) * (py - y)) - ((ox * oy) * (py - y))) + ((oy * oy) * px), 0, 0, oy * oy), rfl, (⟨by unfold tkW; rw [if_pos c_40], by unfold tkF; rw [if_pos c_40], by unfold tkU; rw [if_pos c_40], by unfold tkS; rw [if_pos c_40]⟩), by rw [ht9]; exact hP, va_K.moved hW9.alike hK, hD⟩, hS.F ht9⟩) hS.2.2 dL_take_183
