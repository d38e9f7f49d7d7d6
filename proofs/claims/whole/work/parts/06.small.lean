/-! Piece: made, moved, bounds; small reads of the raster; Arrays.fill -/
def sqv (ln : Bool) (p q r : Int) : Int := if ln = true then 0 else p - 2 * q + r
def onv (ln : Bool) (p q r : Int) : Int := if ln = true then r - p else 2 * (q - p)
def pbd (px py qx qy rx ry z : Int) : Int := if z = 0 then fol px qx rx else if z = 1 then fol py qy ry else if z = 2 then -fol (-px) (-qx) (-rx) else -fol (-py) (-qy) (-ry)
def cen (F : Int → Int) (O : Int → Bool) (i nb : Int) : Int := if O nb = true then F nb else (F i + F nb) / 2
def isin (par : Bool) (w : Int) : Bool := if par = true then decide (w % 2 ≠ 0) else decide (w ≠ 0)
theorem iI_and1 (w : Int) : iI w &&& iI 1 = iI (w % 2) := by
  rw [pk_and (iI w) 1 (by decide +kernel), iI_nI]
  congr 1
  have h1 : (iI w).toBitVec = BitVec.ofInt 32 w := by unfold iI; rw [Int32.toBitVec_ofInt]
  rw [h1, BitVec.toNat_ofInt]
  have h2 : 0 ≤ w % 2 ^ 32 := Int.emod_nonneg _ (by decide)
  omega

set_option maxHeartbeats 4000000 in
set_option maxRecDepth 100000 in
/-- a new Piece -/
theorem p_init (l : Launch) (dC : Nat → ClassId) (dI : Nat → Nat → Nat) (sz : Nat) (h0 : Nat) (px py qx qy rx ry : Int) (ln : Bool) : Met l yP_init wP_init ({ frames := 1, cells := 0, slots := 0, locals := 12 }) (va_Pc [.ref h0, .int (iI px), .int (iI py), .int (iI qx), .int (iI qy), .int (iI rx), .int (iI ry), .int (iI (bz ln))] (fun U => U.heap.size = sz ∧ va_P (dC, dI) vwCl [(h0, .inr (0, [.int (iI (bz false)), .int (iI 0), .int (iI 0), .int (iI 0), .int (iI 0), .int (iI 0), .int (iI 0), .int (iI 0), .int (iI 0), .int (iI 0), .int (iI 0)]))] U.heap ∧ va_K (dC, dI) vwCl [] U ∧ va_D (fun _ => True) [(h0, .inr (0, [.int (iI (bz false)), .int (iI 0), .int (iI 0), .int (iI 0), .int (iI 0), .int (iI 0), .int (iI 0), .int (iI 0), .int (iI 0), .int (iI 0), .int (iI 0)]))])) (va_Qv (fun (u : Int × Int × Int × Int) => u.1 = sqv ln px qx rx ∧ u.2.1 = onv ln px qx rx ∧ u.2.2.1 = sqv ln py qy ry ∧ u.2.2.2 = onv ln py qy ry) (fun (u : Int × Int × Int × Int) t9 => va_P (dC, dI) vwCl [(h0, .inr (0, [.int (iI (bz ln)), .int (iI u.1), .int (iI u.2.1), .int (iI u.2.2.1), .int (iI u.2.2.2), .int (iI px), .int (iI py), .int (iI qx), .int (iI qy), .int (iI rx), .int (iI ry)]))] t9.heap ∧ va_K (dC, dI) vwCl [] t9 ∧ va_D (va_A [(h0, .inr (0, [.int (iI (bz false)), .int (iI 0), .int (iI 0), .int (iI 0), .int (iI 0), .int (iI 0), .int (iI 0), .int (iI 0), .int (iI 0), .int (iI 0), .int (iI 0)]))] sz) [(h0, .inr (0, [.int (iI (bz ln)), .int (iI u.1), .int (iI u.2.1), .int (iI u.2.2.1), .int (iI u.2.2.2), .int (iI px), .int (iI py), .int (iI qx), .int (iI qy), .int (iI rx), .int (iI ry)]))]) (va_A [(h0, .inr (0, [.int (iI (bz false)), .int (iI 0), .int (iI 0), .int (iI 0), .int (iI 0), .int (iI 0), .int (iI 0), .int (iI 0), .int (iI 0), .int (iI 0), .int (iI 0)]))] sz)) 0 0 (va_A [(h0, .inr (0, [.int (iI (bz false)), .int (iI 0), .int (iI 0), .int (iI 0), .int (iI 0), .int (iI 0), .int (iI 0), .int (iI 0), .int (iI 0), .int (iI 0), .int (iI 0)]))] sz) := by
  refine Met.ofW (cc := cP_init) (maxL := 8) (ret := none) (by decide) rfl ?_
  intro p e s m args below meth c s₁ B hml hv
  obtain ⟨hargs, hsz, hP, hK, hD0⟩ := hv
  have hx := B.exec
  have hb := B.bytes
  have hr := B.returns
  have hts := atoms_spec (ws := wP_init) B.pre
  have hown : s.vm.findClass RP = some m.cls := findClass_of_methodNamed B.named
  have hlocks := B.notSynchronized
  have hin : meth.name = "<init>" := (name_of_methodNamed B.named B.method).1
  subst hsz
  have hD := hD0.self (sz := s.heap.size)
  generalize hAe : va_A [(h0, .inr (0, [.int (iI (bz false)), .int (iI 0), .int (iI 0), .int (iI 0), .int (iI 0), .int (iI 0), .int (iI 0), .int (iI 0), .int (iI 0), .int (iI 0), .int (iI 0)]))] s.heap.size = A at hD ⊢
  have hA : ∀ q : Nat, s.heap.size ≤ q → A q := fun q h => by rw [← hAe]; exact Or.inr h
  have hS0 : va_S A s.heap s.heap [] := va_S.rf
  refine x_name (fun R Q H locs hR hQ hH hlo => ?_)
  rw [← hH] at hP
  have hS : va_S A s.heap H locs := by rw [hH, hlo]; exact hS0
  refine x_entry hargs (Nat.le_of_ble_eq_true rfl) (fun ls hl => ?_)
  have hl : lv_has ls 8 [(0, .ref h0), (1, .int (iI px)), (2, .int (iI py)), (3, .int (iI qx)), (4, .int (iI qy)), (5, .int (iI rx)), (6, .int (iI ry)), (7, .int (iI (bz ln)))] := hl
  have hP : va_P (dC, dI) vwCl [(h0, .inr (0, [.int (iI (bz false)), .int (iI 0), .int (iI 0), .int (iI 0), .int (iI 0), .int (iI 0), .int (iI 0), .int (iI 0), .int (iI 0), .int (iI 0), .int (iI 0)]))] H := hP
  refine lv_aload_n hx hb dP_init_0 rfl (lv_at hl 0 rfl) ?_
  refine W.objInit hx hb hown (hts _ (List.mem_cons_of_mem _ mlP_1)) (hts _ (List.mem_cons_of_mem _ imO)) (hts _ (List.mem_cons_of_mem _ coO)) rfl (by rw [hml]; exact hl.1) rfl dP_init_1 (by subst hR; exact Nat.le_of_ble_eq_true rfl) (by subst hR; exact Nat.le_of_ble_eq_true rfl) ?_
  refine W.eq (g2 := F0 m 4 ls []) rfl ?_
  refine lv_aload_n hx hb dP_init_4 rfl (lv_at hl 0 rfl) ?_
  refine lv_iload hx hb dP_init_5 (lv_at hl 7 rfl) ?_
  refine va_putF (D := (dC, dI)) (ci := 0) (v := .int (iI (bz ln))) (ty := .boolean) (C := RP) (T := TP) (N := 11) hx hb hts (fun w9 h9 => List.mem_cons_of_mem _ (inP w9 h9)) tyP tyP_ok nmP hown hK hP hD hS 0 rfl rfl 0 (by decide) (hts _ (List.mem_cons_of_mem _ flP_7)) (fun _ h9 => h9) rfl hin rfl (by decide +kernel) (xi_narZ2 _) (xi_fitZ _) (Nat.le_of_ble_eq_true rfl) dP_init_7 (fun H locs hP hD hS => ?_)
  have hP : va_P (dC, dI) vwCl [(h0, .inr (0, [.int (iI (bz ln)), .int (iI 0), .int (iI 0), .int (iI 0), .int (iI 0), .int (iI 0), .int (iI 0), .int (iI 0), .int (iI 0), .int (iI 0), .int (iI 0)]))] H := hP
  have hD : va_D A [(h0, .inr (0, [.int (iI (bz ln)), .int (iI 0), .int (iI 0), .int (iI 0), .int (iI 0), .int (iI 0), .int (iI 0), .int (iI 0), .int (iI 0), .int (iI 0), .int (iI 0)]))] := hD
  refine lv_aload_n hx hb dP_init_10 rfl (lv_at hl 0 rfl) ?_
  refine lv_iload_n hx hb dP_init_11 rfl (lv_at hl 1 rfl) ?_
  refine va_put (D := (dC, dI)) (ci := 0) (v := .int (iI px)) (ty := .int) (C := RP) (T := TP) (N := 11) hx hb hts (fun w9 h9 => List.mem_cons_of_mem _ (inP w9 h9)) tyP tyP_ok nmP hown hK hP hD hS 0 rfl rfl 5 (by decide) (hts _ (List.mem_cons_of_mem _ flP_13)) (fun _ h9 => h9) rfl (by decide +kernel) rfl rfl (Nat.le_of_ble_eq_true rfl) dP_init_12 (fun H locs hP hD hS => ?_)
  have hP : va_P (dC, dI) vwCl [(h0, .inr (0, [.int (iI (bz ln)), .int (iI 0), .int (iI 0), .int (iI 0), .int (iI 0), .int (iI px), .int (iI 0), .int (iI 0), .int (iI 0), .int (iI 0), .int (iI 0)]))] H := hP
  have hD : va_D A [(h0, .inr (0, [.int (iI (bz ln)), .int (iI 0), .int (iI 0), .int (iI 0), .int (iI 0), .int (iI px), .int (iI 0), .int (iI 0), .int (iI 0), .int (iI 0), .int (iI 0)]))] := hD
  refine lv_aload_n hx hb dP_init_15 rfl (lv_at hl 0 rfl) ?_
  refine lv_iload_n hx hb dP_init_16 rfl (lv_at hl 2 rfl) ?_
  refine va_put (D := (dC, dI)) (ci := 0) (v := .int (iI py)) (ty := .int) (C := RP) (T := TP) (N := 11) hx hb hts (fun w9 h9 => List.mem_cons_of_mem _ (inP w9 h9)) tyP tyP_ok nmP hown hK hP hD hS 0 rfl rfl 6 (by decide) (hts _ (List.mem_cons_of_mem _ flP_17)) (fun _ h9 => h9) rfl (by decide +kernel) rfl rfl (Nat.le_of_ble_eq_true rfl) dP_init_17 (fun H locs hP hD hS => ?_)
  have hP : va_P (dC, dI) vwCl [(h0, .inr (0, [.int (iI (bz ln)), .int (iI 0), .int (iI 0), .int (iI 0), .int (iI 0), .int (iI px), .int (iI py), .int (iI 0), .int (iI 0), .int (iI 0), .int (iI 0)]))] H := hP
  have hD : va_D A [(h0, .inr (0, [.int (iI (bz ln)), .int (iI 0), .int (iI 0), .int (iI 0), .int (iI 0), .int (iI px), .int (iI py), .int (iI 0), .int (iI 0), .int (iI 0), .int (iI 0)]))] := hD
  refine lv_aload_n hx hb dP_init_20 rfl (lv_at hl 0 rfl) ?_
  refine lv_iload_n hx hb dP_init_21 rfl (lv_at hl 3 rfl) ?_
  refine va_put (D := (dC, dI)) (ci := 0) (v := .int (iI qx)) (ty := .int) (C := RP) (T := TP) (N := 11) hx hb hts (fun w9 h9 => List.mem_cons_of_mem _ (inP w9 h9)) tyP tyP_ok nmP hown hK hP hD hS 0 rfl rfl 7 (by decide) (hts _ (List.mem_cons_of_mem _ flP_20)) (fun _ h9 => h9) rfl (by decide +kernel) rfl rfl (Nat.le_of_ble_eq_true rfl) dP_init_22 (fun H locs hP hD hS => ?_)
  have hP : va_P (dC, dI) vwCl [(h0, .inr (0, [.int (iI (bz ln)), .int (iI 0), .int (iI 0), .int (iI 0), .int (iI 0), .int (iI px), .int (iI py), .int (iI qx), .int (iI 0), .int (iI 0), .int (iI 0)]))] H := hP
  have hD : va_D A [(h0, .inr (0, [.int (iI (bz ln)), .int (iI 0), .int (iI 0), .int (iI 0), .int (iI 0), .int (iI px), .int (iI py), .int (iI qx), .int (iI 0), .int (iI 0), .int (iI 0)]))] := hD
  refine lv_aload_n hx hb dP_init_25 rfl (lv_at hl 0 rfl) ?_
  refine lv_iload hx hb dP_init_26 (lv_at hl 4 rfl) ?_
  refine va_put (D := (dC, dI)) (ci := 0) (v := .int (iI qy)) (ty := .int) (C := RP) (T := TP) (N := 11) hx hb hts (fun w9 h9 => List.mem_cons_of_mem _ (inP w9 h9)) tyP tyP_ok nmP hown hK hP hD hS 0 rfl rfl 8 (by decide) (hts _ (List.mem_cons_of_mem _ flP_23)) (fun _ h9 => h9) rfl (by decide +kernel) rfl rfl (Nat.le_of_ble_eq_true rfl) dP_init_28 (fun H locs hP hD hS => ?_)
  have hP : va_P (dC, dI) vwCl [(h0, .inr (0, [.int (iI (bz ln)), .int (iI 0), .int (iI 0), .int (iI 0), .int (iI 0), .int (iI px), .int (iI py), .int (iI qx), .int (iI qy), .int (iI 0), .int (iI 0)]))] H := hP
  have hD : va_D A [(h0, .inr (0, [.int (iI (bz ln)), .int (iI 0), .int (iI 0), .int (iI 0), .int (iI 0), .int (iI px), .int (iI py), .int (iI qx), .int (iI qy), .int (iI 0), .int (iI 0)]))] := hD
  refine lv_aload_n hx hb dP_init_31 rfl (lv_at hl 0 rfl) ?_
  refine lv_iload hx hb dP_init_32 (lv_at hl 5 rfl) ?_
  refine va_put (D := (dC, dI)) (ci := 0) (v := .int (iI rx)) (ty := .int) (C := RP) (T := TP) (N := 11) hx hb hts (fun w9 h9 => List.mem_cons_of_mem _ (inP w9 h9)) tyP tyP_ok nmP hown hK hP hD hS 0 rfl rfl 9 (by decide) (hts _ (List.mem_cons_of_mem _ flP_26)) (fun _ h9 => h9) rfl (by decide +kernel) rfl rfl (Nat.le_of_ble_eq_true rfl) dP_init_34 (fun H locs hP hD hS => ?_)
  have hP : va_P (dC, dI) vwCl [(h0, .inr (0, [.int (iI (bz ln)), .int (iI 0), .int (iI 0), .int (iI 0), .int (iI 0), .int (iI px), .int (iI py), .int (iI qx), .int (iI qy), .int (iI rx), .int (iI 0)]))] H := hP
  have hD : va_D A [(h0, .inr (0, [.int (iI (bz ln)), .int (iI 0), .int (iI 0), .int (iI 0), .int (iI 0), .int (iI px), .int (iI py), .int (iI qx), .int (iI qy), .int (iI rx), .int (iI 0)]))] := hD
  refine lv_aload_n hx hb dP_init_37 rfl (lv_at hl 0 rfl) ?_
  refine lv_iload hx hb dP_init_38 (lv_at hl 6 rfl) ?_
  refine va_put (D := (dC, dI)) (ci := 0) (v := .int (iI ry)) (ty := .int) (C := RP) (T := TP) (N := 11) hx hb hts (fun w9 h9 => List.mem_cons_of_mem _ (inP w9 h9)) tyP tyP_ok nmP hown hK hP hD hS 0 rfl rfl 10 (by decide) (hts _ (List.mem_cons_of_mem _ flP_29)) (fun _ h9 => h9) rfl (by decide +kernel) rfl rfl (Nat.le_of_ble_eq_true rfl) dP_init_40 (fun H locs hP hD hS => ?_)
  have hP : va_P (dC, dI) vwCl [(h0, .inr (0, [.int (iI (bz ln)), .int (iI 0), .int (iI 0), .int (iI 0), .int (iI 0), .int (iI px), .int (iI py), .int (iI qx), .int (iI qy), .int (iI rx), .int (iI ry)]))] H := hP
  have hD : va_D A [(h0, .inr (0, [.int (iI (bz ln)), .int (iI 0), .int (iI 0), .int (iI 0), .int (iI 0), .int (iI px), .int (iI py), .int (iI qx), .int (iI qy), .int (iI rx), .int (iI ry)]))] := hD
  refine lv_aload_n hx hb dP_init_43 rfl (lv_at hl 0 rfl) ?_
  have cut_61_1 : ∀ (s1 : Int) (ls : Array Slot), (s1 = sqv ln px qx rx) → lv_has ls 8 [(0, .ref h0), (1, .int (iI px)), (2, .int (iI py)), (3, .int (iI qx)), (4, .int (iI qy)), (5, .int (iI rx)), (6, .int (iI ry)), (7, .int (iI (bz ln)))] → W p l e R s m args below meth c H locs 0 0 Q (F0 m 61 ls [.int (iI s1), .ref h0]) := by
    intro s1 ls hs1 hl
    refine va_putF (D := (dC, dI)) (ci := 0) (v := .int (iI s1)) (ty := .int) (C := RP) (T := TP) (N := 11) hx hb hts (fun w9 h9 => List.mem_cons_of_mem _ (inP w9 h9)) tyP tyP_ok nmP hown hK hP hD hS 0 rfl rfl 1 (by decide) (hts _ (List.mem_cons_of_mem _ flP_32)) (fun _ h9 => h9) rfl hin rfl (by decide +kernel) rfl rfl (Nat.le_of_ble_eq_true rfl) dP_init_61 (fun H locs hP hD hS => ?_)
    have hP : va_P (dC, dI) vwCl [(h0, .inr (0, [.int (iI (bz ln)), .int (iI s1), .int (iI 0), .int (iI 0), .int (iI 0), .int (iI px), .int (iI py), .int (iI qx), .int (iI qy), .int (iI rx), .int (iI ry)]))] H := hP
    have hD : va_D A [(h0, .inr (0, [.int (iI (bz ln)), .int (iI s1), .int (iI 0), .int (iI 0), .int (iI 0), .int (iI px), .int (iI py), .int (iI qx), .int (iI qy), .int (iI rx), .int (iI ry)]))] := hD
    refine lv_aload_n hx hb dP_init_64 rfl (lv_at hl 0 rfl) ?_
    have cut_83_2 : ∀ (s2 : Int) (ls : Array Slot), (s2 = sqv ln py qy ry) → lv_has ls 8 [(0, .ref h0), (1, .int (iI px)), (2, .int (iI py)), (3, .int (iI qx)), (4, .int (iI qy)), (5, .int (iI rx)), (6, .int (iI ry)), (7, .int (iI (bz ln)))] → W p l e R s m args below meth c H locs 0 0 Q (F0 m 83 ls [.int (iI s2), .ref h0]) := by
      intro s2 ls hs2 hl
      refine va_putF (D := (dC, dI)) (ci := 0) (v := .int (iI s2)) (ty := .int) (C := RP) (T := TP) (N := 11) hx hb hts (fun w9 h9 => List.mem_cons_of_mem _ (inP w9 h9)) tyP tyP_ok nmP hown hK hP hD hS 0 rfl rfl 3 (by decide) (hts _ (List.mem_cons_of_mem _ flP_35)) (fun _ h9 => h9) rfl hin rfl (by decide +kernel) rfl rfl (Nat.le_of_ble_eq_true rfl) dP_init_83 (fun H locs hP hD hS => ?_)
      have hP : va_P (dC, dI) vwCl [(h0, .inr (0, [.int (iI (bz ln)), .int (iI s1), .int (iI 0), .int (iI s2), .int (iI 0), .int (iI px), .int (iI py), .int (iI qx), .int (iI qy), .int (iI rx), .int (iI ry)]))] H := hP
      have hD : va_D A [(h0, .inr (0, [.int (iI (bz ln)), .int (iI s1), .int (iI 0), .int (iI s2), .int (iI 0), .int (iI px), .int (iI py), .int (iI qx), .int (iI qy), .int (iI rx), .int (iI ry)]))] := hD
      refine lv_aload_n hx hb dP_init_86 rfl (lv_at hl 0 rfl) ?_
      have cut_104_3 : ∀ (o1 : Int) (ls : Array Slot), (o1 = onv ln px qx rx) → lv_has ls 8 [(0, .ref h0), (1, .int (iI px)), (2, .int (iI py)), (3, .int (iI qx)), (4, .int (iI qy)), (5, .int (iI rx)), (6, .int (iI ry)), (7, .int (iI (bz ln)))] → W p l e R s m args below meth c H locs 0 0 Q (F0 m 104 ls [.int (iI o1), .ref h0]) := by
        intro o1 ls ho1 hl
        refine va_putF (D := (dC, dI)) (ci := 0) (v := .int (iI o1)) (ty := .int) (C := RP) (T := TP) (N := 11) hx hb hts (fun w9 h9 => List.mem_cons_of_mem _ (inP w9 h9)) tyP tyP_ok nmP hown hK hP hD hS 0 rfl rfl 2 (by decide) (hts _ (List.mem_cons_of_mem _ flP_38)) (fun _ h9 => h9) rfl hin rfl (by decide +kernel) rfl rfl (Nat.le_of_ble_eq_true rfl) dP_init_104 (fun H locs hP hD hS => ?_)
        have hP : va_P (dC, dI) vwCl [(h0, .inr (0, [.int (iI (bz ln)), .int (iI s1), .int (iI o1), .int (iI s2), .int (iI 0), .int (iI px), .int (iI py), .int (iI qx), .int (iI qy), .int (iI rx), .int (iI ry)]))] H := hP
        have hD : va_D A [(h0, .inr (0, [.int (iI (bz ln)), .int (iI s1), .int (iI o1), .int (iI s2), .int (iI 0), .int (iI px), .int (iI py), .int (iI qx), .int (iI qy), .int (iI rx), .int (iI ry)]))] := hD
        refine lv_aload_n hx hb dP_init_107 rfl (lv_at hl 0 rfl) ?_
        have cut_126_4 : ∀ (o2 : Int) (ls : Array Slot), (o2 = onv ln py qy ry) → lv_has ls 8 [(0, .ref h0), (1, .int (iI px)), (2, .int (iI py)), (3, .int (iI qx)), (4, .int (iI qy)), (5, .int (iI rx)), (6, .int (iI ry)), (7, .int (iI (bz ln)))] → W p l e R s m args below meth c H locs 0 0 Q (F0 m 126 ls [.int (iI o2), .ref h0]) := by
          intro o2 ls ho2 hl
          refine va_putF (D := (dC, dI)) (ci := 0) (v := .int (iI o2)) (ty := .int) (C := RP) (T := TP) (N := 11) hx hb hts (fun w9 h9 => List.mem_cons_of_mem _ (inP w9 h9)) tyP tyP_ok nmP hown hK hP hD hS 0 rfl rfl 4 (by decide) (hts _ (List.mem_cons_of_mem _ flP_41)) (fun _ h9 => h9) rfl hin rfl (by decide +kernel) rfl rfl (Nat.le_of_ble_eq_true rfl) dP_init_126 (fun H locs hP hD hS => ?_)
          have hP : va_P (dC, dI) vwCl [(h0, .inr (0, [.int (iI (bz ln)), .int (iI s1), .int (iI o1), .int (iI s2), .int (iI o2), .int (iI px), .int (iI py), .int (iI qx), .int (iI qy), .int (iI rx), .int (iI ry)]))] H := hP
          have hD : va_D A [(h0, .inr (0, [.int (iI (bz ln)), .int (iI s1), .int (iI o1), .int (iI s2), .int (iI o2), .int (iI px), .int (iI py), .int (iI qx), .int (iI qy), .int (iI rx), .int (iI ry)]))] := hD
          subst hQ
          exact W.vret hx hb hr (fun t9 ht9 hW9 => ⟨⟨(s1, o1, s2, o2), rfl, (⟨hs1, ho1, hs2, ho2⟩), by rw [ht9]; exact hP, va_K.moved hW9.alike hK, hD⟩, hS.F ht9⟩) hS.2.2 dP_init_129
        refine lv_iload hx hb dP_init_108 (lv_at hl 7 rfl) ?_
        refine xb_if_eq (tgt := 120) hx hb dP_init_110 (by decide) (fun c_110 => ?_) (fun c_110 => ?_)
        · skip
          refine xi_iconst hx hb dP_init_120 ?_
          refine lv_iload hx hb dP_init_121 (lv_at hl 4 rfl) ?_
          refine lv_iload_n hx hb dP_init_123 rfl (lv_at hl 2 rfl) ?_
          refine xi_sub (z := qy - py) hx hb dP_init_124 rfl ?_
          refine xi_mul (z := 2 * (qy - py)) hx hb dP_init_125 rfl ?_
          exact cut_126_4 (2 * (qy - py)) _ (by unfold onv; rw [if_neg (by rw [c_110]; decide)]) (lv_sub hl [0, 1, 2, 3, 4, 5, 6, 7] rfl)
        · skip
          refine lv_iload hx hb dP_init_113 (lv_at hl 6 rfl) ?_
          refine lv_iload_n hx hb dP_init_115 rfl (lv_at hl 2 rfl) ?_
          refine xi_sub (z := ry - py) hx hb dP_init_116 rfl ?_
          refine lv_goto (tgt := 126) hx hb dP_init_117 (by decide) ?_
          exact cut_126_4 (ry - py) _ (by unfold onv; rw [if_pos c_110]) (lv_sub hl [0, 1, 2, 3, 4, 5, 6, 7] rfl)
      refine lv_iload hx hb dP_init_87 (lv_at hl 7 rfl) ?_
      refine xb_if_eq (tgt := 99) hx hb dP_init_89 (by decide) (fun c_89 => ?_) (fun c_89 => ?_)
      · skip
        refine xi_iconst hx hb dP_init_99 ?_
        refine lv_iload_n hx hb dP_init_100 rfl (lv_at hl 3 rfl) ?_
        refine lv_iload_n hx hb dP_init_101 rfl (lv_at hl 1 rfl) ?_
        refine xi_sub (z := qx - px) hx hb dP_init_102 rfl ?_
        refine xi_mul (z := 2 * (qx - px)) hx hb dP_init_103 rfl ?_
        exact cut_104_3 (2 * (qx - px)) _ (by unfold onv; rw [if_neg (by rw [c_89]; decide)]) (lv_sub hl [0, 1, 2, 3, 4, 5, 6, 7] rfl)
      · skip
        refine lv_iload hx hb dP_init_92 (lv_at hl 5 rfl) ?_
        refine lv_iload_n hx hb dP_init_94 rfl (lv_at hl 1 rfl) ?_
        refine xi_sub (z := rx - px) hx hb dP_init_95 rfl ?_
        refine lv_goto (tgt := 104) hx hb dP_init_96 (by decide) ?_
        exact cut_104_3 (rx - px) _ (by unfold onv; rw [if_pos c_89]) (lv_sub hl [0, 1, 2, 3, 4, 5, 6, 7] rfl)
    refine lv_iload hx hb dP_init_65 (lv_at hl 7 rfl) ?_
    refine xb_if_eq (tgt := 74) hx hb dP_init_67 (by decide) (fun c_67 => ?_) (fun c_67 => ?_)
    · skip
      refine lv_iload_n hx hb dP_init_74 rfl (lv_at hl 2 rfl) ?_
      refine xi_iconst hx hb dP_init_75 ?_
      refine lv_iload hx hb dP_init_76 (lv_at hl 4 rfl) ?_
      refine xi_mul (z := 2 * qy) hx hb dP_init_78 rfl ?_
      refine xi_sub (z := py - (2 * qy)) hx hb dP_init_79 rfl ?_
      refine lv_iload hx hb dP_init_80 (lv_at hl 6 rfl) ?_
      refine xi_add (z := (py - (2 * qy)) + ry) hx hb dP_init_82 rfl ?_
      exact cut_83_2 ((py - (2 * qy)) + ry) _ (by unfold sqv; rw [if_neg (by rw [c_67]; decide)]) (lv_sub hl [0, 1, 2, 3, 4, 5, 6, 7] rfl)
    · skip
      refine xi_iconst hx hb dP_init_70 ?_
      refine lv_goto (tgt := 83) hx hb dP_init_71 (by decide) ?_
      exact cut_83_2 0 _ (by unfold sqv; rw [if_pos c_67]) (lv_sub hl [0, 1, 2, 3, 4, 5, 6, 7] rfl)
  refine lv_iload hx hb dP_init_44 (lv_at hl 7 rfl) ?_
  refine xb_if_eq (tgt := 53) hx hb dP_init_46 (by decide) (fun c_46 => ?_) (fun c_46 => ?_)
  · skip
    refine lv_iload_n hx hb dP_init_53 rfl (lv_at hl 1 rfl) ?_
    refine xi_iconst hx hb dP_init_54 ?_
    refine lv_iload_n hx hb dP_init_55 rfl (lv_at hl 3 rfl) ?_
    refine xi_mul (z := 2 * qx) hx hb dP_init_56 rfl ?_
    refine xi_sub (z := px - (2 * qx)) hx hb dP_init_57 rfl ?_
    refine lv_iload hx hb dP_init_58 (lv_at hl 5 rfl) ?_
    refine xi_add (z := (px - (2 * qx)) + rx) hx hb dP_init_60 rfl ?_
    exact cut_61_1 ((px - (2 * qx)) + rx) _ (by unfold sqv; rw [if_neg (by rw [c_46]; decide)]) (lv_sub hl [0, 1, 2, 3, 4, 5, 6, 7] rfl)
  · skip
    refine xi_iconst hx hb dP_init_49 ?_
    refine lv_goto (tgt := 61) hx hb dP_init_50 (by decide) ?_
    exact cut_61_1 0 _ (by unfold sqv; rw [if_pos c_46]) (lv_sub hl [0, 1, 2, 3, 4, 5, 6, 7] rfl)
set_option maxHeartbeats 4000000 in
set_option maxRecDepth 100000 in
/-- shift -/
theorem p_shift (l : Launch) (dC : Nat → ClassId) (dI : Nat → Nat → Nat) (sz : Nat) (h0 : Nat) (ln : Bool) (sx ox sy oy px py qx qy rx ry : Int) (dx dy : Int) : Met l yP_shift wP_shift ({ frames := 0, cells := 0, slots := 0, locals := 0 }) (va_Pc [.ref h0, .int (iI dx), .int (iI dy)] (fun U => U.heap.size = sz ∧ va_P (dC, dI) vwCl [(h0, .inr (0, [.int (iI (bz ln)), .int (iI sx), .int (iI ox), .int (iI sy), .int (iI oy), .int (iI px), .int (iI py), .int (iI qx), .int (iI qy), .int (iI rx), .int (iI ry)]))] U.heap ∧ va_K (dC, dI) vwCl [] U ∧ va_D (fun _ => True) [(h0, .inr (0, [.int (iI (bz ln)), .int (iI sx), .int (iI ox), .int (iI sy), .int (iI oy), .int (iI px), .int (iI py), .int (iI qx), .int (iI qy), .int (iI rx), .int (iI ry)]))])) (va_Qv (fun (u : Unit) => True) (fun (u : Unit) t9 => va_P (dC, dI) vwCl [(h0, .inr (0, [.int (iI (bz ln)), .int (iI sx), .int (iI ox), .int (iI sy), .int (iI oy), .int (iI (px + dx)), .int (iI (py + dy)), .int (iI (qx + dx)), .int (iI (qy + dy)), .int (iI (rx + dx)), .int (iI (ry + dy))]))] t9.heap ∧ va_K (dC, dI) vwCl [] t9 ∧ va_D (va_A [(h0, .inr (0, [.int (iI (bz ln)), .int (iI sx), .int (iI ox), .int (iI sy), .int (iI oy), .int (iI px), .int (iI py), .int (iI qx), .int (iI qy), .int (iI rx), .int (iI ry)]))] sz) [(h0, .inr (0, [.int (iI (bz ln)), .int (iI sx), .int (iI ox), .int (iI sy), .int (iI oy), .int (iI (px + dx)), .int (iI (py + dy)), .int (iI (qx + dx)), .int (iI (qy + dy)), .int (iI (rx + dx)), .int (iI (ry + dy))]))]) (va_A [(h0, .inr (0, [.int (iI (bz ln)), .int (iI sx), .int (iI ox), .int (iI sy), .int (iI oy), .int (iI px), .int (iI py), .int (iI qx), .int (iI qy), .int (iI rx), .int (iI ry)]))] sz)) 0 0 (va_A [(h0, .inr (0, [.int (iI (bz ln)), .int (iI sx), .int (iI ox), .int (iI sy), .int (iI oy), .int (iI px), .int (iI py), .int (iI qx), .int (iI qy), .int (iI rx), .int (iI ry)]))] sz) := by
  refine Met.ofW (cc := cP_shift) (maxL := 3) (ret := none) (by decide) rfl ?_
  intro p e s m args below meth c s₁ B hml hv
  obtain ⟨hargs, hsz, hP, hK, hD0⟩ := hv
  have hx := B.exec
  have hb := B.bytes
  have hr := B.returns
  have hts := atoms_spec (ws := wP_shift) B.pre
  have hown : s.vm.findClass RP = some m.cls := findClass_of_methodNamed B.named
  have hlocks := B.notSynchronized
  subst hsz
  have hD := hD0.self (sz := s.heap.size)
  generalize hAe : va_A [(h0, .inr (0, [.int (iI (bz ln)), .int (iI sx), .int (iI ox), .int (iI sy), .int (iI oy), .int (iI px), .int (iI py), .int (iI qx), .int (iI qy), .int (iI rx), .int (iI ry)]))] s.heap.size = A at hD ⊢
  have hA : ∀ q : Nat, s.heap.size ≤ q → A q := fun q h => by rw [← hAe]; exact Or.inr h
  have hS0 : va_S A s.heap s.heap [] := va_S.rf
  refine x_name (fun R Q H locs hR hQ hH hlo => ?_)
  rw [← hH] at hP
  have hS : va_S A s.heap H locs := by rw [hH, hlo]; exact hS0
  refine x_entry hargs (Nat.le_of_ble_eq_true rfl) (fun ls hl => ?_)
  have hl : lv_has ls 3 [(0, .ref h0), (1, .int (iI dx)), (2, .int (iI dy))] := hl
  have hP : va_P (dC, dI) vwCl [(h0, .inr (0, [.int (iI (bz ln)), .int (iI sx), .int (iI ox), .int (iI sy), .int (iI oy), .int (iI px), .int (iI py), .int (iI qx), .int (iI qy), .int (iI rx), .int (iI ry)]))] H := hP
  refine lv_aload_n hx hb dP_shift_0 rfl (lv_at hl 0 rfl) ?_
  refine lv_dup hx hb dP_shift_1 rfl ?_
  refine va_get (D := (dC, dI)) (ci := 0) (v := .int (iI px)) (C := RP) (T := TP) (N := 11) hx hb hts (fun w9 h9 => List.mem_cons_of_mem _ (inP w9 h9)) hown hK hP 0 rfl rfl 5 (by decide) (hts _ (List.mem_cons_of_mem _ flP_13)) (fun _ h9 => h9) rfl dP_shift_2 ?_
  refine lv_iload_n hx hb dP_shift_5 rfl (lv_at hl 1 rfl) ?_
  refine xi_add (z := px + dx) hx hb dP_shift_6 rfl ?_
  refine va_put (D := (dC, dI)) (ci := 0) (v := .int (iI (px + dx))) (ty := .int) (C := RP) (T := TP) (N := 11) hx hb hts (fun w9 h9 => List.mem_cons_of_mem _ (inP w9 h9)) tyP tyP_ok nmP hown hK hP hD hS 0 rfl rfl 5 (by decide) (hts _ (List.mem_cons_of_mem _ flP_13)) (fun _ h9 => h9) rfl (by decide +kernel) rfl rfl (Nat.le_of_ble_eq_true rfl) dP_shift_7 (fun H locs hP hD hS => ?_)
  have hP : va_P (dC, dI) vwCl [(h0, .inr (0, [.int (iI (bz ln)), .int (iI sx), .int (iI ox), .int (iI sy), .int (iI oy), .int (iI (px + dx)), .int (iI py), .int (iI qx), .int (iI qy), .int (iI rx), .int (iI ry)]))] H := hP
  have hD : va_D A [(h0, .inr (0, [.int (iI (bz ln)), .int (iI sx), .int (iI ox), .int (iI sy), .int (iI oy), .int (iI (px + dx)), .int (iI py), .int (iI qx), .int (iI qy), .int (iI rx), .int (iI ry)]))] := hD
  refine lv_aload_n hx hb dP_shift_10 rfl (lv_at hl 0 rfl) ?_
  refine lv_dup hx hb dP_shift_11 rfl ?_
  refine va_get (D := (dC, dI)) (ci := 0) (v := .int (iI py)) (C := RP) (T := TP) (N := 11) hx hb hts (fun w9 h9 => List.mem_cons_of_mem _ (inP w9 h9)) hown hK hP 0 rfl rfl 6 (by decide) (hts _ (List.mem_cons_of_mem _ flP_17)) (fun _ h9 => h9) rfl dP_shift_12 ?_
  refine lv_iload_n hx hb dP_shift_15 rfl (lv_at hl 2 rfl) ?_
  refine xi_add (z := py + dy) hx hb dP_shift_16 rfl ?_
  refine va_put (D := (dC, dI)) (ci := 0) (v := .int (iI (py + dy))) (ty := .int) (C := RP) (T := TP) (N := 11) hx hb hts (fun w9 h9 => List.mem_cons_of_mem _ (inP w9 h9)) tyP tyP_ok nmP hown hK hP hD hS 0 rfl rfl 6 (by decide) (hts _ (List.mem_cons_of_mem _ flP_17)) (fun _ h9 => h9) rfl (by decide +kernel) rfl rfl (Nat.le_of_ble_eq_true rfl) dP_shift_17 (fun H locs hP hD hS => ?_)
  have hP : va_P (dC, dI) vwCl [(h0, .inr (0, [.int (iI (bz ln)), .int (iI sx), .int (iI ox), .int (iI sy), .int (iI oy), .int (iI (px + dx)), .int (iI (py + dy)), .int (iI qx), .int (iI qy), .int (iI rx), .int (iI ry)]))] H := hP
  have hD : va_D A [(h0, .inr (0, [.int (iI (bz ln)), .int (iI sx), .int (iI ox), .int (iI sy), .int (iI oy), .int (iI (px + dx)), .int (iI (py + dy)), .int (iI qx), .int (iI qy), .int (iI rx), .int (iI ry)]))] := hD
  refine lv_aload_n hx hb dP_shift_20 rfl (lv_at hl 0 rfl) ?_
  refine lv_dup hx hb dP_shift_21 rfl ?_
  refine va_get (D := (dC, dI)) (ci := 0) (v := .int (iI qx)) (C := RP) (T := TP) (N := 11) hx hb hts (fun w9 h9 => List.mem_cons_of_mem _ (inP w9 h9)) hown hK hP 0 rfl rfl 7 (by decide) (hts _ (List.mem_cons_of_mem _ flP_20)) (fun _ h9 => h9) rfl dP_shift_22 ?_
  refine lv_iload_n hx hb dP_shift_25 rfl (lv_at hl 1 rfl) ?_
  refine xi_add (z := qx + dx) hx hb dP_shift_26 rfl ?_
  refine va_put (D := (dC, dI)) (ci := 0) (v := .int (iI (qx + dx))) (ty := .int) (C := RP) (T := TP) (N := 11) hx hb hts (fun w9 h9 => List.mem_cons_of_mem _ (inP w9 h9)) tyP tyP_ok nmP hown hK hP hD hS 0 rfl rfl 7 (by decide) (hts _ (List.mem_cons_of_mem _ flP_20)) (fun _ h9 => h9) rfl (by decide +kernel) rfl rfl (Nat.le_of_ble_eq_true rfl) dP_shift_27 (fun H locs hP hD hS => ?_)
  have hP : va_P (dC, dI) vwCl [(h0, .inr (0, [.int (iI (bz ln)), .int (iI sx), .int (iI ox), .int (iI sy), .int (iI oy), .int (iI (px + dx)), .int (iI (py + dy)), .int (iI (qx + dx)), .int (iI qy), .int (iI rx), .int (iI ry)]))] H := hP
  have hD : va_D A [(h0, .inr (0, [.int (iI (bz ln)), .int (iI sx), .int (iI ox), .int (iI sy), .int (iI oy), .int (iI (px + dx)), .int (iI (py + dy)), .int (iI (qx + dx)), .int (iI qy), .int (iI rx), .int (iI ry)]))] := hD
  refine lv_aload_n hx hb dP_shift_30 rfl (lv_at hl 0 rfl) ?_
  refine lv_dup hx hb dP_shift_31 rfl ?_
  refine va_get (D := (dC, dI)) (ci := 0) (v := .int (iI qy)) (C := RP) (T := TP) (N := 11) hx hb hts (fun w9 h9 => List.mem_cons_of_mem _ (inP w9 h9)) hown hK hP 0 rfl rfl 8 (by decide) (hts _ (List.mem_cons_of_mem _ flP_23)) (fun _ h9 => h9) rfl dP_shift_32 ?_
  refine lv_iload_n hx hb dP_shift_35 rfl (lv_at hl 2 rfl) ?_
  refine xi_add (z := qy + dy) hx hb dP_shift_36 rfl ?_
  refine va_put (D := (dC, dI)) (ci := 0) (v := .int (iI (qy + dy))) (ty := .int) (C := RP) (T := TP) (N := 11) hx hb hts (fun w9 h9 => List.mem_cons_of_mem _ (inP w9 h9)) tyP tyP_ok nmP hown hK hP hD hS 0 rfl rfl 8 (by decide) (hts _ (List.mem_cons_of_mem _ flP_23)) (fun _ h9 => h9) rfl (by decide +kernel) rfl rfl (Nat.le_of_ble_eq_true rfl) dP_shift_37 (fun H locs hP hD hS => ?_)
  have hP : va_P (dC, dI) vwCl [(h0, .inr (0, [.int (iI (bz ln)), .int (iI sx), .int (iI ox), .int (iI sy), .int (iI oy), .int (iI (px + dx)), .int (iI (py + dy)), .int (iI (qx + dx)), .int (iI (qy + dy)), .int (iI rx), .int (iI ry)]))] H := hP
  have hD : va_D A [(h0, .inr (0, [.int (iI (bz ln)), .int (iI sx), .int (iI ox), .int (iI sy), .int (iI oy), .int (iI (px + dx)), .int (iI (py + dy)), .int (iI (qx + dx)), .int (iI (qy + dy)), .int (iI rx), .int (iI ry)]))] := hD
  refine lv_aload_n hx hb dP_shift_40 rfl (lv_at hl 0 rfl) ?_
  refine lv_dup hx hb dP_shift_41 rfl ?_
  refine va_get (D := (dC, dI)) (ci := 0) (v := .int (iI rx)) (C := RP) (T := TP) (N := 11) hx hb hts (fun w9 h9 => List.mem_cons_of_mem _ (inP w9 h9)) hown hK hP 0 rfl rfl 9 (by decide) (hts _ (List.mem_cons_of_mem _ flP_26)) (fun _ h9 => h9) rfl dP_shift_42 ?_
  refine lv_iload_n hx hb dP_shift_45 rfl (lv_at hl 1 rfl) ?_
  refine xi_add (z := rx + dx) hx hb dP_shift_46 rfl ?_
  refine va_put (D := (dC, dI)) (ci := 0) (v := .int (iI (rx + dx))) (ty := .int) (C := RP) (T := TP) (N := 11) hx hb hts (fun w9 h9 => List.mem_cons_of_mem _ (inP w9 h9)) tyP tyP_ok nmP hown hK hP hD hS 0 rfl rfl 9 (by decide) (hts _ (List.mem_cons_of_mem _ flP_26)) (fun _ h9 => h9) rfl (by decide +kernel) rfl rfl (Nat.le_of_ble_eq_true rfl) dP_shift_47 (fun H locs hP hD hS => ?_)
  have hP : va_P (dC, dI) vwCl [(h0, .inr (0, [.int (iI (bz ln)), .int (iI sx), .int (iI ox), .int (iI sy), .int (iI oy), .int (iI (px + dx)), .int (iI (py + dy)), .int (iI (qx + dx)), .int (iI (qy + dy)), .int (iI (rx + dx)), .int (iI ry)]))] H := hP
  have hD : va_D A [(h0, .inr (0, [.int (iI (bz ln)), .int (iI sx), .int (iI ox), .int (iI sy), .int (iI oy), .int (iI (px + dx)), .int (iI (py + dy)), .int (iI (qx + dx)), .int (iI (qy + dy)), .int (iI (rx + dx)), .int (iI ry)]))] := hD
  refine lv_aload_n hx hb dP_shift_50 rfl (lv_at hl 0 rfl) ?_
  refine lv_dup hx hb dP_shift_51 rfl ?_
  refine va_get (D := (dC, dI)) (ci := 0) (v := .int (iI ry)) (C := RP) (T := TP) (N := 11) hx hb hts (fun w9 h9 => List.mem_cons_of_mem _ (inP w9 h9)) hown hK hP 0 rfl rfl 10 (by decide) (hts _ (List.mem_cons_of_mem _ flP_29)) (fun _ h9 => h9) rfl dP_shift_52 ?_
  refine lv_iload_n hx hb dP_shift_55 rfl (lv_at hl 2 rfl) ?_
  refine xi_add (z := ry + dy) hx hb dP_shift_56 rfl ?_
  refine va_put (D := (dC, dI)) (ci := 0) (v := .int (iI (ry + dy))) (ty := .int) (C := RP) (T := TP) (N := 11) hx hb hts (fun w9 h9 => List.mem_cons_of_mem _ (inP w9 h9)) tyP tyP_ok nmP hown hK hP hD hS 0 rfl rfl 10 (by decide) (hts _ (List.mem_cons_of_mem _ flP_29)) (fun _ h9 => h9) rfl (by decide +kernel) rfl rfl (Nat.le_of_ble_eq_true rfl) dP_shift_57 (fun H locs hP hD hS => ?_)
  have hP : va_P (dC, dI) vwCl [(h0, .inr (0, [.int (iI (bz ln)), .int (iI sx), .int (iI ox), .int (iI sy), .int (iI oy), .int (iI (px + dx)), .int (iI (py + dy)), .int (iI (qx + dx)), .int (iI (qy + dy)), .int (iI (rx + dx)), .int (iI (ry + dy))]))] H := hP
  have hD : va_D A [(h0, .inr (0, [.int (iI (bz ln)), .int (iI sx), .int (iI ox), .int (iI sy), .int (iI oy), .int (iI (px + dx)), .int (iI (py + dy)), .int (iI (qx + dx)), .int (iI (qy + dy)), .int (iI (rx + dx)), .int (iI (ry + dy))]))] := hD
  subst hQ
  exact W.vret hx hb hr (fun t9 ht9 hW9 => ⟨⟨(), rfl, (trivial), by rw [ht9]; exact hP, va_K.moved hW9.alike hK, hD⟩, hS.F ht9⟩) hS.2.2 dP_shift_60
set_option maxHeartbeats 4000000 in
set_option maxRecDepth 100000 in
/-- bound -/
theorem p_bound (l : Launch) (dC : Nat → ClassId) (dI : Nat → Nat → Nat) (h0 : Nat) (ln : Bool) (sx ox sy oy px py qx qy rx ry : Int) (z : Int) (hz : 0 ≤ z ∧ z ≤ 3) (h1 : -8192 ≤ px ∧ px ≤ 8192) (h2 : -8192 ≤ py ∧ py ≤ 8192) (h3 : -8192 ≤ qx ∧ qx ≤ 8192) (h4 : -8192 ≤ qy ∧ qy ≤ 8192) (h5 : -8192 ≤ rx ∧ rx ≤ 8192) (h6 : -8192 ≤ ry ∧ ry ≤ 8192) : Met l yP_bound wP_bound ({ frames := 2, cells := 0, slots := 0, locals := 53 }) (va_Pc [.ref h0, .int (iI z)] (fun U => va_P (dC, dI) vwCl [(h0, .inr (0, [.int (iI (bz ln)), .int (iI sx), .int (iI ox), .int (iI sy), .int (iI oy), .int (iI px), .int (iI py), .int (iI qx), .int (iI qy), .int (iI rx), .int (iI ry)]))] U.heap ∧ va_K (dC, dI) vwCl [] U)) (vp_Si (fun r => r = iI (pbd px py qx qy rx ry z))) 0 0 (fun _ => False) := by
  refine Met.ofW (cc := cP_bound) (maxL := 2) (ret := (some .int)) (by decide) rfl ?_
  intro p e s m args below meth c s₁ B hml hv
  obtain ⟨hargs, hP, hK⟩ := hv
  have hx := B.exec
  have hb := B.bytes
  have hr := B.returns
  have hts := atoms_spec (ws := wP_bound) B.pre
  have hown : s.vm.findClass RP = some m.cls := findClass_of_methodNamed B.named
  have hlocks := B.notSynchronized
  refine x_name (fun R Q H locs hR hQ hH hlo => ?_)
  rw [← hH] at hP
  refine x_entry hargs (Nat.le_of_ble_eq_true rfl) (fun ls hl => ?_)
  have hl : lv_has ls 2 [(0, .ref h0), (1, .int (iI z))] := hl
  have hP : va_P (dC, dI) vwCl [(h0, .inr (0, [.int (iI (bz ln)), .int (iI sx), .int (iI ox), .int (iI sy), .int (iI oy), .int (iI px), .int (iI py), .int (iI qx), .int (iI qy), .int (iI rx), .int (iI ry)]))] H := hP
  refine lv_iload_n hx hb dP_bound_0 rfl (lv_at hl 1 rfl) ?_
  rcases (show z = 0 ∨ z = 1 ∨ z = 2 ∨ (z < 0 ∨ 2 < z) by omega) with hz_0 | hz_1 | hz_2 | hz_d
  · refine lv_tableIn (tgt := 28) hx hb dP_bound_1 (by rw [iI_toInt (by omega)]; omega) (by rw [iI_toInt (by omega)]; omega) (by rw [iI_toInt (by omega), hz_0]; rfl) (by decide) ?_
    refine lv_aload_n hx hb dP_bound_28 rfl (lv_at hl 0 rfl) ?_
    refine va_get (D := (dC, dI)) (ci := 0) (v := .int (iI px)) (C := RP) (T := TP) (N := 11) hx hb hts (fun w9 h9 => List.mem_cons_of_mem _ (inP w9 h9)) hown hK hP 0 rfl rfl 5 (by decide) (hts _ (List.mem_cons_of_mem _ flP_13)) (fun _ h9 => h9) rfl dP_bound_29 ?_
    refine lv_aload_n hx hb dP_bound_32 rfl (lv_at hl 0 rfl) ?_
    refine va_get (D := (dC, dI)) (ci := 0) (v := .int (iI qx)) (C := RP) (T := TP) (N := 11) hx hb hts (fun w9 h9 => List.mem_cons_of_mem _ (inP w9 h9)) hown hK hP 0 rfl rfl 7 (by decide) (hts _ (List.mem_cons_of_mem _ flP_20)) (fun _ h9 => h9) rfl dP_bound_33 ?_
    refine lv_aload_n hx hb dP_bound_36 rfl (lv_at hl 0 rfl) ?_
    refine va_get (D := (dC, dI)) (ci := 0) (v := .int (iI rx)) (C := RP) (T := TP) (N := 11) hx hb hts (fun w9 h9 => List.mem_cons_of_mem _ (inP w9 h9)) hown hK hP 0 rfl rfl 9 (by decide) (hts _ (List.mem_cons_of_mem _ flP_26)) (fun _ h9 => h9) rfl dP_bound_37 ?_
    refine vp_callSi (W.runS (As := [.int (iI px), .int (iI qx), .int (iI rx)]) (rest := []) ⟨hx, hb, hml, hown, hts⟩ (p_floorOfLeast l dC dI px qx rx (by omega) (by omega) (by omega)) (va_cwS 3 hts (tb_S mlP_50 smP_floorOfLeast iniP coP_floorOfLeast) rfl rfl rfl (by decide +kernel) (by subst hR; exact ⟨Nat.le_of_ble_eq_true rfl, Nat.le_of_ble_eq_true rfl⟩)) ⟨fun a9 U9 g9 mk9 q9 => q9, fun U hU hW => ⟨rfl, trivial⟩⟩ rfl rfl hl.1 rfl (lv_room (Nat.le_of_ble_eq_true rfl)) dP_bound_40 ⟨by subst hR; exact Nat.zero_le _, by subst hR; exact Nat.zero_le _⟩) (fun r_40 hw_40 => ?_)
    subst hw_40
    subst hQ
    exact W.iret (v := (iI (fol px qx rx))) hx hb hr (fun t9 ht9 hW9 => ⟨_, rfl, (by unfold pbd; rw [if_pos hz_0]), ht9.trans hH⟩) (by rw [hlo]; intro q9 h9; cases h9) dP_bound_43
  · refine lv_tableIn (tgt := 44) hx hb dP_bound_1 (by rw [iI_toInt (by omega)]; omega) (by rw [iI_toInt (by omega)]; omega) (by rw [iI_toInt (by omega), hz_1]; rfl) (by decide) ?_
    refine lv_aload_n hx hb dP_bound_44 rfl (lv_at hl 0 rfl) ?_
    refine va_get (D := (dC, dI)) (ci := 0) (v := .int (iI py)) (C := RP) (T := TP) (N := 11) hx hb hts (fun w9 h9 => List.mem_cons_of_mem _ (inP w9 h9)) hown hK hP 0 rfl rfl 6 (by decide) (hts _ (List.mem_cons_of_mem _ flP_17)) (fun _ h9 => h9) rfl dP_bound_45 ?_
    refine lv_aload_n hx hb dP_bound_48 rfl (lv_at hl 0 rfl) ?_
    refine va_get (D := (dC, dI)) (ci := 0) (v := .int (iI qy)) (C := RP) (T := TP) (N := 11) hx hb hts (fun w9 h9 => List.mem_cons_of_mem _ (inP w9 h9)) hown hK hP 0 rfl rfl 8 (by decide) (hts _ (List.mem_cons_of_mem _ flP_23)) (fun _ h9 => h9) rfl dP_bound_49 ?_
    refine lv_aload_n hx hb dP_bound_52 rfl (lv_at hl 0 rfl) ?_
    refine va_get (D := (dC, dI)) (ci := 0) (v := .int (iI ry)) (C := RP) (T := TP) (N := 11) hx hb hts (fun w9 h9 => List.mem_cons_of_mem _ (inP w9 h9)) hown hK hP 0 rfl rfl 10 (by decide) (hts _ (List.mem_cons_of_mem _ flP_29)) (fun _ h9 => h9) rfl dP_bound_53 ?_
    refine vp_callSi (W.runS (As := [.int (iI py), .int (iI qy), .int (iI ry)]) (rest := []) ⟨hx, hb, hml, hown, hts⟩ (p_floorOfLeast l dC dI py qy ry (by omega) (by omega) (by omega)) (va_cwS 3 hts (tb_S mlP_50 smP_floorOfLeast iniP coP_floorOfLeast) rfl rfl rfl (by decide +kernel) (by subst hR; exact ⟨Nat.le_of_ble_eq_true rfl, Nat.le_of_ble_eq_true rfl⟩)) ⟨fun a9 U9 g9 mk9 q9 => q9, fun U hU hW => ⟨rfl, trivial⟩⟩ rfl rfl hl.1 rfl (lv_room (Nat.le_of_ble_eq_true rfl)) dP_bound_56 ⟨by subst hR; exact Nat.zero_le _, by subst hR; exact Nat.zero_le _⟩) (fun r_56 hw_56 => ?_)
    subst hw_56
    subst hQ
    exact W.iret (v := (iI (fol py qy ry))) hx hb hr (fun t9 ht9 hW9 => ⟨_, rfl, (by unfold pbd; rw [if_neg (by omega), if_pos hz_1]), ht9.trans hH⟩) (by rw [hlo]; intro q9 h9; cases h9) dP_bound_59
  · refine lv_tableIn (tgt := 60) hx hb dP_bound_1 (by rw [iI_toInt (by omega)]; omega) (by rw [iI_toInt (by omega)]; omega) (by rw [iI_toInt (by omega), hz_2]; rfl) (by decide) ?_
    refine lv_aload_n hx hb dP_bound_60 rfl (lv_at hl 0 rfl) ?_
    refine va_get (D := (dC, dI)) (ci := 0) (v := .int (iI px)) (C := RP) (T := TP) (N := 11) hx hb hts (fun w9 h9 => List.mem_cons_of_mem _ (inP w9 h9)) hown hK hP 0 rfl rfl 5 (by decide) (hts _ (List.mem_cons_of_mem _ flP_13)) (fun _ h9 => h9) rfl dP_bound_61 ?_
    refine xi_neg (z := -px) hx hb dP_bound_64 rfl ?_
    refine lv_aload_n hx hb dP_bound_65 rfl (lv_at hl 0 rfl) ?_
    refine va_get (D := (dC, dI)) (ci := 0) (v := .int (iI qx)) (C := RP) (T := TP) (N := 11) hx hb hts (fun w9 h9 => List.mem_cons_of_mem _ (inP w9 h9)) hown hK hP 0 rfl rfl 7 (by decide) (hts _ (List.mem_cons_of_mem _ flP_20)) (fun _ h9 => h9) rfl dP_bound_66 ?_
    refine xi_neg (z := -qx) hx hb dP_bound_69 rfl ?_
    refine lv_aload_n hx hb dP_bound_70 rfl (lv_at hl 0 rfl) ?_
    refine va_get (D := (dC, dI)) (ci := 0) (v := .int (iI rx)) (C := RP) (T := TP) (N := 11) hx hb hts (fun w9 h9 => List.mem_cons_of_mem _ (inP w9 h9)) hown hK hP 0 rfl rfl 9 (by decide) (hts _ (List.mem_cons_of_mem _ flP_26)) (fun _ h9 => h9) rfl dP_bound_71 ?_
    refine xi_neg (z := -rx) hx hb dP_bound_74 rfl ?_
    refine vp_callSi (W.runS (As := [.int (iI (-px)), .int (iI (-qx)), .int (iI (-rx))]) (rest := []) ⟨hx, hb, hml, hown, hts⟩ (p_floorOfLeast l dC dI (-px) (-qx) (-rx) (by omega) (by omega) (by omega)) (va_cwS 3 hts (tb_S mlP_50 smP_floorOfLeast iniP coP_floorOfLeast) rfl rfl rfl (by decide +kernel) (by subst hR; exact ⟨Nat.le_of_ble_eq_true rfl, Nat.le_of_ble_eq_true rfl⟩)) ⟨fun a9 U9 g9 mk9 q9 => q9, fun U hU hW => ⟨rfl, trivial⟩⟩ rfl rfl hl.1 rfl (lv_room (Nat.le_of_ble_eq_true rfl)) dP_bound_75 ⟨by subst hR; exact Nat.zero_le _, by subst hR; exact Nat.zero_le _⟩) (fun r_75 hw_75 => ?_)
    subst hw_75
    refine xi_neg (z := -(fol (-px) (-qx) (-rx))) hx hb dP_bound_78 rfl ?_
    subst hQ
    exact W.iret (v := (iI (-(fol (-px) (-qx) (-rx))))) hx hb hr (fun t9 ht9 hW9 => ⟨_, rfl, (by unfold pbd; rw [if_neg (by omega), if_neg (by omega), if_pos hz_2]), ht9.trans hH⟩) (by rw [hlo]; intro q9 h9; cases h9) dP_bound_79
  · refine lv_tableOut (tgt := 80) hx hb dP_bound_1 (by rw [iI_toInt (by omega)]; omega) (by decide) ?_
    refine lv_aload_n hx hb dP_bound_80 rfl (lv_at hl 0 rfl) ?_
    refine va_get (D := (dC, dI)) (ci := 0) (v := .int (iI py)) (C := RP) (T := TP) (N := 11) hx hb hts (fun w9 h9 => List.mem_cons_of_mem _ (inP w9 h9)) hown hK hP 0 rfl rfl 6 (by decide) (hts _ (List.mem_cons_of_mem _ flP_17)) (fun _ h9 => h9) rfl dP_bound_81 ?_
    refine xi_neg (z := -py) hx hb dP_bound_84 rfl ?_
    refine lv_aload_n hx hb dP_bound_85 rfl (lv_at hl 0 rfl) ?_
    refine va_get (D := (dC, dI)) (ci := 0) (v := .int (iI qy)) (C := RP) (T := TP) (N := 11) hx hb hts (fun w9 h9 => List.mem_cons_of_mem _ (inP w9 h9)) hown hK hP 0 rfl rfl 8 (by decide) (hts _ (List.mem_cons_of_mem _ flP_23)) (fun _ h9 => h9) rfl dP_bound_86 ?_
    refine xi_neg (z := -qy) hx hb dP_bound_89 rfl ?_
    refine lv_aload_n hx hb dP_bound_90 rfl (lv_at hl 0 rfl) ?_
    refine va_get (D := (dC, dI)) (ci := 0) (v := .int (iI ry)) (C := RP) (T := TP) (N := 11) hx hb hts (fun w9 h9 => List.mem_cons_of_mem _ (inP w9 h9)) hown hK hP 0 rfl rfl 10 (by decide) (hts _ (List.mem_cons_of_mem _ flP_29)) (fun _ h9 => h9) rfl dP_bound_91 ?_
    refine xi_neg (z := -ry) hx hb dP_bound_94 rfl ?_
    refine vp_callSi (W.runS (As := [.int (iI (-py)), .int (iI (-qy)), .int (iI (-ry))]) (rest := []) ⟨hx, hb, hml, hown, hts⟩ (p_floorOfLeast l dC dI (-py) (-qy) (-ry) (by omega) (by omega) (by omega)) (va_cwS 3 hts (tb_S mlP_50 smP_floorOfLeast iniP coP_floorOfLeast) rfl rfl rfl (by decide +kernel) (by subst hR; exact ⟨Nat.le_of_ble_eq_true rfl, Nat.le_of_ble_eq_true rfl⟩)) ⟨fun a9 U9 g9 mk9 q9 => q9, fun U hU hW => ⟨rfl, trivial⟩⟩ rfl rfl hl.1 rfl (lv_room (Nat.le_of_ble_eq_true rfl)) dP_bound_95 ⟨by subst hR; exact Nat.zero_le _, by subst hR; exact Nat.zero_le _⟩) (fun r_95 hw_95 => ?_)
    subst hw_95
    refine xi_neg (z := -(fol (-py) (-qy) (-ry))) hx hb dP_bound_98 rfl ?_
    subst hQ
    exact W.iret (v := (iI (-(fol (-py) (-qy) (-ry))))) hx hb hr (fun t9 ht9 hW9 => ⟨_, rfl, (by unfold pbd; rw [if_neg (by omega), if_neg (by omega), if_neg (by omega)]), ht9.trans hH⟩) (by rw [hlo]; intro q9 h9; cases h9) dP_bound_99
set_option maxHeartbeats 4000000 in
set_option maxRecDepth 100000 in
/-- curveEnd -/
theorem k_curveEnd (l : Launch) (dC : Nat → ClassId) (dI : Nat → Nat → Nat) (h0 a1 a2 a3 a4 a5 a6 : Nat) (nc np op : Int) (par : Bool) (aF : Nat) (cO cF : ClassId) (O : Int → Bool) (F : Int → Int) (i nb : Int) (hi : 0 ≤ i ∧ i < 512) (hnb : 0 ≤ nb ∧ nb < 512) (h1 : -8192 ≤ F i ∧ F i ≤ 8191) (h2 : -8192 ≤ F nb ∧ F nb ≤ 8191) : Met l yC_curveEnd wC_curveEnd ({ frames := 1, cells := 0, slots := 0, locals := 22 }) (va_Pc [.ref h0, .ref aF, .int (iI i), .int (iI nb)] (fun U => va_P (dC, dI) vwCl [(h0, .inr (2, [.ref a1, .ref a2, .ref a3, .ref a4, .ref a5, .ref a6, .int (iI nc), .int (iI np), .int (iI op), .int (iI (bz par))])), (a3, .inl (cO, 512, .inl (aB O))), (aF, .inl (cF, 512, .inl (aI F)))] U.heap ∧ va_K (dC, dI) vwCl [(cO, .boolean), (cF, .int)] U)) (vp_Si (fun r => r = iI (cen F O i nb))) 0 0 (fun _ => False) := by
  refine Met.ofW (cc := cC_curveEnd) (maxL := 4) (ret := (some .int)) (by decide) rfl ?_
  intro p e s m args below meth c s₁ B hml hv
  obtain ⟨hargs, hP, hK⟩ := hv
  have hx := B.exec
  have hb := B.bytes
  have hr := B.returns
  have hts := atoms_spec (ws := wC_curveEnd) B.pre
  have hown : s.vm.findClass RC = some m.cls := findClass_of_methodNamed B.named
  have hlocks := B.notSynchronized
  refine x_name (fun R Q H locs hR hQ hH hlo => ?_)
  rw [← hH] at hP
  refine x_entry hargs (Nat.le_of_ble_eq_true rfl) (fun ls hl => ?_)
  have hl : lv_has ls 4 [(0, .ref h0), (1, .ref aF), (2, .int (iI i)), (3, .int (iI nb))] := hl
  have hP : va_P (dC, dI) vwCl [(h0, .inr (2, [.ref a1, .ref a2, .ref a3, .ref a4, .ref a5, .ref a6, .int (iI nc), .int (iI np), .int (iI op), .int (iI (bz par))])), (a3, .inl (cO, 512, .inl (aB O))), (aF, .inl (cF, 512, .inl (aI F)))] H := hP
  refine lv_aload_n hx hb dC_curveEnd_0 rfl (lv_at hl 0 rfl) ?_
  refine va_get (D := (dC, dI)) (ci := 2) (v := .ref a3) (C := RC) (T := TC) (N := 10) hx hb hts (fun w9 h9 => List.mem_cons_of_mem _ (inC w9 h9)) hown hK hP 0 rfl rfl 2 (by decide) (hts _ (List.mem_cons_of_mem _ flC_16)) (fun _ h9 => h9) rfl dC_curveEnd_1 ?_
  refine lv_iload_n hx hb dC_curveEnd_4 rfl (lv_at hl 3 rfl) ?_
  refine xa_zald hx hb hK hP 1 0 rfl rfl (by decide) (by omega) dC_curveEnd_5 ?_
  refine xb_if_eq (tgt := 13) hx hb dC_curveEnd_6 (by decide) (fun c_6 => ?_) (fun c_6 => ?_)
  · skip
    refine lv_aload_n hx hb dC_curveEnd_13 rfl (lv_at hl 1 rfl) ?_
    refine lv_iload_n hx hb dC_curveEnd_14 rfl (lv_at hl 2 rfl) ?_
    refine xa_iald hx hb hK hP 2 1 rfl rfl (by decide) (by omega) dC_curveEnd_15 ?_
    refine lv_aload_n hx hb dC_curveEnd_16 rfl (lv_at hl 1 rfl) ?_
    refine lv_iload_n hx hb dC_curveEnd_17 rfl (lv_at hl 3 rfl) ?_
    refine xa_iald hx hb hK hP 2 1 rfl rfl (by decide) (by omega) dC_curveEnd_18 ?_
    refine xi_add (z := (F i) + (F nb)) hx hb dC_curveEnd_19 rfl ?_
    refine xi_iconst hx hb dC_curveEnd_20 ?_
    refine vp_callSi (W.runS (As := [.int (iI ((F i) + (F nb))), .int (iI 2)]) (rest := []) ⟨hx, hb, hml, hown, hts⟩ (j_floorDiv l dC dI (F i + F nb) 2 (by omega) (by omega)) (va_cwS 2 hts (tb_S mlC_163 smJM_floorDiv iniJM coJM_floorDiv) rfl rfl rfl (by decide +kernel) (by subst hR; exact ⟨Nat.le_of_ble_eq_true rfl, Nat.le_of_ble_eq_true rfl⟩)) ⟨fun a9 U9 g9 mk9 q9 => q9, fun U hU hW => ⟨rfl, trivial⟩⟩ rfl rfl hl.1 rfl (lv_room (Nat.le_of_ble_eq_true rfl)) dC_curveEnd_21 ⟨by subst hR; exact Nat.zero_le _, by subst hR; exact Nat.zero_le _⟩) (fun r_21 hw_21 => ?_)
    subst hw_21
    subst hQ
    exact W.iret (v := (iI ((F i + F nb) / 2))) hx hb hr (fun t9 ht9 hW9 => ⟨_, rfl, (by unfold cen; rw [if_neg (by rw [c_6]; decide)]), ht9.trans hH⟩) (by rw [hlo]; intro q9 h9; cases h9) dC_curveEnd_24
  · skip
    refine lv_aload_n hx hb dC_curveEnd_9 rfl (lv_at hl 1 rfl) ?_
    refine lv_iload_n hx hb dC_curveEnd_10 rfl (lv_at hl 3 rfl) ?_
    refine xa_iald hx hb hK hP 2 1 rfl rfl (by decide) (by omega) dC_curveEnd_11 ?_
    subst hQ
    exact W.iret (v := (iI (F nb))) hx hb hr (fun t9 ht9 hW9 => ⟨_, rfl, (by unfold cen; rw [if_pos c_6]), ht9.trans hH⟩) (by rw [hlo]; intro q9 h9; cases h9) dC_curveEnd_12
set_option maxHeartbeats 4000000 in
set_option maxRecDepth 100000 in
/-- isIn -/
theorem k_isIn (l : Launch) (dC : Nat → ClassId) (dI : Nat → Nat → Nat) (h0 a1 a2 a3 a4 a5 a6 : Nat) (nc np op : Int) (par : Bool) (w : Int) (hw : -2147483648 ≤ w ∧ w ≤ 2147483647) : Met l yC_isIn wC_isIn ({ frames := 0, cells := 0, slots := 0, locals := 0 }) (va_Pc [.ref h0, .int (iI w)] (fun U => va_P (dC, dI) vwCl [(h0, .inr (2, [.ref a1, .ref a2, .ref a3, .ref a4, .ref a5, .ref a6, .int (iI nc), .int (iI np), .int (iI op), .int (iI (bz par))]))] U.heap ∧ va_K (dC, dI) vwCl [] U)) (vp_Si (fun r => r = iI (bz (isin par w)))) 0 0 (fun _ => False) := by
  refine Met.ofW (cc := cC_isIn) (maxL := 2) (ret := (some .boolean)) (by decide) rfl ?_
  intro p e s m args below meth c s₁ B hml hv
  obtain ⟨hargs, hP, hK⟩ := hv
  have hx := B.exec
  have hb := B.bytes
  have hr := B.returns
  have hts := atoms_spec (ws := wC_isIn) B.pre
  have hown : s.vm.findClass RC = some m.cls := findClass_of_methodNamed B.named
  have hlocks := B.notSynchronized
  refine x_name (fun R Q H locs hR hQ hH hlo => ?_)
  rw [← hH] at hP
  refine x_entry hargs (Nat.le_of_ble_eq_true rfl) (fun ls hl => ?_)
  have hl : lv_has ls 2 [(0, .ref h0), (1, .int (iI w))] := hl
  have hP : va_P (dC, dI) vwCl [(h0, .inr (2, [.ref a1, .ref a2, .ref a3, .ref a4, .ref a5, .ref a6, .int (iI nc), .int (iI np), .int (iI op), .int (iI (bz par))]))] H := hP
  have cut_30_1 : ∀ (v : Bool) (ls : Array Slot), (v = isin par w) → lv_has ls 2 [(0, .ref h0), (1, .int (iI w))] → W p l e R s m args below meth c H locs 0 0 Q (F0 m 30 ls [.int (iI (bz v))]) := by
    intro v ls hv hl
    subst hQ
    exact W.zret (v := (iI (bz v))) hx hb hr (xi_narZ2 _) (fun t9 ht9 hW9 => ⟨_, rfl, (by rw [hv]), ht9.trans hH⟩) (by rw [hlo]; intro q9 h9; cases h9) dC_isIn_30
  refine lv_aload_n hx hb dC_isIn_0 rfl (lv_at hl 0 rfl) ?_
  refine va_get (D := (dC, dI)) (ci := 2) (v := .int (iI (bz par))) (C := RC) (T := TC) (N := 10) hx hb hts (fun w9 h9 => List.mem_cons_of_mem _ (inC w9 h9)) hown hK hP 0 rfl rfl 9 (by decide) (hts _ (List.mem_cons_of_mem _ flC_46)) (fun _ h9 => h9) rfl dC_isIn_1 ?_
  refine xb_if_eq (tgt := 21) hx hb dC_isIn_4 (by decide) (fun c_4 => ?_) (fun c_4 => ?_)
  · skip
    refine lv_iload_n hx hb dC_isIn_21 rfl (lv_at hl 1 rfl) ?_
    refine xi_if_eq (tgt := 29) hx hb dC_isIn_22 (by decide) (by omega) (fun c_22 => ?_) (fun c_22 => ?_)
    · skip
      refine xi_iconst hx hb dC_isIn_29 ?_
      exact cut_30_1 false _ (by unfold isin; rw [if_neg (by rw [c_4]; decide), decide_eq_false (by omega)]) (lv_sub hl [0, 1] rfl)
    · skip
      refine xi_iconst hx hb dC_isIn_25 ?_
      refine lv_goto (tgt := 30) hx hb dC_isIn_26 (by decide) ?_
      exact cut_30_1 true _ (by unfold isin; rw [if_neg (by rw [c_4]; decide), decide_eq_true (by omega)]) (lv_sub hl [0, 1] rfl)
  · skip
    refine lv_iload_n hx hb dC_isIn_7 rfl (lv_at hl 1 rfl) ?_
    refine xi_iconst hx hb dC_isIn_8 ?_
    refine lv_iand hx hb dC_isIn_9 ?_
    refine xi_top (y := .int (iI (w % 2))) (by rw [iI_and1]) ?_
    refine xi_if_eq (tgt := 17) hx hb dC_isIn_10 (by decide) (by omega) (fun c_10 => ?_) (fun c_10 => ?_)
    · skip
      refine xi_iconst hx hb dC_isIn_17 ?_
      refine lv_goto (tgt := 30) hx hb dC_isIn_18 (by decide) ?_
      exact cut_30_1 false _ (by unfold isin; rw [if_pos c_4, decide_eq_false (by omega)]) (lv_sub hl [0, 1] rfl)
    · skip
      refine xi_iconst hx hb dC_isIn_13 ?_
      refine lv_goto (tgt := 30) hx hb dC_isIn_14 (by decide) ?_
      exact cut_30_1 true _ (by unfold isin; rw [if_pos c_4, decide_eq_true (by omega)]) (lv_sub hl [0, 1] rfl)
set_option maxHeartbeats 4000000 in
set_option maxRecDepth 100000 in
/-- Arrays.fill of the windings -/
theorem j_fill (l : Launch) (dC : Nat → ClassId) (dI : Nat → Nat → Nat) (sz : Nat) (h0 : Nat) (cF : ClassId) (F : Int → Int) (v : Int) : Met l yJA_fill wJA_fill ({ frames := 0, cells := 0, slots := 0, locals := 0 }) (va_Pc [.ref h0, .int (iI v)] (fun U => U.heap.size = sz ∧ va_P (dC, dI) vwCl [(h0, .inl (cF, 65, .inl (aI F)))] U.heap ∧ va_K (dC, dI) vwCl [(cF, .int)] U ∧ va_D (fun _ => True) [(h0, .inl (cF, 65, .inl (aI F)))])) (va_Qv (fun (u : Int → Int) => ∀ k : Int, 0 ≤ k → k < 65 → u k = v) (fun (u : Int → Int) t9 => va_P (dC, dI) vwCl [(h0, .inl (cF, 65, .inl (aI u)))] t9.heap ∧ va_K (dC, dI) vwCl [(cF, .int)] t9 ∧ va_D (va_A [(h0, .inl (cF, 65, .inl (aI F)))] sz) [(h0, .inl (cF, 65, .inl (aI u)))]) (va_A [(h0, .inl (cF, 65, .inl (aI F)))] sz)) 0 0 (va_A [(h0, .inl (cF, 65, .inl (aI F)))] sz) := by
  refine va_MetF (cc := cJA_fill) (maxL := 4) (ret := none) (by decide +kernel) rfl ?_
  intro p e s m args below meth c s₁ B hml hv
  obtain ⟨hargs, hsz, hP, hK, hD0⟩ := hv
  have hx := B.exec
  have hb := B.bytes
  have hr := B.returns
  have hts := atoms_spec (ws := wJA_fill) B.pre
  have hown : s.vm.findClass RJA = some m.cls := findClass_of_methodNamed B.named
  have hlocks := B.notSynchronized
  subst hsz
  have hD := hD0.self (sz := s.heap.size)
  generalize hAe : va_A [(h0, .inl (cF, 65, .inl (aI F)))] s.heap.size = A at hD ⊢
  have hA : ∀ q : Nat, s.heap.size ≤ q → A q := fun q h => by rw [← hAe]; exact Or.inr h
  have hS0 : va_S A s.heap s.heap [] := va_S.rf
  refine x_name (fun R Q H locs hR hQ hH hlo => ?_)
  rw [← hH] at hP
  have hS : va_S A s.heap H locs := by rw [hH, hlo]; exact hS0
  refine x_entry hargs (Nat.le_of_ble_eq_true rfl) (fun ls hl => ?_)
  have hl : lv_has ls 4 [(0, .ref h0), (1, .int (iI v))] := hl
  have hP : va_P (dC, dI) vwCl [(h0, .inl (cF, 65, .inl (aI F)))] H := hP
  refine xi_iconst hx hb dJA_fill_0 ?_
  refine lv_istore_n (lv' := [(2, .int (iI 0)), (0, .ref h0), (1, .int (iI v))]) hx hb dJA_fill_1 rfl hl (by decide) rfl (fun ls hl => ?_)
  refine lv_aload_n hx hb dJA_fill_2 rfl (lv_at hl 1 rfl) ?_
  refine va_alen (v := iI 65) hx hb hK hP 0 0 rfl rfl (show Int32.ofNat 65 = iI 65 by decide +kernel) dJA_fill_3 ?_
  refine lv_istore_n (lv' := [(3, .int (iI 65)), (2, .int (iI 0)), (0, .ref h0), (1, .int (iI v))]) hx hb dJA_fill_4 rfl hl (by decide) rfl (fun ls hl => ?_)
  have cut_5_1 : ∀ (fu_5 : Nat) (z : Int) (G : Int → Int) (H : Heap) (locs : List Loc) (ls : Array Slot), ((65 - z).toNat) < fu_5 → (0 ≤ z ∧ z ≤ 65) → (∀ k : Int, 0 ≤ k → k < z → G k = v) → va_P (dC, dI) vwCl [(h0, .inl (cF, 65, .inl (aI G)))] H → va_D A [(h0, .inl (cF, 65, .inl (aI G)))] → va_S A s.heap H locs → lv_has ls 4 [(0, .ref h0), (1, .int (iI v)), (2, .int (iI z)), (3, .int (iI 65))] → W p l e R s m args below meth c H locs 0 0 Q (F0 m 5 ls []) := by
    intro fu_5
    induction fu_5 with
    | zero => intro _ _ _ _ _ hm; exact absurd hm (Nat.not_lt_zero _)
    | succ fu_5 ih_5 =>
      intro z G H locs ls hm i1 i2 hP hD hS hl
      refine lv_iload_n hx hb dJA_fill_5 rfl (lv_at hl 2 rfl) ?_
      refine lv_iload_n hx hb dJA_fill_6 rfl (lv_at hl 3 rfl) ?_
      refine xi_icmp_ge (tgt := 20) hx hb dJA_fill_7 (by decide) (by omega) (by omega) (fun c_7 => ?_) (fun c_7 => ?_)
      · skip
        subst hQ
        exact W.vret hx hb hr (fun t9 ht9 hW9 => ⟨⟨G, rfl, (fun k h1 h2 => i2 k h1 (by omega)), by rw [ht9]; exact hP, va_K.moved hW9.alike hK, hD⟩, hS.F ht9⟩) hS.2.2 dJA_fill_20
      · skip
        refine lv_aload_n hx hb dJA_fill_10 rfl (lv_at hl 0 rfl) ?_
        refine lv_iload_n hx hb dJA_fill_11 rfl (lv_at hl 2 rfl) ?_
        refine lv_iload_n hx hb dJA_fill_12 rfl (lv_at hl 1 rfl) ?_
        refine xa_iast (z := z) (v := v) hx hb hK hP hD hS 0 0 rfl rfl (by decide) (by omega) dJA_fill_13 (fun H locs hP hD hS => ?_)
        have hP : va_P (dC, dI) vwCl [(h0, .inl (cF, 65, .inl (aI (up G z v))))] H := hP
        have hD : va_D A [(h0, .inl (cF, 65, .inl (aI (up G z v))))] := hD
        refine xi_iinc (z := z + 1) (lv' := [(2, .int (iI (z + 1))), (0, .ref h0), (1, .int (iI v)), (3, .int (iI 65))]) hx hb dJA_fill_14 hl (k := 2) rfl rfl (by decide) rfl (fun ls hl => ?_)
        refine lv_goto (tgt := 5) hx hb dJA_fill_17 (by decide) ?_
        exact ih_5 (z + 1) (up G z v) _ _ _ (by omega) (by omega) (fun k h1 h2 => by (by_cases h : k = z; (rw [h, up_s]); (rw [up_n _ _ h]; exact i2 k h1 (by omega)))) hP hD hS (lv_sub hl [1, 2, 0, 3] rfl)
  exact cut_5_1 (((65 - (0 : Int)).toNat) + 1) 0 F _ _ _ (Nat.lt_succ_self _) (by omega) (fun k h1 h2 => by omega) hP hD hS (lv_sub hl [2, 3, 1, 0] rfl)
