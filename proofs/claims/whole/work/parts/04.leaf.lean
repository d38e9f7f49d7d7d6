/-! leaves -/
theorem dec_t {P : Prop} [Decidable P] (h : P) : true = decide P := by simp [h]
theorem dec_f {P : Prop} [Decidable P] (h : ¬ P) : false = decide P := by simp [h]
def sgn (z : Int) : Int := if 0 < z then 1 else if z < 0 then -1 else 0
theorem sgn_p {z : Int} (h : 0 < z) : sgn z = 1 := if_pos h
theorem sgn_n {z : Int} (h : z < 0) : sgn z = -1 := by unfold sgn; rw [if_neg (by omega), if_pos h]
theorem sgn_0 {z : Int} (h : z = 0) : sgn z = 0 := by subst h; rfl
theorem sgn_in (z : Int) : (0 < z ∧ sgn z = 1) ∨ (z < 0 ∧ sgn z = -1) ∨ (z = 0 ∧ sgn z = 0) := by
  rcases Int.lt_trichotomy z 0 with h | h | h
  · exact Or.inr (Or.inl ⟨h, sgn_n h⟩)
  · exact Or.inr (Or.inr ⟨h, sgn_0 h⟩)
  · exact Or.inl ⟨h, sgn_p h⟩
theorem fd_eq {a b : Int} (h : a.tdiv b * b = a) : a / b = a.tdiv b := by
  rw [Int.tdiv_eq_ediv, if_pos (Or.inr ⟨a.tdiv b, by rw [Int.mul_comm]; exact h.symm⟩), Int.add_zero]
theorem fd_ne {a b : Int} (ha : a < 0) (hb : 0 < b) (h : a.tdiv b * b ≠ a) : a / b = a.tdiv b - 1 := by
  rw [Int.tdiv_eq_ediv, if_neg (fun q => q.elim (fun q => by omega) (fun ⟨k, hk⟩ => h (by rw [hk, Int.mul_tdiv_cancel_left _ (by omega), Int.mul_comm]))), Int.sign_eq_one_of_pos hb]; omega
theorem td_bd {a b : Int} (ha : -2147483648 ≤ a ∧ a ≤ 2147483647) (hb : 0 < b) : (0 ≤ a → 0 ≤ a.tdiv b ∧ a.tdiv b ≤ a ∧ a.tdiv b = a / b) ∧ (a < 0 → a ≤ a.tdiv b ∧ a.tdiv b ≤ 0 ∧ a ≤ a.tdiv b * b ∧ a.tdiv b * b ≤ 0) := by
  refine ⟨fun h => ?_, fun h => ?_⟩
  · rw [Int.tdiv_eq_ediv_of_nonneg h]
    exact ⟨Int.ediv_nonneg h (by omega), Int.ediv_le_self _ h, rfl⟩
  · obtain ⟨c, rfl⟩ : ∃ c, a = -c := ⟨-a, by omega⟩
    rw [Int.neg_tdiv, Int.tdiv_eq_ediv_of_nonneg (by omega)]
    have h1 : 0 ≤ c / b := Int.ediv_nonneg (by omega) (by omega)
    have h2 : c / b ≤ c := Int.ediv_le_self _ (by omega)
    have h3 : c / b * b ≤ c := Int.ediv_mul_le _ (by omega)
    have h4 : 0 ≤ c / b * b := Int.mul_nonneg h1 (by omega)
    have h5 : -(c / b) * b = -(c / b * b) := Int.neg_mul _ _
    exact ⟨by omega, by omega, by omega, by omega⟩
theorem iI_tdiv {a b : Int} (ha : -2147483648 ≤ a ∧ a ≤ 2147483647) (hb : 0 < b ∧ b ≤ 2147483647) : iI a / iI b = iI (a.tdiv b) := by
  apply Int32.toInt_inj.mp
  have h1 := td_bd ha hb.1
  have h2 : -2147483648 ≤ a.tdiv b ∧ a.tdiv b ≤ 2147483647 := by
    rcases Int.lt_or_le a 0 with h | h
    · have := h1.2 h; omega
    · have := h1.1 h; omega
  rw [Int32.toInt_div_of_ne_right _ _ (fun h => by have h2 := congrArg Int32.toInt h; rw [iI_toInt (by omega)] at h2; have h3 : (-1 : Int32).toInt = -1 := by decide +kernel
                                                   omega), iI_toInt ha, iI_toInt (by omega), iI_toInt h2]
theorem fd_xor {a b : Int} (ha : -2147483648 ≤ a ∧ a ≤ 2147483647) (hb : 0 < b ∧ b ≤ 2147483647) : 0 ≤ iI a ^^^ iI b ↔ 0 ≤ a := by
  rw [Int32.le_iff_toInt_le]
  have h1 : (iI a).toBitVec.msb = decide (a < 0) := by rw [BitVec.msb_eq_toInt]; show decide ((iI a).toInt < 0) = _; rw [iI_toInt ha]
  have h2 : (iI b).toBitVec.msb = decide (b < 0) := by rw [BitVec.msb_eq_toInt]; show decide ((iI b).toInt < 0) = _; rw [iI_toInt (by omega)]
  have h3 : (iI a ^^^ iI b).toBitVec.msb = decide (a < 0) := by rw [Int32.toBitVec_xor, BitVec.msb_xor, h1, h2, decide_eq_false (show ¬ b < 0 by omega), Bool.xor_false]
  rw [BitVec.msb_eq_toInt] at h3
  have h4 : (iI a ^^^ iI b).toInt < 0 ↔ a < 0 := by
    have h5 : decide ((iI a ^^^ iI b).toInt < 0) = decide (a < 0) := h3
    simpa using h5
  have h6 : (0 : Int32).toInt = 0 := by decide +kernel
  rw [h6]
  omega
theorem xi_min {a b : Int} (ha : -2147483648 ≤ a ∧ a ≤ 2147483647) (hb : -2147483648 ≤ b ∧ b ≤ 2147483647) : (if iI b < iI a then iI b else iI a) = iI (min a b) := by
  by_cases h : b < a
  · rw [if_pos ((iI_lt hb ha).mpr h), Int.min_eq_right (by omega)]
  · rw [if_neg (fun q => h ((iI_lt hb ha).mp q)), Int.min_eq_left (by omega)]
theorem xi_max {a b : Int} (ha : -2147483648 ≤ a ∧ a ≤ 2147483647) (hb : -2147483648 ≤ b ∧ b ≤ 2147483647) : (if iI a < iI b then iI b else iI a) = iI (max a b) := by
  by_cases h : a < b
  · rw [if_pos ((iI_lt ha hb).mpr h), Int.max_eq_right (by omega)]
  · rw [if_neg (fun q => h ((iI_lt ha hb).mp q)), Int.max_eq_left (by omega)]
/-- the whole number next below the least of a line or curve, by its three points -/
def fol (p q r : Int) : Int := if q < p ∧ q < r then p + (-(q - p) * (q - p)) / (p - 2 * q + r) else min p r
set_option maxHeartbeats 4000000 in
set_option maxRecDepth 100000 in
/-- canBeTold -/
theorem k_canBeTold (l : Launch) (dC : Nat → ClassId) (dI : Nat → Nat → Nat) (z : Int) (hz : -9223372036854775808 ≤ z ∧ z ≤ 9223372036854775807) : Met l yC_canBeTold wC_canBeTold ({ frames := 0, cells := 0, slots := 0, locals := 0 }) (va_Pc [.long (lI z)] (fun _ => True)) (vp_Si (fun r => r = iI (bz (decide (-8192 ≤ z ∧ z ≤ 8191))))) 0 0 (fun _ => False) := by
  refine Met.ofW (cc := cC_canBeTold) (maxL := 2) (ret := (some .boolean)) (by decide) rfl ?_
  intro p e s m args below meth c s₁ B hml hv
  obtain ⟨hargs, -⟩ := hv
  have hx := B.exec
  have hb := B.bytes
  have hr := B.returns
  have hts := atoms_spec (ws := wC_canBeTold) B.pre
  have hown : s.vm.findClass RC = some m.cls := findClass_of_methodNamed B.named
  have hlocks := B.notSynchronized
  refine x_name (fun R Q H locs hR hQ hH hlo => ?_)
  refine x_entry hargs (Nat.le_of_ble_eq_true rfl) (fun ls hl => ?_)
  have hl : lv_has ls 2 [(0, .long (lI z))] := hl
  have cut_21_1 : ∀ (v : Bool) (ls : Array Slot), (v = decide (-8192 ≤ z ∧ z ≤ 8191)) → lv_has ls 2 [(0, .long (lI z))] → W p l e R s m args below meth c H locs 0 0 Q (F0 m 21 ls [.int (iI (bz v))]) := by
    intro v ls hv hl
    subst hQ
    exact W.zret (v := (iI (bz v))) hx hb hr (xi_narZ2 _) (fun t9 ht9 hW9 => ⟨_, rfl, (by rw [hv]), ht9.trans hH⟩) (by rw [hlo]; intro q9 h9; cases h9) dC_canBeTold_21
  refine lv_lload_n hx hb dC_canBeTold_0 rfl (lv_at hl 0 rfl) ?_
  refine lv_ldc2 (v := (-8192)) hx hb hown (hts _ (List.mem_cons_of_mem _ klC_152)) dC_canBeTold_1 ?_
  refine xi_top (y := .long (lI (-8192))) (by decide +kernel) ?_
  refine xl_lt (tgt := 20) hx hb dC_canBeTold_4 dC_canBeTold_5 (by decide) (by omega) (by omega) (fun c_4 => ?_) (fun c_4 => ?_)
  · skip
    refine xi_iconst hx hb dC_canBeTold_20 ?_
    exact cut_21_1 false _ (dec_f (by omega)) (lv_sub hl [0] rfl)
  · skip
    refine lv_lload_n hx hb dC_canBeTold_8 rfl (lv_at hl 0 rfl) ?_
    refine lv_ldc2 (v := 8191) hx hb hown (hts _ (List.mem_cons_of_mem _ klC_154)) dC_canBeTold_9 ?_
    refine xi_top (y := .long (lI 8191)) (by decide +kernel) ?_
    refine xl_gt (tgt := 20) hx hb dC_canBeTold_12 dC_canBeTold_13 (by decide) (by omega) (by omega) (fun c_12 => ?_) (fun c_12 => ?_)
    · skip
      refine xi_iconst hx hb dC_canBeTold_20 ?_
      exact cut_21_1 false _ (dec_f (by omega)) (lv_sub hl [0] rfl)
    · skip
      refine xi_iconst hx hb dC_canBeTold_16 ?_
      refine lv_goto (tgt := 21) hx hb dC_canBeTold_17 (by decide) ?_
      exact cut_21_1 true _ (dec_t (by omega)) (lv_sub hl [0] rfl)
set_option maxHeartbeats 4000000 in
set_option maxRecDepth 100000 in
/-- canBeAsked -/
theorem k_canBeAsked (l : Launch) (dC : Nat → ClassId) (dI : Nat → Nat → Nat) (z : Int) (hz : -2147483648 ≤ z ∧ z ≤ 2147483647) : Met l yC_canBeAsked wC_canBeAsked ({ frames := 0, cells := 0, slots := 0, locals := 0 }) (va_Pc [.int (iI z)] (fun _ => True)) (vp_Si (fun r => r = iI (bz (decide (-16384 ≤ z ∧ z ≤ 16383))))) 0 0 (fun _ => False) := by
  refine Met.ofW (cc := cC_canBeAsked) (maxL := 1) (ret := (some .boolean)) (by decide) rfl ?_
  intro p e s m args below meth c s₁ B hml hv
  obtain ⟨hargs, -⟩ := hv
  have hx := B.exec
  have hb := B.bytes
  have hr := B.returns
  have hts := atoms_spec (ws := wC_canBeAsked) B.pre
  have hown : s.vm.findClass RC = some m.cls := findClass_of_methodNamed B.named
  have hlocks := B.notSynchronized
  refine x_name (fun R Q H locs hR hQ hH hlo => ?_)
  refine x_entry hargs (Nat.le_of_ble_eq_true rfl) (fun ls hl => ?_)
  have hl : lv_has ls 1 [(0, .int (iI z))] := hl
  have cut_19_1 : ∀ (v : Bool) (ls : Array Slot), (v = decide (-16384 ≤ z ∧ z ≤ 16383)) → lv_has ls 1 [(0, .int (iI z))] → W p l e R s m args below meth c H locs 0 0 Q (F0 m 19 ls [.int (iI (bz v))]) := by
    intro v ls hv hl
    subst hQ
    exact W.zret (v := (iI (bz v))) hx hb hr (xi_narZ2 _) (fun t9 ht9 hW9 => ⟨_, rfl, (by rw [hv]), ht9.trans hH⟩) (by rw [hlo]; intro q9 h9; cases h9) dC_canBeAsked_19
  refine lv_iload_n hx hb dC_canBeAsked_0 rfl (lv_at hl 0 rfl) ?_
  refine lv_sipush (v := iI (-16384)) hx hb dC_canBeAsked_1 (by decide +kernel) ?_
  refine xi_icmp_lt (tgt := 18) hx hb dC_canBeAsked_4 (by decide) (by omega) (by omega) (fun c_4 => ?_) (fun c_4 => ?_)
  · skip
    refine xi_iconst hx hb dC_canBeAsked_18 ?_
    exact cut_19_1 false _ (dec_f (by omega)) (lv_sub hl [0] rfl)
  · skip
    refine lv_iload_n hx hb dC_canBeAsked_7 rfl (lv_at hl 0 rfl) ?_
    refine lv_sipush (v := iI 16383) hx hb dC_canBeAsked_8 (by decide +kernel) ?_
    refine xi_icmp_gt (tgt := 18) hx hb dC_canBeAsked_11 (by decide) (by omega) (by omega) (fun c_11 => ?_) (fun c_11 => ?_)
    · skip
      refine xi_iconst hx hb dC_canBeAsked_18 ?_
      exact cut_19_1 false _ (dec_f (by omega)) (lv_sub hl [0] rfl)
    · skip
      refine xi_iconst hx hb dC_canBeAsked_14 ?_
      refine lv_goto (tgt := 19) hx hb dC_canBeAsked_15 (by decide) ?_
      exact cut_19_1 true _ (dec_t (by omega)) (lv_sub hl [0] rfl)
set_option maxHeartbeats 4000000 in
set_option maxRecDepth 100000 in
/-- isInPicture -/
theorem k_isInPicture (l : Launch) (dC : Nat → ClassId) (dI : Nat → Nat → Nat) (z : Int) (hz : -2147483648 ≤ z ∧ z ≤ 2147483647) : Met l yC_isInPicture wC_isInPicture ({ frames := 0, cells := 0, slots := 0, locals := 0 }) (va_Pc [.int (iI z)] (fun _ => True)) (vp_Si (fun r => r = iI (bz (decide (0 ≤ z ∧ z < 64))))) 0 0 (fun _ => False) := by
  refine Met.ofW (cc := cC_isInPicture) (maxL := 1) (ret := (some .boolean)) (by decide) rfl ?_
  intro p e s m args below meth c s₁ B hml hv
  obtain ⟨hargs, -⟩ := hv
  have hx := B.exec
  have hb := B.bytes
  have hr := B.returns
  have hts := atoms_spec (ws := wC_isInPicture) B.pre
  have hown : s.vm.findClass RC = some m.cls := findClass_of_methodNamed B.named
  have hlocks := B.notSynchronized
  refine x_name (fun R Q H locs hR hQ hH hlo => ?_)
  refine x_entry hargs (Nat.le_of_ble_eq_true rfl) (fun ls hl => ?_)
  have hl : lv_has ls 1 [(0, .int (iI z))] := hl
  have cut_15_1 : ∀ (v : Bool) (ls : Array Slot), (v = decide (0 ≤ z ∧ z < 64)) → lv_has ls 1 [(0, .int (iI z))] → W p l e R s m args below meth c H locs 0 0 Q (F0 m 15 ls [.int (iI (bz v))]) := by
    intro v ls hv hl
    subst hQ
    exact W.zret (v := (iI (bz v))) hx hb hr (xi_narZ2 _) (fun t9 ht9 hW9 => ⟨_, rfl, (by rw [hv]), ht9.trans hH⟩) (by rw [hlo]; intro q9 h9; cases h9) dC_isInPicture_15
  refine lv_iload_n hx hb dC_isInPicture_0 rfl (lv_at hl 0 rfl) ?_
  refine xi_if_lt (tgt := 14) hx hb dC_isInPicture_1 (by decide) (by omega) (fun c_1 => ?_) (fun c_1 => ?_)
  · skip
    refine xi_iconst hx hb dC_isInPicture_14 ?_
    exact cut_15_1 false _ (dec_f (by omega)) (lv_sub hl [0] rfl)
  · skip
    refine lv_iload_n hx hb dC_isInPicture_4 rfl (lv_at hl 0 rfl) ?_
    refine lv_bipush (v := iI 64) hx hb dC_isInPicture_5 (by decide +kernel) ?_
    refine xi_icmp_ge (tgt := 14) hx hb dC_isInPicture_7 (by decide) (by omega) (by omega) (fun c_7 => ?_) (fun c_7 => ?_)
    · skip
      refine xi_iconst hx hb dC_isInPicture_14 ?_
      exact cut_15_1 false _ (dec_f (by omega)) (lv_sub hl [0] rfl)
    · skip
      refine xi_iconst hx hb dC_isInPicture_10 ?_
      refine lv_goto (tgt := 15) hx hb dC_isInPicture_11 (by decide) ?_
      exact cut_15_1 true _ (dec_t (by omega)) (lv_sub hl [0] rfl)
set_option maxHeartbeats 4000000 in
set_option maxRecDepth 100000 in
/-- isCoordinate -/
theorem m_isCoordinate (l : Launch) (dC : Nat → ClassId) (dI : Nat → Nat → Nat) (z : Int) (hz : -9223372036854775808 ≤ z ∧ z ≤ 9223372036854775807) : Met l yM_isCoordinate wM_isCoordinate ({ frames := 0, cells := 0, slots := 0, locals := 0 }) (va_Pc [.long (lI z)] (fun _ => True)) (vp_Si (fun r => r = iI (bz (decide (-8192 ≤ z ∧ z ≤ 8191))))) 0 0 (fun _ => False) := by
  refine Met.ofW (cc := cM_isCoordinate) (maxL := 2) (ret := (some .boolean)) (by decide) rfl ?_
  intro p e s m args below meth c s₁ B hml hv
  obtain ⟨hargs, -⟩ := hv
  have hx := B.exec
  have hb := B.bytes
  have hr := B.returns
  have hts := atoms_spec (ws := wM_isCoordinate) B.pre
  have hown : s.vm.findClass RM = some m.cls := findClass_of_methodNamed B.named
  have hlocks := B.notSynchronized
  refine x_name (fun R Q H locs hR hQ hH hlo => ?_)
  refine x_entry hargs (Nat.le_of_ble_eq_true rfl) (fun ls hl => ?_)
  have hl : lv_has ls 2 [(0, .long (lI z))] := hl
  have cut_21_1 : ∀ (v : Bool) (ls : Array Slot), (v = decide (-8192 ≤ z ∧ z ≤ 8191)) → lv_has ls 2 [(0, .long (lI z))] → W p l e R s m args below meth c H locs 0 0 Q (F0 m 21 ls [.int (iI (bz v))]) := by
    intro v ls hv hl
    subst hQ
    exact W.zret (v := (iI (bz v))) hx hb hr (xi_narZ2 _) (fun t9 ht9 hW9 => ⟨_, rfl, (by rw [hv]), ht9.trans hH⟩) (by rw [hlo]; intro q9 h9; cases h9) dM_isCoordinate_21
  refine lv_lload_n hx hb dM_isCoordinate_0 rfl (lv_at hl 0 rfl) ?_
  refine lv_ldc2 (v := (-8192)) hx hb hown (hts _ (List.mem_cons_of_mem _ klM_42)) dM_isCoordinate_1 ?_
  refine xi_top (y := .long (lI (-8192))) (by decide +kernel) ?_
  refine xl_lt (tgt := 20) hx hb dM_isCoordinate_4 dM_isCoordinate_5 (by decide) (by omega) (by omega) (fun c_4 => ?_) (fun c_4 => ?_)
  · skip
    refine xi_iconst hx hb dM_isCoordinate_20 ?_
    exact cut_21_1 false _ (dec_f (by omega)) (lv_sub hl [0] rfl)
  · skip
    refine lv_lload_n hx hb dM_isCoordinate_8 rfl (lv_at hl 0 rfl) ?_
    refine lv_ldc2 (v := 8191) hx hb hown (hts _ (List.mem_cons_of_mem _ klM_44)) dM_isCoordinate_9 ?_
    refine xi_top (y := .long (lI 8191)) (by decide +kernel) ?_
    refine xl_gt (tgt := 20) hx hb dM_isCoordinate_12 dM_isCoordinate_13 (by decide) (by omega) (by omega) (fun c_12 => ?_) (fun c_12 => ?_)
    · skip
      refine xi_iconst hx hb dM_isCoordinate_20 ?_
      exact cut_21_1 false _ (dec_f (by omega)) (lv_sub hl [0] rfl)
    · skip
      refine xi_iconst hx hb dM_isCoordinate_16 ?_
      refine lv_goto (tgt := 21) hx hb dM_isCoordinate_17 (by decide) ?_
      exact cut_21_1 true _ (dec_t (by omega)) (lv_sub hl [0] rfl)
set_option maxHeartbeats 4000000 in
set_option maxRecDepth 100000 in
/-- isFar -/
theorem m_isFar (l : Launch) (dC : Nat → ClassId) (dI : Nat → Nat → Nat) (z : Int) (hz : -2147483648 ≤ z ∧ z ≤ 2147483647) : Met l yM_isFar wM_isFar ({ frames := 0, cells := 0, slots := 0, locals := 0 }) (va_Pc [.int (iI z)] (fun _ => True)) (vp_Si (fun r => r = iI (bz (decide (z < -16384 ∨ 16383 < z))))) 0 0 (fun _ => False) := by
  refine Met.ofW (cc := cM_isFar) (maxL := 1) (ret := (some .boolean)) (by decide) rfl ?_
  intro p e s m args below meth c s₁ B hml hv
  obtain ⟨hargs, -⟩ := hv
  have hx := B.exec
  have hb := B.bytes
  have hr := B.returns
  have hts := atoms_spec (ws := wM_isFar) B.pre
  have hown : s.vm.findClass RM = some m.cls := findClass_of_methodNamed B.named
  have hlocks := B.notSynchronized
  refine x_name (fun R Q H locs hR hQ hH hlo => ?_)
  refine x_entry hargs (Nat.le_of_ble_eq_true rfl) (fun ls hl => ?_)
  have hl : lv_has ls 1 [(0, .int (iI z))] := hl
  have cut_19_1 : ∀ (v : Bool) (ls : Array Slot), (v = decide (z < -16384 ∨ 16383 < z)) → lv_has ls 1 [(0, .int (iI z))] → W p l e R s m args below meth c H locs 0 0 Q (F0 m 19 ls [.int (iI (bz v))]) := by
    intro v ls hv hl
    subst hQ
    exact W.zret (v := (iI (bz v))) hx hb hr (xi_narZ2 _) (fun t9 ht9 hW9 => ⟨_, rfl, (by rw [hv]), ht9.trans hH⟩) (by rw [hlo]; intro q9 h9; cases h9) dM_isFar_19
  refine lv_iload_n hx hb dM_isFar_0 rfl (lv_at hl 0 rfl) ?_
  refine lv_sipush (v := iI (-16384)) hx hb dM_isFar_1 (by decide +kernel) ?_
  refine xi_icmp_lt (tgt := 14) hx hb dM_isFar_4 (by decide) (by omega) (by omega) (fun c_4 => ?_) (fun c_4 => ?_)
  · skip
    refine xi_iconst hx hb dM_isFar_14 ?_
    refine lv_goto (tgt := 19) hx hb dM_isFar_15 (by decide) ?_
    exact cut_19_1 true _ (dec_t (by omega)) (lv_sub hl [0] rfl)
  · skip
    refine lv_iload_n hx hb dM_isFar_7 rfl (lv_at hl 0 rfl) ?_
    refine lv_sipush (v := iI 16383) hx hb dM_isFar_8 (by decide +kernel) ?_
    refine xi_icmp_le (tgt := 18) hx hb dM_isFar_11 (by decide) (by omega) (by omega) (fun c_11 => ?_) (fun c_11 => ?_)
    · skip
      refine xi_iconst hx hb dM_isFar_18 ?_
      exact cut_19_1 false _ (dec_f (by omega)) (lv_sub hl [0] rfl)
    · skip
      refine xi_iconst hx hb dM_isFar_14 ?_
      refine lv_goto (tgt := 19) hx hb dM_isFar_15 (by decide) ?_
      exact cut_19_1 true _ (dec_t (by omega)) (lv_sub hl [0] rfl)
set_option maxHeartbeats 4000000 in
set_option maxRecDepth 100000 in
/-- isPlace -/
theorem m_isPlace (l : Launch) (dC : Nat → ClassId) (dI : Nat → Nat → Nat) (z : Int) (hz : -2147483648 ≤ z ∧ z ≤ 2147483647) : Met l yM_isPlace wM_isPlace ({ frames := 0, cells := 0, slots := 0, locals := 0 }) (va_Pc [.int (iI z)] (fun _ => True)) (vp_Si (fun r => r = iI (bz (decide (0 ≤ z ∧ z < 64))))) 0 0 (fun _ => False) := by
  refine Met.ofW (cc := cM_isPlace) (maxL := 1) (ret := (some .boolean)) (by decide) rfl ?_
  intro p e s m args below meth c s₁ B hml hv
  obtain ⟨hargs, -⟩ := hv
  have hx := B.exec
  have hb := B.bytes
  have hr := B.returns
  have hts := atoms_spec (ws := wM_isPlace) B.pre
  have hown : s.vm.findClass RM = some m.cls := findClass_of_methodNamed B.named
  have hlocks := B.notSynchronized
  refine x_name (fun R Q H locs hR hQ hH hlo => ?_)
  refine x_entry hargs (Nat.le_of_ble_eq_true rfl) (fun ls hl => ?_)
  have hl : lv_has ls 1 [(0, .int (iI z))] := hl
  have cut_15_1 : ∀ (v : Bool) (ls : Array Slot), (v = decide (0 ≤ z ∧ z < 64)) → lv_has ls 1 [(0, .int (iI z))] → W p l e R s m args below meth c H locs 0 0 Q (F0 m 15 ls [.int (iI (bz v))]) := by
    intro v ls hv hl
    subst hQ
    exact W.zret (v := (iI (bz v))) hx hb hr (xi_narZ2 _) (fun t9 ht9 hW9 => ⟨_, rfl, (by rw [hv]), ht9.trans hH⟩) (by rw [hlo]; intro q9 h9; cases h9) dM_isPlace_15
  refine lv_iload_n hx hb dM_isPlace_0 rfl (lv_at hl 0 rfl) ?_
  refine xi_if_lt (tgt := 14) hx hb dM_isPlace_1 (by decide) (by omega) (fun c_1 => ?_) (fun c_1 => ?_)
  · skip
    refine xi_iconst hx hb dM_isPlace_14 ?_
    exact cut_15_1 false _ (dec_f (by omega)) (lv_sub hl [0] rfl)
  · skip
    refine lv_iload_n hx hb dM_isPlace_4 rfl (lv_at hl 0 rfl) ?_
    refine lv_bipush (v := iI 64) hx hb dM_isPlace_5 (by decide +kernel) ?_
    refine xi_icmp_ge (tgt := 14) hx hb dM_isPlace_7 (by decide) (by omega) (by omega) (fun c_7 => ?_) (fun c_7 => ?_)
    · skip
      refine xi_iconst hx hb dM_isPlace_14 ?_
      exact cut_15_1 false _ (dec_f (by omega)) (lv_sub hl [0] rfl)
    · skip
      refine xi_iconst hx hb dM_isPlace_10 ?_
      refine lv_goto (tgt := 15) hx hb dM_isPlace_11 (by decide) ?_
      exact cut_15_1 true _ (dec_t (by omega)) (lv_sub hl [0] rfl)
set_option maxHeartbeats 4000000 in
set_option maxRecDepth 100000 in
/-- bottomOf -/
theorem k_bottomOf (l : Launch) (dC : Nat → ClassId) (dI : Nat → Nat → Nat) (z : Int) : Met l yC_bottomOf wC_bottomOf ({ frames := 0, cells := 0, slots := 0, locals := 0 }) (va_Pc [.int (iI z)] (fun _ => True)) (vp_Si (fun r => r = iI (64 * (63 - z)))) 0 0 (fun _ => False) := by
  refine Met.ofW (cc := cC_bottomOf) (maxL := 1) (ret := (some .int)) (by decide) rfl ?_
  intro p e s m args below meth c s₁ B hml hv
  obtain ⟨hargs, -⟩ := hv
  have hx := B.exec
  have hb := B.bytes
  have hr := B.returns
  have hts := atoms_spec (ws := wC_bottomOf) B.pre
  have hown : s.vm.findClass RC = some m.cls := findClass_of_methodNamed B.named
  have hlocks := B.notSynchronized
  refine x_name (fun R Q H locs hR hQ hH hlo => ?_)
  refine x_entry hargs (Nat.le_of_ble_eq_true rfl) (fun ls hl => ?_)
  have hl : lv_has ls 1 [(0, .int (iI z))] := hl
  refine lv_bipush (v := iI 64) hx hb dC_bottomOf_0 (by decide +kernel) ?_
  refine lv_bipush (v := iI 63) hx hb dC_bottomOf_2 (by decide +kernel) ?_
  refine lv_iload_n hx hb dC_bottomOf_4 rfl (lv_at hl 0 rfl) ?_
  refine xi_sub (z := 63 - z) hx hb dC_bottomOf_5 rfl ?_
  refine xi_mul (z := 64 * (63 - z)) hx hb dC_bottomOf_6 rfl ?_
  subst hQ
  exact W.iret (v := (iI (64 * (63 - z)))) hx hb hr (fun t9 ht9 hW9 => ⟨_, rfl, rfl, ht9.trans hH⟩) (by rw [hlo]; intro q9 h9; cases h9) dC_bottomOf_7
set_option maxHeartbeats 4000000 in
set_option maxRecDepth 100000 in
/-- ceiling -/
theorem m_ceiling (l : Launch) (dC : Nat → ClassId) (dI : Nat → Nat → Nat) (z b : Int) (hz : 0 ≤ z ∧ z ≤ 1000000000000) (hb0 : 0 < b ∧ b ≤ 1000000) : Met l yM_ceiling wM_ceiling ({ frames := 0, cells := 0, slots := 0, locals := 0 }) (va_Pc [.long (lI z), .long (lI b)] (fun _ => True)) (vp_Sl (fun r => r = lI ((z + b - 1) / b))) 0 0 (fun _ => False) := by
  refine Met.ofW (cc := cM_ceiling) (maxL := 4) (ret := (some .long)) (by decide) rfl ?_
  intro p e s m args below meth c s₁ B hml hv
  obtain ⟨hargs, -⟩ := hv
  have hx := B.exec
  have hb := B.bytes
  have hr := B.returns
  have hts := atoms_spec (ws := wM_ceiling) B.pre
  have hown : s.vm.findClass RM = some m.cls := findClass_of_methodNamed B.named
  have hlocks := B.notSynchronized
  refine x_name (fun R Q H locs hR hQ hH hlo => ?_)
  refine x_entry hargs (Nat.le_of_ble_eq_true rfl) (fun ls hl => ?_)
  have hl : lv_has ls 4 [(0, .long (lI z)), (2, .long (lI b))] := hl
  refine lv_lload_n hx hb dM_ceiling_0 rfl (lv_at hl 0 rfl) ?_
  refine lv_lload_n hx hb dM_ceiling_1 rfl (lv_at hl 1 rfl) ?_
  refine xl_add (z := z + b) hx hb dM_ceiling_2 rfl ?_
  refine lv_lconst (v := lI 1) hx hb dM_ceiling_3 (by decide +kernel) ?_
  refine xl_sub (z := (z + b) - 1) hx hb dM_ceiling_4 rfl ?_
  refine lv_lload_n hx hb dM_ceiling_5 rfl (lv_at hl 1 rfl) ?_
  refine xl_div (z := ((z + b) - 1) / b) hx hb dM_ceiling_6 (by omega) (by omega) rfl ?_
  subst hQ
  exact W.lret (v := (lI (((z + b) - 1) / b))) hx hb hr (fun t9 ht9 hW9 => ⟨_, rfl, rfl, ht9.trans hH⟩) (by rw [hlo]; intro q9 h9; cases h9) dM_ceiling_7
set_option maxHeartbeats 4000000 in
set_option maxRecDepth 100000 in
/-- signOf -/
theorem m_signOf (l : Launch) (dC : Nat → ClassId) (dI : Nat → Nat → Nat) (z : Int) (hz : -9223372036854775808 ≤ z ∧ z ≤ 9223372036854775807) : Met l yM_signOf wM_signOf ({ frames := 0, cells := 0, slots := 0, locals := 0 }) (va_Pc [.long (lI z)] (fun _ => True)) (vp_Si (fun r => r = iI (sgn z))) 0 0 (fun _ => False) := by
  refine Met.ofW (cc := cM_signOf) (maxL := 2) (ret := (some .int)) (by decide) rfl ?_
  intro p e s m args below meth c s₁ B hml hv
  obtain ⟨hargs, -⟩ := hv
  have hx := B.exec
  have hb := B.bytes
  have hr := B.returns
  have hts := atoms_spec (ws := wM_signOf) B.pre
  have hown : s.vm.findClass RM = some m.cls := findClass_of_methodNamed B.named
  have hlocks := B.notSynchronized
  refine x_name (fun R Q H locs hR hQ hH hlo => ?_)
  refine x_entry hargs (Nat.le_of_ble_eq_true rfl) (fun ls hl => ?_)
  have hl : lv_has ls 2 [(0, .long (lI z))] := hl
  have cut_21_1 : ∀ (v : Int) (ls : Array Slot), (v = sgn z) → lv_has ls 2 [(0, .long (lI z))] → W p l e R s m args below meth c H locs 0 0 Q (F0 m 21 ls [.int (iI v)]) := by
    intro v ls hv hl
    subst hQ
    exact W.iret (v := (iI v)) hx hb hr (fun t9 ht9 hW9 => ⟨_, rfl, (by rw [hv]), ht9.trans hH⟩) (by rw [hlo]; intro q9 h9; cases h9) dM_signOf_21
  refine lv_lload_n hx hb dM_signOf_0 rfl (lv_at hl 0 rfl) ?_
  refine lv_lconst (v := lI 0) hx hb dM_signOf_1 (by decide +kernel) ?_
  refine xl_le (tgt := 10) hx hb dM_signOf_2 dM_signOf_3 (by decide) (by omega) (by omega) (fun c_2 => ?_) (fun c_2 => ?_)
  · skip
    refine lv_lload_n hx hb dM_signOf_10 rfl (lv_at hl 0 rfl) ?_
    refine lv_lconst (v := lI 0) hx hb dM_signOf_11 (by decide +kernel) ?_
    refine xl_ge (tgt := 20) hx hb dM_signOf_12 dM_signOf_13 (by decide) (by omega) (by omega) (fun c_12 => ?_) (fun c_12 => ?_)
    · skip
      refine xi_iconst hx hb dM_signOf_20 ?_
      exact cut_21_1 0 _ ((sgn_0 (by omega)).symm) (lv_sub hl [0] rfl)
    · skip
      refine xi_iconst hx hb dM_signOf_16 ?_
      refine lv_goto (tgt := 21) hx hb dM_signOf_17 (by decide) ?_
      exact cut_21_1 (-1) _ ((sgn_n (by omega)).symm) (lv_sub hl [0] rfl)
  · skip
    refine xi_iconst hx hb dM_signOf_6 ?_
    refine lv_goto (tgt := 21) hx hb dM_signOf_7 (by decide) ?_
    exact cut_21_1 1 _ ((sgn_p (by omega)).symm) (lv_sub hl [0] rfl)
set_option maxHeartbeats 4000000 in
set_option maxRecDepth 100000 in
/-- Math.floorDiv, by a number above 0 -/
theorem j_floorDiv (l : Launch) (dC : Nat → ClassId) (dI : Nat → Nat → Nat) (a b : Int) (ha : -2147483648 ≤ a ∧ a ≤ 2147483647) (hb0 : 0 < b ∧ b ≤ 2147483647) : Met l yJM_floorDiv wJM_floorDiv ({ frames := 0, cells := 0, slots := 0, locals := 0 }) (va_Pc [.int (iI a), .int (iI b)] (fun _ => True)) (vp_Si (fun r => r = iI (a / b))) 0 0 (fun _ => False) := by
  refine va_MetF (cc := cJM_floorDiv) (maxL := 3) (ret := (some .int)) (by decide +kernel) rfl ?_
  intro p e s m args below meth c s₁ B hml hv
  obtain ⟨hargs, -⟩ := hv
  have hx := B.exec
  have hb := B.bytes
  have hr := B.returns
  have hts := atoms_spec (ws := wJM_floorDiv) B.pre
  have hown : s.vm.findClass RJM = some m.cls := findClass_of_methodNamed B.named
  have hlocks := B.notSynchronized
  refine x_name (fun R Q H locs hR hQ hH hlo => ?_)
  refine x_entry hargs (Nat.le_of_ble_eq_true rfl) (fun ls hl => ?_)
  have hl : lv_has ls 3 [(0, .int (iI a)), (1, .int (iI b))] := hl
  have h9 := td_bd ha hb0.1
  refine lv_iload_n hx hb dJM_floorDiv_0 rfl (lv_at hl 0 rfl) ?_
  refine lv_iload_n hx hb dJM_floorDiv_1 rfl (lv_at hl 1 rfl) ?_
  refine lv_idiv hx hb dJM_floorDiv_2 (fun h => by have h2 := (iI_eq (b := 0) (by omega) (by omega)).mp h; omega) ?_
  refine xi_top (y := .int (iI (a.tdiv b))) (by rw [iI_tdiv ha hb0]) ?_
  refine lv_istore_n (lv' := [(2, .int (iI (a.tdiv b))), (0, .int (iI a)), (1, .int (iI b))]) hx hb dJM_floorDiv_3 rfl hl (by decide) rfl (fun ls hl => ?_)
  refine lv_iload_n hx hb dJM_floorDiv_4 rfl (lv_at hl 1 rfl) ?_
  refine lv_iload_n hx hb dJM_floorDiv_5 rfl (lv_at hl 2 rfl) ?_
  refine lv_ixor hx hb dJM_floorDiv_6 ?_
  refine lv_if_ge (tgt := 21) hx hb dJM_floorDiv_7 (by decide) (fun c_7 => ?_) (fun c_7 => ?_)
  · have c_7 := (fd_xor ha hb0).mp c_7
    refine lv_iload_n hx hb dJM_floorDiv_21 rfl (lv_at hl 0 rfl) ?_
    subst hQ
    exact W.iret (v := (iI (a.tdiv b))) hx hb hr (fun t9 ht9 hW9 => ⟨_, rfl, (by rw [(h9.1 c_7).2.2]), ht9.trans hH⟩) (by rw [hlo]; intro q9 h9; cases h9) dJM_floorDiv_22
  · have c_7 : a < 0 := by have := mt (fd_xor ha hb0).mpr c_7; omega
    have h8 := h9.2 c_7
    refine lv_iload_n hx hb dJM_floorDiv_10 rfl (lv_at hl 0 rfl) ?_
    refine lv_iload_n hx hb dJM_floorDiv_11 rfl (lv_at hl 2 rfl) ?_
    refine xi_mul (z := (a.tdiv b) * b) hx hb dJM_floorDiv_12 rfl ?_
    refine lv_iload_n hx hb dJM_floorDiv_13 rfl (lv_at hl 1 rfl) ?_
    refine xi_icmp_eq (tgt := 21) hx hb dJM_floorDiv_14 (by decide) (by omega) (by omega) (fun c_14 => ?_) (fun c_14 => ?_)
    · skip
      refine lv_iload_n hx hb dJM_floorDiv_21 rfl (lv_at hl 0 rfl) ?_
      subst hQ
      exact W.iret (v := (iI (a.tdiv b))) hx hb hr (fun t9 ht9 hW9 => ⟨_, rfl, (by rw [fd_eq c_14]), ht9.trans hH⟩) (by rw [hlo]; intro q9 h9; cases h9) dJM_floorDiv_22
    · skip
      refine lv_iload_n hx hb dJM_floorDiv_17 rfl (lv_at hl 0 rfl) ?_
      refine xi_iconst hx hb dJM_floorDiv_18 ?_
      refine xi_sub (z := (a.tdiv b) - 1) hx hb dJM_floorDiv_19 rfl ?_
      subst hQ
      exact W.iret (v := (iI ((a.tdiv b) - 1))) hx hb hr (fun t9 ht9 hW9 => ⟨_, rfl, (by rw [fd_ne c_7 hb0.1 c_14]), ht9.trans hH⟩) (by rw [hlo]; intro q9 h9; cases h9) dJM_floorDiv_20
set_option maxHeartbeats 4000000 in
set_option maxRecDepth 100000 in
/-- floorOfLeast -/
theorem p_floorOfLeast (l : Launch) (dC : Nat → ClassId) (dI : Nat → Nat → Nat) (a q b : Int) (ha : -16384 ≤ a ∧ a ≤ 16384) (hq : -16384 ≤ q ∧ q ≤ 16384) (hb0 : -16384 ≤ b ∧ b ≤ 16384) : Met l yP_floorOfLeast wP_floorOfLeast ({ frames := 1, cells := 0, slots := 0, locals := 30 }) (va_Pc [.int (iI a), .int (iI q), .int (iI b)] (fun _ => True)) (vp_Si (fun r => r = iI (fol a q b))) 0 0 (fun _ => False) := by
  refine Met.ofW (cc := cP_floorOfLeast) (maxL := 4) (ret := (some .int)) (by decide) rfl ?_
  intro p e s m args below meth c s₁ B hml hv
  obtain ⟨hargs, -⟩ := hv
  have hx := B.exec
  have hb := B.bytes
  have hr := B.returns
  have hts := atoms_spec (ws := wP_floorOfLeast) B.pre
  have hown : s.vm.findClass RP = some m.cls := findClass_of_methodNamed B.named
  have hlocks := B.notSynchronized
  refine x_name (fun R Q H locs hR hQ hH hlo => ?_)
  refine x_entry hargs (Nat.le_of_ble_eq_true rfl) (fun ls hl => ?_)
  have hl : lv_has ls 4 [(0, .int (iI a)), (1, .int (iI q)), (2, .int (iI b))] := hl
  refine lv_iload_n hx hb dP_floorOfLeast_0 rfl (lv_at hl 0 rfl) ?_
  refine xi_iconst hx hb dP_floorOfLeast_1 ?_
  refine lv_iload_n hx hb dP_floorOfLeast_2 rfl (lv_at hl 1 rfl) ?_
  refine xi_mul (z := 2 * q) hx hb dP_floorOfLeast_3 rfl ?_
  refine xi_sub (z := a - 2 * q) hx hb dP_floorOfLeast_4 rfl ?_
  refine lv_iload_n hx hb dP_floorOfLeast_5 rfl (lv_at hl 2 rfl) ?_
  refine xi_add (z := a - 2 * q + b) hx hb dP_floorOfLeast_6 rfl ?_
  refine lv_istore_n (lv' := [(3, .int (iI (a - 2 * q + b))), (0, .int (iI a)), (1, .int (iI q)), (2, .int (iI b))]) hx hb dP_floorOfLeast_7 rfl hl (by decide) rfl (fun ls hl => ?_)
  refine lv_iload_n hx hb dP_floorOfLeast_8 rfl (lv_at hl 2 rfl) ?_
  refine lv_iload_n hx hb dP_floorOfLeast_9 rfl (lv_at hl 1 rfl) ?_
  refine xi_icmp_ge (tgt := 37) hx hb dP_floorOfLeast_10 (by decide) (by omega) (by omega) (fun c_10 => ?_) (fun c_10 => ?_)
  · skip
    refine lv_iload_n hx hb dP_floorOfLeast_37 rfl (lv_at hl 1 rfl) ?_
    refine lv_iload_n hx hb dP_floorOfLeast_38 rfl (lv_at hl 3 rfl) ?_
    refine va_mmin hx hb (hml.trans hl.1.symm) hown (hts _ (List.mem_cons_of_mem _ mlP_60)) (hts _ (List.mem_cons_of_mem _ smJM_min)) (hts _ (List.mem_cons_of_mem _ iniJM)) (hts _ (List.mem_cons_of_mem _ coJM_min)) (by subst hR; exact Nat.le_of_ble_eq_true rfl) (by subst hR; exact Nat.le_of_ble_eq_true rfl) (by subst hR; exact Nat.zero_le _) (by subst hR; exact Nat.zero_le _) dP_floorOfLeast_39 ?_
    refine xi_top (y := .int (iI (min a b))) (by rw [xi_min (by omega) (by omega)]) ?_
    subst hQ
    exact W.iret (v := (iI (min a b))) hx hb hr (fun t9 ht9 hW9 => ⟨_, rfl, (by unfold fol; rw [if_neg (by omega)]), ht9.trans hH⟩) (by rw [hlo]; intro q9 h9; cases h9) dP_floorOfLeast_42
  · skip
    refine lv_iload_n hx hb dP_floorOfLeast_13 rfl (lv_at hl 2 rfl) ?_
    refine lv_iload_n hx hb dP_floorOfLeast_14 rfl (lv_at hl 3 rfl) ?_
    refine xi_icmp_ge (tgt := 37) hx hb dP_floorOfLeast_15 (by decide) (by omega) (by omega) (fun c_15 => ?_) (fun c_15 => ?_)
    · skip
      refine lv_iload_n hx hb dP_floorOfLeast_37 rfl (lv_at hl 1 rfl) ?_
      refine lv_iload_n hx hb dP_floorOfLeast_38 rfl (lv_at hl 3 rfl) ?_
      refine va_mmin hx hb (hml.trans hl.1.symm) hown (hts _ (List.mem_cons_of_mem _ mlP_60)) (hts _ (List.mem_cons_of_mem _ smJM_min)) (hts _ (List.mem_cons_of_mem _ iniJM)) (hts _ (List.mem_cons_of_mem _ coJM_min)) (by subst hR; exact Nat.le_of_ble_eq_true rfl) (by subst hR; exact Nat.le_of_ble_eq_true rfl) (by subst hR; exact Nat.zero_le _) (by subst hR; exact Nat.zero_le _) dP_floorOfLeast_39 ?_
      refine xi_top (y := .int (iI (min a b))) (by rw [xi_min (by omega) (by omega)]) ?_
      subst hQ
      exact W.iret (v := (iI (min a b))) hx hb hr (fun t9 ht9 hW9 => ⟨_, rfl, (by unfold fol; rw [if_neg (by omega)]), ht9.trans hH⟩) (by rw [hlo]; intro q9 h9; cases h9) dP_floorOfLeast_42
    · skip
      refine lv_iload_n hx hb dP_floorOfLeast_18 rfl (lv_at hl 0 rfl) ?_
      refine xi_if_le (tgt := 37) hx hb dP_floorOfLeast_19 (by decide) (by omega) (fun c_19 => ?_) (fun c_19 => ?_)
      · exact absurd c_19 (by omega)
      · skip
        have h8 := mul_bd 32768 32768 (a := -(q - a)) (b := q - a) (by omega) (by omega)
        refine lv_iload_n hx hb dP_floorOfLeast_22 rfl (lv_at hl 1 rfl) ?_
        refine lv_iload_n hx hb dP_floorOfLeast_23 rfl (lv_at hl 2 rfl) ?_
        refine lv_iload_n hx hb dP_floorOfLeast_24 rfl (lv_at hl 1 rfl) ?_
        refine xi_sub (z := q - a) hx hb dP_floorOfLeast_25 rfl ?_
        refine xi_neg (z := -(q - a)) hx hb dP_floorOfLeast_26 rfl ?_
        refine lv_iload_n hx hb dP_floorOfLeast_27 rfl (lv_at hl 2 rfl) ?_
        refine lv_iload_n hx hb dP_floorOfLeast_28 rfl (lv_at hl 1 rfl) ?_
        refine xi_sub (z := q - a) hx hb dP_floorOfLeast_29 rfl ?_
        refine xi_mul (z := -(q - a) * (q - a)) hx hb dP_floorOfLeast_30 rfl ?_
        refine lv_iload_n hx hb dP_floorOfLeast_31 rfl (lv_at hl 0 rfl) ?_
        refine vp_callSi (W.runS (As := [.int (iI (-(q - a) * (q - a))), .int (iI (a - 2 * q + b))]) (rest := [.int (iI a)]) ⟨hx, hb, hml, hown, hts⟩ (j_floorDiv l dC dI (-(q - a) * (q - a)) (a - 2 * q + b) (by omega) (by omega)) (va_cwS 2 hts (tb_S mlP_54 smJM_floorDiv iniJM coJM_floorDiv) rfl rfl rfl (by decide +kernel) (by subst hR; exact ⟨Nat.le_of_ble_eq_true rfl, Nat.le_of_ble_eq_true rfl⟩)) ⟨fun a9 U9 g9 mk9 q9 => q9, fun U hU hW => ⟨rfl, trivial⟩⟩ rfl rfl hl.1 rfl (lv_room (Nat.le_of_ble_eq_true rfl)) dP_floorOfLeast_32 ⟨by subst hR; exact Nat.zero_le _, by subst hR; exact Nat.zero_le _⟩) (fun r_32 hw_32 => ?_)
        subst hw_32
        refine xi_add (z := a + ((-(q - a) * (q - a)) / (a - 2 * q + b))) hx hb dP_floorOfLeast_35 rfl ?_
        subst hQ
        exact W.iret (v := (iI (a + ((-(q - a) * (q - a)) / (a - 2 * q + b))))) hx hb hr (fun t9 ht9 hW9 => ⟨_, rfl, (by unfold fol; rw [if_pos (by omega)]), ht9.trans hH⟩) (by rw [hlo]; intro q9 h9; cases h9) dP_floorOfLeast_36
