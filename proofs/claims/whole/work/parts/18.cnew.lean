/-! the class: extents, close, move, a new one -/
def pbw (d : PD) (w : Int) : Int := pbd d.px d.py d.qx d.qy d.rx d.ry w
def exI (w : Int) : Int := if w < 2 then 8191 else -8192
def exC (PQ : Int → Option Nat) (G : Nat → PD) (w z v : Int) : Prop := (∀ (i : Int) (a : Nat), 0 ≤ i → i < z → PQ i = some a → btr w (pbw (G a) w) v = false) ∧ (v = exI w ∨ ∃ (i : Int) (a : Nat), 0 ≤ i ∧ i < z ∧ PQ i = some a ∧ pbw (G a) w = v)
theorem pbw_bd {d : PD} (h : pdOk d) (w : Int) : -8192 ≤ pbw d w ∧ pbw d w ≤ 8192 := by
  obtain ⟨h1, h2, h3, h4, h5, h6, -⟩ := h
  have f1 := fol_bd (a := d.px) (q := d.qx) (b := d.rx) (by omega) (by omega) (by omega)
  have f2 := fol_bd (a := d.py) (q := d.qy) (b := d.ry) (by omega) (by omega) (by omega)
  have f3 := fol_bd (a := -d.px) (q := -d.qx) (b := -d.rx) (by omega) (by omega) (by omega)
  have f4 := fol_bd (a := -d.py) (q := -d.qy) (b := -d.ry) (by omega) (by omega) (by omega)
  unfold pbw pbd
  repeat' split
  all_goals omega
theorem exC_0 (PQ : Int → Option Nat) (G : Nat → PD) (w : Int) : exC PQ G w 0 (exI w) := ⟨fun i a h1 h2 => by omega, Or.inl rfl⟩
theorem exC_n {PQ : Int → Option Nat} {G : Nat → PD} {w z v : Int} (h : exC PQ G w z v) (hn : PQ z = none) : exC PQ G w (z + 1) v := by
  refine ⟨fun i a h1 h2 h3 => ?_, h.2.imp id (fun ⟨i, a, h1, h2, h3⟩ => ⟨i, a, h1, by omega, h3⟩)⟩
  by_cases hi : i = z
  · rw [hi, hn] at h3; cases h3
  · exact h.1 i a h1 (by omega) h3
theorem exC_s {PQ : Int → Option Nat} {G : Nat → PD} {w z v v2 : Int} {a : Nat} (hz : 0 ≤ z) (h : exC PQ G w z v) (ha : PQ z = some a) (h2 : v2 = if w < 2 then min v (pbw (G a) w) else max v (pbw (G a) w)) : exC PQ G w (z + 1) v2 := by
  have key : (v2 = v ∨ v2 = pbw (G a) w) ∧ btr w (pbw (G a) w) v2 = false ∧ ∀ x, btr w x v = false → btr w x v2 = false := by
    unfold btr
    rw [h2]
    by_cases hw : w < 2
    · rw [if_pos hw, if_pos hw]
      refine ⟨by omega, decide_eq_false (by omega), fun x hx => ?_⟩
      rw [if_pos hw] at hx ⊢
      have := of_decide_eq_false hx
      exact decide_eq_false (by omega)
    · rw [if_neg hw, if_neg hw]
      refine ⟨by omega, decide_eq_false (by omega), fun x hx => ?_⟩
      rw [if_neg hw] at hx ⊢
      have := of_decide_eq_false hx
      exact decide_eq_false (by omega)
  refine ⟨fun i q h1 h3 h4 => ?_, ?_⟩
  · by_cases hi : i = z
    · rw [hi, ha] at h4; cases h4; exact key.2.1
    · exact key.2.2 _ (h.1 i q h1 (by omega) h4)
  · rcases key.1 with k | k
    · rw [k]; exact h.2.imp id (fun ⟨i, q, h1, h3, h4⟩ => ⟨i, q, h1, by omega, h4⟩)
    · exact Or.inr ⟨z, a, hz, by omega, ha, k.symm⟩
/-- the pieces of the points a .. z - 1 are new ones, those of the contour a .. b - 1 -/
def newP (LP : List Nat) (G : Nat → PD) (PQ : Int → Option Nat) (L1 : List Nat) (G1 : Nat → PD) (Q1 : Int → Option Nat) (X Y : Int → Int) (O : Int → Bool) (a b z : Int) : Prop :=
  (∀ q ∈ LP, q ∈ L1 ∧ G1 q = G q) ∧ (∀ k : Int, (k < a ∨ z ≤ k) → Q1 k = PQ k) ∧ (∀ k : Int, a ≤ k → k < z → (Q1 k).map G1 = pdt X Y O a b k ∧ ∀ q : Nat, Q1 k = some q → q ∈ L1 ∧ q ∉ LP) ∧ ∀ (k j : Int) (q : Nat), a ≤ k → k < z → a ≤ j → j < z → Q1 k = some q → Q1 j = some q → k = j
theorem newP_0 {LP : List Nat} {G : Nat → PD} {PQ : Int → Option Nat} {X Y : Int → Int} {O : Int → Bool} {a b : Int} : newP LP G PQ LP G PQ X Y O a b a := ⟨fun q h => ⟨h, rfl⟩, fun _ _ => rfl, fun k h1 h2 => by omega, fun k j q h1 h2 => by omega⟩
theorem newP_n {LP : List Nat} {G : Nat → PD} {PQ : Int → Option Nat} {L1 : List Nat} {G1 : Nat → PD} {Q1 : Int → Option Nat} {X Y : Int → Int} {O : Int → Bool} {a b z : Int} (h : newP LP G PQ L1 G1 Q1 X Y O a b z) (hz : a ≤ z) (hn : pdt X Y O a b z = none) : newP LP G PQ L1 G1 (up Q1 z none) X Y O a b (z + 1) := by
  obtain ⟨h1, h2, h3, h4⟩ := h
  refine ⟨h1, fun k hk => ?_, fun k q1 q2 => ?_, fun k j q q1 q2 q3 q4 q5 q6 => ?_⟩
  · rw [up_n _ _ (by omega)]; exact h2 k (by omega)
  · by_cases e : k = z
    · rw [e, up_s, hn]; exact ⟨rfl, fun q hq => by cases hq⟩
    · rw [up_n _ _ e]; exact h3 k q1 (by omega)
  · by_cases e : k = z
    · rw [e, up_s] at q5; cases q5
    · by_cases e2 : j = z
      · rw [e2, up_s] at q6; cases q6
      · rw [up_n _ _ e] at q5; rw [up_n _ _ e2] at q6; exact h4 k j q q1 (by omega) q3 (by omega) q5 q6
theorem newP_s {LP : List Nat} {G : Nat → PD} {PQ : Int → Option Nat} {L1 : List Nat} {G1 : Nat → PD} {Q1 : Int → Option Nat} {X Y : Int → Int} {O : Int → Bool} {a b z : Int} {c : Nat} {d : PD} (h : newP LP G PQ L1 G1 Q1 X Y O a b z) (hz : a ≤ z) (hd : pdt X Y O a b z = some d) (hc : c ∉ L1) : newP LP G PQ (L1 ++ [c]) (upn G1 c d) (up Q1 z (some c)) X Y O a b (z + 1) := by
  obtain ⟨h1, h2, h3, h4⟩ := h
  have hcL : c ∉ LP := fun q => hc (h1 c q).1
  refine ⟨fun q hq => ⟨List.mem_append_left _ (h1 q hq).1, ?_⟩, fun k hk => ?_, fun k q1 q2 => ?_, fun k j q q1 q2 q3 q4 q5 q6 => ?_⟩
  · rw [upn_n G1 (a := c) (q := q) d (fun e => hcL (e ▸ hq))]; exact (h1 q hq).2
  · rw [up_n _ _ (by omega)]; exact h2 k (by omega)
  · by_cases e : k = z
    · rw [e, up_s, hd]
      refine ⟨?_, fun q hq => ?_⟩
      · show some (upn G1 c d c) = _; rw [upn_s]
      · cases hq; exact ⟨List.mem_append_right _ List.mem_cons_self, hcL⟩
    · rw [up_n _ _ e]
      obtain ⟨k1, k2⟩ := h3 k q1 (by omega)
      refine ⟨?_, fun q hq => ⟨List.mem_append_left _ (k2 q hq).1, (k2 q hq).2⟩⟩
      rw [← k1]
      cases hq : Q1 k with
      | none => rfl
      | some q =>
        show some (upn G1 c d q) = some (G1 q)
        rw [upn_n G1 (a := c) (q := q) d (fun e9 => hc (e9 ▸ (k2 q hq).1))]
  · by_cases e : k = z
    · by_cases e2 : j = z
      · rw [e, e2]
      · rw [e, up_s] at q5; cases q5
        rw [up_n _ _ e2] at q6
        exact absurd ((h3 j q3 (by omega)).2 _ q6).1 hc
    · by_cases e2 : j = z
      · rw [e2, up_s] at q6; cases q6
        rw [up_n _ _ e] at q5
        exact absurd ((h3 k q1 (by omega)).2 _ q5).1 hc
      · rw [up_n _ _ e] at q5; rw [up_n _ _ e2] at q6; exact h4 k j q q1 (by omega) q3 (by omega) q5 q6
/-- a piece moved -/
def shd (d : PD) (dx dy : Int) : PD := PD.mk d.ln (d.px + dx) (d.py + dy) (d.qx + dx) (d.qy + dy) (d.rx + dx) (d.ry + dy)
theorem sqv_sh (ln : Bool) (p q r d : Int) : sqv ln (p + d) (q + d) (r + d) = sqv ln p q r := by unfold sqv; split <;> omega
theorem onv_sh (ln : Bool) (p q r d : Int) : onv ln (p + d) (q + d) (r + d) = onv ln p q r := by unfold onv; split <;> omega
theorem pE_sh (d : PD) (dx dy : Int) : (.inr (0, [.int (iI (bz d.ln)), .int (iI (sqv d.ln d.px d.qx d.rx)), .int (iI (onv d.ln d.px d.qx d.rx)), .int (iI (sqv d.ln d.py d.qy d.ry)), .int (iI (onv d.ln d.py d.qy d.ry)), .int (iI (d.px + dx)), .int (iI (d.py + dy)), .int (iI (d.qx + dx)), .int (iI (d.qy + dy)), .int (iI (d.rx + dx)), .int (iI (d.ry + dy))]) : va_E) = pE (shd d dx dy) := by
  show _ = (Sum.inr (0, [.int (iI (bz d.ln)), .int (iI (sqv d.ln (d.px + dx) (d.qx + dx) (d.rx + dx))), .int (iI (onv d.ln (d.px + dx) (d.qx + dx) (d.rx + dx))), .int (iI (sqv d.ln (d.py + dy) (d.qy + dy) (d.ry + dy))), .int (iI (onv d.ln (d.py + dy) (d.qy + dy) (d.ry + dy))), .int (iI (d.px + dx)), .int (iI (d.py + dy)), .int (iI (d.qx + dx)), .int (iI (d.qy + dy)), .int (iI (d.rx + dx)), .int (iI (d.ry + dy))]) : va_E)
  rw [sqv_sh, sqv_sh, onv_sh, onv_sh]
theorem pl_set {A : Nat → Prop} {W : va_W} {LP : List Nat} {G : Nat → PD} {a k : Nat} {d : PD} (hD : va_D A (W ++ va_pl LP (pG G))) (h : a ∈ LP) (hk : (W ++ va_pl LP (pG G))[k]? = some (a, pG G a)) : (W ++ va_pl LP (pG G)).set k (a, pE d) = W ++ va_pl LP (pG (upn G a d)) := by
  rw [va_pl_set hD h hk]
  congr 1
  refine va_pl_congr (fun q => ?_)
  by_cases hq : q = a
  · subst hq; rw [va_up_self]; show _ = pE (upn G q d q); rw [upn_s]
  · rw [va_up_ne _ _ hq]; show pE (G q) = pE (upn G a d q); rw [upn_n G d hq]
def injP (PQ : Int → Option Nat) (op : Int) : Prop := ∀ (i j : Int) (a : Nat), 0 ≤ i → i < op → 0 ≤ j → j < op → PQ i = some a → PQ j = some a → i = j
def mvP (G : Nat → PD) (PQ : Int → Option Nat) (G1 : Nat → PD) (dx dy z : Int) : Prop := (∀ (i : Int) (a : Nat), 0 ≤ i → i < z → PQ i = some a → G1 a = shd (G a) dx dy) ∧ ∀ a : Nat, (∀ i : Int, 0 ≤ i → i < z → PQ i ≠ some a) → G1 a = G a
theorem mvP_0 {G : Nat → PD} {PQ : Int → Option Nat} {dx dy : Int} : mvP G PQ G dx dy 0 := ⟨fun i a h1 h2 => by omega, fun _ _ => rfl⟩
theorem mvP_n {G : Nat → PD} {PQ : Int → Option Nat} {G1 : Nat → PD} {dx dy z : Int} (h : mvP G PQ G1 dx dy z) (hn : PQ z = none) : mvP G PQ G1 dx dy (z + 1) := by
  refine ⟨fun i a h1 h2 h3 => ?_, fun a ha => h.2 a (fun i h1 h2 => ha i h1 (by omega))⟩
  by_cases e : i = z
  · rw [e, hn] at h3; cases h3
  · exact h.1 i a h1 (by omega) h3
theorem mvP_g {G : Nat → PD} {PQ : Int → Option Nat} {G1 : Nat → PD} {dx dy z op : Int} {a : Nat} (h : mvP G PQ G1 dx dy z) (hj : injP PQ op) (hz : 0 ≤ z ∧ z < op) (ha : PQ z = some a) : G1 a = G a := h.2 a (fun i h1 h2 h3 => by
  have := hj i z a h1 (by omega) hz.1 hz.2 h3 ha
  omega)
theorem mvP_s {G : Nat → PD} {PQ : Int → Option Nat} {G1 : Nat → PD} {dx dy z op : Int} {a : Nat} (h : mvP G PQ G1 dx dy z) (hj : injP PQ op) (hz : 0 ≤ z ∧ z < op) (ha : PQ z = some a) : mvP G PQ (upn G1 a (shd (G1 a) dx dy)) dx dy (z + 1) := by
  refine ⟨fun i q h1 h2 h3 => ?_, fun q hq => ?_⟩
  · by_cases e : q = a
    · rw [e, upn_s, mvP_g h hj hz ha]
    · rw [upn_n _ _ e]
      refine h.1 i q h1 ?_ h3
      have : i ≠ z := fun e2 => by rw [e2, ha] at h3; cases h3; exact e rfl
      omega
  · rw [upn_n _ _ (fun e => hq z hz.1 (by omega) (by rw [e]; exact ha))]
    exact h.2 q (fun i h1 h2 => hq i h1 (by omega))
theorem mvok_f {X Y : Int → Int} {dx dy : Int} {z : Int} (n : Nat) (hz : 0 ≤ z ∧ z < (n : Int)) (h : ¬ ((-8192 ≤ X z + dx ∧ X z + dx ≤ 8191) ∧ (-8192 ≤ Y z + dy ∧ Y z + dy ≤ 8191))) : mvok X Y dx dy n = false := by
  induction n with
  | zero => omega
  | succ n ih =>
    show (mvok X Y dx dy n && decide ((-8192 ≤ X (n : Int) + dx ∧ X (n : Int) + dx ≤ 8191) ∧ (-8192 ≤ Y (n : Int) + dy ∧ Y (n : Int) + dy ≤ 8191))) = false
    by_cases e : z = (n : Int)
    · rw [← e, decide_eq_false h, Bool.and_false]
    · rw [ih (by omega), Bool.false_and]
theorem fsL : ∀ j, j < 4 → defaultValue (tyL j) = vp_V [.long (lI 0), .long (lI 0), .long (lI 0), .long (lI 0)] j := by
  intro j hj
  rcases (show j = 0 ∨ j = 1 ∨ j = 2 ∨ j = 3 by omega) with h | h | h | h <;> subst h <;> decide +kernel

set_option maxHeartbeats 4000000 in
set_option maxRecDepth 100000 in
/-- extent -/
theorem k_extent (l : Launch) (hlt : l.stackTraces = false) (sa : Nat → Nat) (dC : Nat → ClassId) (dI : Nat → Nat → Nat) (ad : Nat → Nat) (cs : Nat → ClassId) (sz : Nat) (LP : List Nat) (G : Nat → PD) (nc np op : Int) (par : Bool) (X Y : Int → Int) (O : Int → Bool) (PQ : Int → Option Nat) (Wd : Int → Int) (pw pf pu ps : Int) (w : Int) (hop : 0 ≤ op ∧ op ≤ 512) (hG : cOk LP G PQ op) (hw0 : -2147483648 ≤ w ∧ w ≤ 2147483647) (hnc : 0 ≤ nc ∧ nc ≤ 64) : vx_Met l yC_extent wC_extent ({ frames := 6, cells := 1, slots := 6, locals := 82 }) (va_Pc [.ref (ad 0), .int (iI w)] (fun U => U.heap.size = sz ∧ va_P (dC, dI) vwCl ((cW ad cs nc np op par X Y O PQ Wd pw pf pu ps) ++ va_pl LP (pG G)) U.heap ∧ va_K (dC, dI) vwCl (cT cs) U ∧ va_D (fun _ => True) ((cW ad cs nc np op par X Y O PQ Wd pw pf pu ps) ++ va_pl LP (pG G)) ∧ xFk (va_A ((cW ad cs nc np op par X Y O PQ Wd pw pf pu ps) ++ va_pl LP (pG G)) sz) sa U)) (va_Qi (fun (r : Int32) (u : Unit) => fE w nc = 0 ∧ ∃ v : Int, r = iI v ∧ exC PQ G w op v) (fun (u : Unit) t9 => va_P (dC, dI) vwCl ((cW ad cs nc np op par X Y O PQ Wd pw pf pu ps) ++ va_pl LP (pG G)) t9.heap ∧ va_K (dC, dI) vwCl (cT cs) t9 ∧ va_D (va_A ((cW ad cs nc np op par X Y O PQ Wd pw pf pu ps) ++ va_pl LP (pG G)) sz) ((cW ad cs nc np op par X Y O PQ Wd pw pf pu ps) ++ va_pl LP (pG G))) (va_A ((cW ad cs nc np op par X Y O PQ Wd pw pf pu ps) ++ va_pl LP (pG G)) sz)) (vx_X (S := Unit) (fun _ => True) (fun E9 _ t9 => (E9 = IOB ∧ fE w nc = 1 ∨ E9 = ISE ∧ fE w nc = 2) ∧ va_P (dC, dI) vwCl ((cW ad cs nc np op par X Y O PQ Wd pw pf pu ps) ++ va_pl LP (pG G)) t9.heap ∧ va_K (dC, dI) vwCl (cT cs) t9) (va_A ((cW ad cs nc np op par X Y O PQ Wd pw pf pu ps) ++ va_pl LP (pG G)) sz)) 1 6 (va_A ((cW ad cs nc np op par X Y O PQ Wd pw pf pu ps) ++ va_pl LP (pG G)) sz) := by
  refine vx_ofW (cc := cC_extent) (maxL := 7) (ret := (some .int)) (by decide) rfl ?_
  intro p e s m args below meth c s₁ B hml htb hv
  obtain ⟨hargs, hsz, hP, hK, hD0, hXF⟩ := hv
  have hx := B.exec
  have hb := B.bytes
  have hr := B.returns
  have hts := atoms_spec (ws := wC_extent) B.pre
  have hown : s.vm.findClass RC = some m.cls := findClass_of_methodNamed B.named
  have hlocks := B.notSynchronized
  subst hsz
  have hD := hD0.self (sz := s.heap.size)
  generalize hAe : va_A ((cW ad cs nc np op par X Y O PQ Wd pw pf pu ps) ++ va_pl LP (pG G)) s.heap.size = A at hD hXF ⊢
  have hA : ∀ q : Nat, s.heap.size ≤ q → A q := fun q h => by rw [← hAe]; exact Or.inr h
  have hS0 : va_S A s.heap s.heap [] := va_S.rf
  refine x_name (fun R Q H locs hR hQ hH hlo => ?_)
  rw [← hH] at hP
  have hS : va_S A s.heap H locs := by rw [hH, hlo]; exact hS0
  refine x_entry hargs (Nat.le_of_ble_eq_true rfl) (fun ls hl => ?_)
  have hl : lv_has ls 7 [(0, .ref (ad 0)), (1, .int (iI w))] := hl
  have hP : va_P (dC, dI) vwCl ((cW ad cs nc np op par X Y O PQ Wd pw pf pu ps) ++ va_pl LP (pG G)) H := hP
  refine lv_iload_n hx hb dC_extent_0 rfl (lv_at hl 1 rfl) ?_
  refine xi_if_lt (tgt := 9) hx hb dC_extent_1 (by decide) (by omega) (fun c_1 => ?_) (fun c_1 => ?_)
  · skip
    subst hQ
    exact vx_throwS (A := A) (own := RC) (cls := IOB) (names := NMS) (ik := 101) (is := 136) (ic := 105) (sa := sa 136) hx hb hlt hown fit_IOB fit_NMS (hts _ (List.mem_cons_of_mem _ clC_101)) (hts _ (List.mem_cons_of_mem _ ini_IOB)) (hXF.str 136 (by decide +kernel)) (xat hts hXF at_IOB ok_IOB) ot_IOB hXF.u hXF.n hS (hl.1.trans hml.symm) dC_extent_9 dC_extent_12 dC_extent_13 dC_extent_15 dC_extent_18 (fun x9 h9 => (htb x9 h9).elim) (by subst hR; exact Nat.le_of_ble_eq_true rfl) (by subst hR; exact Nat.le_of_ble_eq_true rfl) (by subst hR; exact Nat.le_of_ble_eq_true rfl) (by subst hR; exact Nat.le_of_ble_eq_true rfl) hlocks (xt_X (Or.inl ⟨rfl, by unfold fE; rw [if_pos (by omega)]⟩) hP hK hS) hS.2.2 (Nat.le_of_ble_eq_true rfl) (Nat.le_of_ble_eq_true rfl)
  · skip
    refine lv_iload_n hx hb dC_extent_4 rfl (lv_at hl 1 rfl) ?_
    refine xi_iconst hx hb dC_extent_5 ?_
    refine xi_icmp_le (tgt := 19) hx hb dC_extent_6 (by decide) (by omega) (by omega) (fun c_6 => ?_) (fun c_6 => ?_)
    · skip
      refine lv_aload_n hx hb dC_extent_19 rfl (lv_at hl 0 rfl) ?_
      refine va_get (D := (dC, dI)) (ci := 2) (v := .int (iI nc)) (C := RC) (T := TC) (N := 10) hx hb hts (fun w9 h9 => List.mem_cons_of_mem _ (inC w9 h9)) hown hK hP 0 rfl rfl 6 (by decide) (hts _ (List.mem_cons_of_mem _ flC_36)) (fun _ h9 => h9) rfl dC_extent_20 ?_
      refine xi_if_ne (tgt := 36) hx hb dC_extent_23 (by decide) (by omega) (fun c_23 => ?_) (fun c_23 => ?_)
      · skip
        have cut_46_1 : ∀ (le : Bool) (ls : Array Slot), (le = decide (w < 2)) → lv_has ls 7 [(0, .ref (ad 0)), (1, .int (iI w))] → W p l e R s m args below meth c H locs 0 0 Q (F0 m 46 ls [.int (iI (bz le))]) := by
          intro le ls hle hl
          have f1 : fE w nc = 0 := by (unfold fE; rw [if_neg (by omega), if_neg (by omega)])
          have hw3 : 0 ≤ w ∧ w ≤ 3 := by omega
          refine lv_istore_n (lv' := [(2, .int (iI (bz le))), (0, .ref (ad 0)), (1, .int (iI w))]) hx hb dC_extent_46 rfl hl (by decide) rfl (fun ls hl => ?_)
          have cut_60_2 : ∀ (ex0 : Int) (ls : Array Slot), (ex0 = exI w) → lv_has ls 7 [(2, .int (iI (bz le))), (0, .ref (ad 0)), (1, .int (iI w))] → W p l e R s m args below meth c H locs 0 0 Q (F0 m 60 ls [.int (iI ex0)]) := by
            intro ex0 ls hex hl
            refine lv_istore_n (lv' := [(3, .int (iI ex0)), (2, .int (iI (bz le))), (0, .ref (ad 0)), (1, .int (iI w))]) hx hb dC_extent_60 rfl hl (by decide) rfl (fun ls hl => ?_)
            refine xi_iconst hx hb dC_extent_61 ?_
            refine lv_istore (lv' := [(4, .int (iI 0)), (3, .int (iI ex0)), (2, .int (iI (bz le))), (0, .ref (ad 0)), (1, .int (iI w))]) hx hb dC_extent_62 hl (by decide) rfl (fun ls hl => ?_)
            have cut_64_3 : ∀ (fu_64 : Nat) (z : Int) (ex : Int) (ls : Array Slot), ((op - z).toNat) < fu_64 → (0 ≤ z ∧ z ≤ op) → (exC PQ G w z ex) → (-8192 ≤ ex ∧ ex ≤ 8192) → lv_has ls 7 [(0, .ref (ad 0)), (1, .int (iI w)), (2, .int (iI (bz le))), (3, .int (iI ex)), (4, .int (iI z))] → W p l e R s m args below meth c H locs 0 0 Q (F0 m 64 ls []) := by
              intro fu_64
              induction fu_64 with
              | zero => intro _ _ _ hm; exact absurd hm (Nat.not_lt_zero _)
              | succ fu_64 ih_64 =>
                intro z ex ls hm i1 i2 i3 hl
                refine lv_iload hx hb dC_extent_64 (lv_at hl 4 rfl) ?_
                refine lv_aload_n hx hb dC_extent_66 rfl (lv_at hl 0 rfl) ?_
                refine va_get (D := (dC, dI)) (ci := 2) (v := .int (iI op)) (C := RC) (T := TC) (N := 10) hx hb hts (fun w9 h9 => List.mem_cons_of_mem _ (inC w9 h9)) hown hK hP 0 rfl rfl 8 (by decide) (hts _ (List.mem_cons_of_mem _ flC_43)) (fun _ h9 => h9) rfl dC_extent_67 ?_
                refine xi_icmp_ge (tgt := 121) hx hb dC_extent_70 (by decide) (by omega) (by omega) (fun c_70 => ?_) (fun c_70 => ?_)
                · skip
                  refine lv_iload_n hx hb dC_extent_121 rfl (lv_at hl 3 rfl) ?_
                  subst hQ
                  refine vx_ret ?_
                  refine W.widen (k := 1) (n := 6) (by omega) (by omega) ?_
                  exact W.iret (v := (iI ex)) hx hb hr (fun t9 ht9 hW9 => ⟨⟨_, (), rfl, (⟨f1, ex, rfl, by rw [show z = op by omega] at i2; exact i2⟩), by rw [ht9]; exact hP, va_K.moved hW9.alike hK, hD⟩, hS.F ht9⟩) hS.2.2 dC_extent_122
                · skip
                  refine lv_aload_n hx hb dC_extent_73 rfl (lv_at hl 0 rfl) ?_
                  refine va_get (D := (dC, dI)) (ci := 2) (v := .ref (ad 4)) (C := RC) (T := TC) (N := 10) hx hb hts (fun w9 h9 => List.mem_cons_of_mem _ (inC w9 h9)) hown hK hP 0 rfl rfl 3 (by decide) (hts _ (List.mem_cons_of_mem _ flC_22)) (fun _ h9 => h9) rfl dC_extent_74 ?_
                  refine lv_iload hx hb dC_extent_77 (lv_at hl 4 rfl) ?_
                  refine xa_aldq hx hb hK hP 4 3 rfl rfl (by decide) (by omega) dC_extent_79 ?_
                  rcases ha : PQ z with _ | a
                  · rw [show va_rf none = Value.null from rfl]
                    refine lv_astoreN (lv' := [(5, .null), (0, .ref (ad 0)), (1, .int (iI w)), (2, .int (iI (bz le))), (3, .int (iI ex)), (4, .int (iI z))]) hx hb dC_extent_80 hl (by decide) rfl (fun ls hl => ?_)
                    refine lv_aloadN hx hb dC_extent_82 (lv_at hl 0 rfl) ?_
                    refine lv_ifnullN (tgt := 115) hx hb dC_extent_84 (by decide) ?_
                    refine xi_iinc (z := z + 1) (lv' := [(4, .int (iI (z + 1))), (5, .null), (0, .ref (ad 0)), (1, .int (iI w)), (2, .int (iI (bz le))), (3, .int (iI ex))]) hx hb dC_extent_115 hl (k := 5) rfl rfl (by decide) rfl (fun ls hl => ?_)
                    refine lv_goto (tgt := 64) hx hb dC_extent_118 (by decide) ?_
                    exact ih_64 (z + 1) ex _ (by omega) (by omega) (exC_n i2 ha) (i3) (lv_sub hl [2, 3, 4, 5, 0] rfl)
                  · rw [show va_rf (some a) = Value.ref a from rfl]
                    obtain ⟨haL, hGa⟩ := hG z i1.1 (by omega) a ha
                    obtain ⟨q1, q2, q3, q4, q5, q6, q7⟩ := (show pdOk (G a) from hGa)
                    have b9 := pbw_bd hGa w
                    refine lv_astore (lv' := [(5, .ref a), (0, .ref (ad 0)), (1, .int (iI w)), (2, .int (iI (bz le))), (3, .int (iI ex)), (4, .int (iI z))]) hx hb dC_extent_80 hl (by decide) rfl (fun ls hl => ?_)
                    refine lv_aload hx hb dC_extent_82 (lv_at hl 0 rfl) ?_
                    refine lv_ifnull hx hb dC_extent_84 ?_
                    refine lv_aload hx hb dC_extent_87 (lv_at hl 0 rfl) ?_
                    refine lv_iload_n hx hb dC_extent_89 rfl (lv_at hl 2 rfl) ?_
                    obtain ⟨kq, hkq⟩ := va_pl_get (X := (cW ad cs nc np op par X Y O PQ Wd pw pf pu ps)) (f := pG G) haL
                    have hPc : va_P (dC, dI) vwCl [(a, .inr (0, [.int (iI (bz ((G a).ln))), .int (iI (sqv (G a).ln (G a).px (G a).qx (G a).rx)), .int (iI (onv (G a).ln (G a).px (G a).qx (G a).rx)), .int (iI (sqv (G a).ln (G a).py (G a).qy (G a).ry)), .int (iI (onv (G a).ln (G a).py (G a).qy (G a).ry)), .int (iI ((G a).px)), .int (iI ((G a).py)), .int (iI ((G a).qx)), .int (iI ((G a).qy)), .int (iI ((G a).rx)), .int (iI ((G a).ry))]))] H := xp_one hP hkq
                    have hKc := hK.sub (tys' := []) [] rfl
                    refine vp_callSi (W.runV (As := [.int (iI w)]) (rest := []) ⟨hx, hb, hml, hown, hts⟩ (p_bound l dC dI a ((G a).ln) (sqv (G a).ln (G a).px (G a).qx (G a).rx) (onv (G a).ln (G a).px (G a).qx (G a).rx) (sqv (G a).ln (G a).py (G a).qy (G a).ry) (onv (G a).ln (G a).py (G a).qy (G a).ry) ((G a).px) ((G a).py) ((G a).qx) ((G a).qy) ((G a).rx) ((G a).ry) w hw3 (by omega) (by omega) (by omega) (by omega) (by omega) (by omega)) (cwV 1 hts (tb_V mlC_140 imP_bound seP_bound iniP coP_bound) rfl rfl rfl (by decide +kernel) (by subst hR; exact ⟨Nat.le_of_ble_eq_true rfl, Nat.le_of_ble_eq_true rfl⟩)) ⟨fun a9 U9 g9 mk9 q9 => by obtain ⟨q0, qP, qK⟩ := q9; exact ⟨q0, qP, va_K.moved (u := U9) (U := U9.calling g9 mk9 a9) (Vm.Alike.refl U9.vm) qK⟩, va_recv hKc hPc (ci := 0) (q0 := 0) rfl rfl, fun U hU hW => ⟨rfl, by rw [hU]; exact hPc, va_K.moved hW.alike hKc⟩⟩ rfl rfl hl.1 rfl (lv_room (Nat.le_of_ble_eq_true rfl)) dC_extent_90 ⟨by subst hR; exact Nat.zero_le _, by subst hR; exact Nat.zero_le _⟩) (fun r_90 hw_90 => ?_)
                    subst hw_90
                    clear hPc hKc hkq
                    refine lv_istore (lv' := [(6, .int (iI (pbw (G a) w))), (5, .ref a), (0, .ref (ad 0)), (1, .int (iI w)), (2, .int (iI (bz le))), (3, .int (iI ex)), (4, .int (iI z))]) hx hb dC_extent_93 hl (by decide) rfl (fun ls hl => ?_)
                    have cut_114_4 : ∀ (v : Int) (ls : Array Slot), (v = if w < 2 then min ex (pbw (G a) w) else max ex (pbw (G a) w)) → lv_has ls 7 [(6, .int (iI (pbw (G a) w))), (5, .ref a), (0, .ref (ad 0)), (1, .int (iI w)), (2, .int (iI (bz le))), (3, .int (iI ex)), (4, .int (iI z))] → W p l e R s m args below meth c H locs 0 0 Q (F0 m 114 ls [.int (iI v)]) := by
                      intro v ls hv hl
                      refine lv_istore_n (lv' := [(3, .int (iI v)), (6, .int (iI (pbw (G a) w))), (5, .ref a), (0, .ref (ad 0)), (1, .int (iI w)), (2, .int (iI (bz le))), (4, .int (iI z))]) hx hb dC_extent_114 rfl hl (by decide) rfl (fun ls hl => ?_)
                      refine xi_iinc (z := z + 1) (lv' := [(4, .int (iI (z + 1))), (3, .int (iI v)), (6, .int (iI (pbw (G a) w))), (5, .ref a), (0, .ref (ad 0)), (1, .int (iI w)), (2, .int (iI (bz le)))]) hx hb dC_extent_115 hl (k := 6) rfl rfl (by decide) rfl (fun ls hl => ?_)
                      refine lv_goto (tgt := 64) hx hb dC_extent_118 (by decide) ?_
                      exact ih_64 (z + 1) v _ (by omega) (by omega) (exC_s i1.1 i2 ha hv) (by rw [hv]; split <;> omega) (lv_sub hl [4, 5, 6, 1, 0] rfl)
                    refine lv_iload_n hx hb dC_extent_95 rfl (lv_at hl 4 rfl) ?_
                    refine xb_if_eq (tgt := 108) hx hb dC_extent_96 (by decide) (fun c_96 => ?_) (fun c_96 => ?_)
                    · skip
                      refine lv_iload_n hx hb dC_extent_108 rfl (lv_at hl 5 rfl) ?_
                      refine lv_iload hx hb dC_extent_109 (lv_at hl 0 rfl) ?_
                      refine va_mmax hx hb (hml.trans hl.1.symm) hown (hts _ (List.mem_cons_of_mem _ mlC_149)) (hts _ (List.mem_cons_of_mem _ smJM_max)) (hts _ (List.mem_cons_of_mem _ iniJM)) (hts _ (List.mem_cons_of_mem _ coJM_max)) (by subst hR; exact Nat.le_of_ble_eq_true rfl) (by subst hR; exact Nat.le_of_ble_eq_true rfl) (by subst hR; exact Nat.zero_le _) (by subst hR; exact Nat.zero_le _) dC_extent_111 ?_
                      refine xi_top (y := .int (iI (max ex (pbw (G a) w)))) (by rw [xi_max (by omega) (by omega)]) ?_
                      exact cut_114_4 (max ex (pbw (G a) w)) _ (by rw [if_neg (of_decide_eq_false (hle.symm.trans c_96))]) (lv_sub hl [0, 1, 2, 3, 4, 5, 6] rfl)
                    · skip
                      refine lv_iload_n hx hb dC_extent_99 rfl (lv_at hl 5 rfl) ?_
                      refine lv_iload hx hb dC_extent_100 (lv_at hl 0 rfl) ?_
                      refine va_mmin hx hb (hml.trans hl.1.symm) hown (hts _ (List.mem_cons_of_mem _ mlC_143)) (hts _ (List.mem_cons_of_mem _ smJM_min)) (hts _ (List.mem_cons_of_mem _ iniJM)) (hts _ (List.mem_cons_of_mem _ coJM_min)) (by subst hR; exact Nat.le_of_ble_eq_true rfl) (by subst hR; exact Nat.le_of_ble_eq_true rfl) (by subst hR; exact Nat.zero_le _) (by subst hR; exact Nat.zero_le _) dC_extent_102 ?_
                      refine xi_top (y := .int (iI (min ex (pbw (G a) w)))) (by rw [xi_min (by omega) (by omega)]) ?_
                      refine lv_goto (tgt := 114) hx hb dC_extent_105 (by decide) ?_
                      exact cut_114_4 (min ex (pbw (G a) w)) _ (by rw [if_pos (of_decide_eq_true (hle.symm.trans c_96))]) (lv_sub hl [0, 1, 2, 3, 4, 5, 6] rfl)
            exact cut_64_3 (((op - (0 : Int)).toNat) + 1) 0 ex0 _ (Nat.lt_succ_self _) (by omega) (by rw [hex]; exact exC_0 PQ G w) (by rw [hex]; unfold exI; split <;> omega) (lv_sub hl [3, 4, 2, 1, 0] rfl)
          refine lv_iload_n hx hb dC_extent_47 rfl (lv_at hl 0 rfl) ?_
          refine xb_if_eq (tgt := 57) hx hb dC_extent_48 (by decide) (fun c_48 => ?_) (fun c_48 => ?_)
          · skip
            refine lv_sipush (v := iI (-8192)) hx hb dC_extent_57 (by decide +kernel) ?_
            exact cut_60_2 (-8192) _ (by unfold exI; rw [if_neg (of_decide_eq_false (hle.symm.trans c_48))]) (lv_sub hl [0, 1, 2] rfl)
          · skip
            refine lv_sipush (v := iI 8191) hx hb dC_extent_51 (by decide +kernel) ?_
            refine lv_goto (tgt := 60) hx hb dC_extent_54 (by decide) ?_
            exact cut_60_2 8191 _ (by unfold exI; rw [if_pos (of_decide_eq_true (hle.symm.trans c_48))]) (lv_sub hl [0, 1, 2] rfl)
        refine lv_iload_n hx hb dC_extent_36 rfl (lv_at hl 1 rfl) ?_
        refine xi_iconst hx hb dC_extent_37 ?_
        refine xi_icmp_ge (tgt := 45) hx hb dC_extent_38 (by decide) (by omega) (by omega) (fun c_38 => ?_) (fun c_38 => ?_)
        · skip
          refine xi_iconst hx hb dC_extent_45 ?_
          exact cut_46_1 false _ (dec_f (by omega)) (lv_sub hl [0, 1] rfl)
        · skip
          refine xi_iconst hx hb dC_extent_41 ?_
          refine lv_goto (tgt := 46) hx hb dC_extent_42 (by decide) ?_
          exact cut_46_1 true _ (dec_t (by omega)) (lv_sub hl [0, 1] rfl)
      · skip
        subst hQ
        exact vx_throwS (A := A) (own := RC) (cls := ISE) (names := NMS) (ik := 61) (is := 138) (ic := 65) (sa := sa 138) hx hb hlt hown fit_ISE fit_NMS (hts _ (List.mem_cons_of_mem _ clC_61)) (hts _ (List.mem_cons_of_mem _ ini_ISE)) (hXF.str 138 (by decide +kernel)) (xat hts hXF at_ISE ok_ISE) ot_ISE hXF.u hXF.n hS (hl.1.trans hml.symm) dC_extent_26 dC_extent_29 dC_extent_30 dC_extent_32 dC_extent_35 (fun x9 h9 => (htb x9 h9).elim) (by subst hR; exact Nat.le_of_ble_eq_true rfl) (by subst hR; exact Nat.le_of_ble_eq_true rfl) (by subst hR; exact Nat.le_of_ble_eq_true rfl) (by subst hR; exact Nat.le_of_ble_eq_true rfl) hlocks (xt_X (Or.inr ⟨rfl, by unfold fE; rw [if_neg (by omega), if_pos (by omega)]⟩) hP hK hS) hS.2.2 (Nat.le_of_ble_eq_true rfl) (Nat.le_of_ble_eq_true rfl)
    · skip
      subst hQ
      exact vx_throwS (A := A) (own := RC) (cls := IOB) (names := NMS) (ik := 101) (is := 136) (ic := 105) (sa := sa 136) hx hb hlt hown fit_IOB fit_NMS (hts _ (List.mem_cons_of_mem _ clC_101)) (hts _ (List.mem_cons_of_mem _ ini_IOB)) (hXF.str 136 (by decide +kernel)) (xat hts hXF at_IOB ok_IOB) ot_IOB hXF.u hXF.n hS (hl.1.trans hml.symm) dC_extent_9 dC_extent_12 dC_extent_13 dC_extent_15 dC_extent_18 (fun x9 h9 => (htb x9 h9).elim) (by subst hR; exact Nat.le_of_ble_eq_true rfl) (by subst hR; exact Nat.le_of_ble_eq_true rfl) (by subst hR; exact Nat.le_of_ble_eq_true rfl) (by subst hR; exact Nat.le_of_ble_eq_true rfl) hlocks (xt_X (Or.inl ⟨rfl, by unfold fE; rw [if_pos (by omega)]⟩) hP hK hS) hS.2.2 (Nat.le_of_ble_eq_true rfl) (Nat.le_of_ble_eq_true rfl)
set_option maxHeartbeats 4000000 in
set_option maxRecDepth 100000 in
/-- close -/
theorem k_close (l : Launch) (hlt : l.stackTraces = false) (sa : Nat → Nat) (dC : Nat → ClassId) (dI : Nat → Nat → Nat) (ad : Nat → Nat) (cs : Nat → ClassId) (sz : Nat) (LP : List Nat) (G : Nat → PD) (nc np op : Int) (par : Bool) (X Y : Int → Int) (O : Int → Bool) (PQ : Int → Option Nat) (Wd : Int → Int) (pw pf pu ps : Int) (h2 : 0 ≤ op ∧ op ≤ np ∧ np ≤ 512) (hnc : 0 ≤ nc ∧ nc ≤ 64) (hxy : ∀ k : Int, op ≤ k → k < np → (-8192 ≤ X k ∧ X k ≤ 8191) ∧ (-8192 ≤ Y k ∧ Y k ≤ 8191)) : vx_Met l yC_close wC_close ({ frames := 6, cells := 512, slots := 5632, locals := 82 }) (va_Pc [.ref (ad 0)] (fun U => U.heap.size = sz ∧ va_P (dC, dI) vwCl ((cW ad cs nc np op par X Y O PQ Wd pw pf pu ps) ++ va_pl LP (pG G)) U.heap ∧ va_K (dC, dI) vwCl (cT cs) U ∧ va_D (fun _ => True) ((cW ad cs nc np op par X Y O PQ Wd pw pf pu ps) ++ va_pl LP (pG G)) ∧ xFk (va_A ((cW ad cs nc np op par X Y O PQ Wd pw pf pu ps) ++ va_pl LP (pG G)) sz) sa U)) (va_Qi (fun (r : Int32) (u : List Nat × (Nat → PD) × (Int → Option Nat)) => ¬ (np = op ∨ 64 ≤ nc) ∧ r = iI (nc + 1) ∧ newP LP G PQ u.1 u.2.1 u.2.2 X Y O op np np) (fun (u : List Nat × (Nat → PD) × (Int → Option Nat)) t9 => va_P (dC, dI) vwCl ((cW ad cs (nc + 1) np np par X Y O u.2.2 Wd pw pf pu ps) ++ va_pl u.1 (pG u.2.1)) t9.heap ∧ va_K (dC, dI) vwCl (cT cs) t9 ∧ va_D (va_A ((cW ad cs nc np op par X Y O PQ Wd pw pf pu ps) ++ va_pl LP (pG G)) sz) ((cW ad cs (nc + 1) np np par X Y O u.2.2 Wd pw pf pu ps) ++ va_pl u.1 (pG u.2.1))) (va_A ((cW ad cs nc np op par X Y O PQ Wd pw pf pu ps) ++ va_pl LP (pG G)) sz)) (vx_X (S := Unit) (fun _ => True) (fun E9 _ t9 => (E9 = ISE ∧ (np = op ∨ 64 ≤ nc)) ∧ va_P (dC, dI) vwCl ((cW ad cs nc np op par X Y O PQ Wd pw pf pu ps) ++ va_pl LP (pG G)) t9.heap ∧ va_K (dC, dI) vwCl (cT cs) t9) (va_A ((cW ad cs nc np op par X Y O PQ Wd pw pf pu ps) ++ va_pl LP (pG G)) sz)) 512 5632 (va_A ((cW ad cs nc np op par X Y O PQ Wd pw pf pu ps) ++ va_pl LP (pG G)) sz) := by
  refine vx_ofW (cc := cC_close) (maxL := 2) (ret := (some .int)) (by decide) rfl ?_
  intro p e s m args below meth c s₁ B hml htb hv
  obtain ⟨hargs, hsz, hP, hK, hD0, hXF⟩ := hv
  have hx := B.exec
  have hb := B.bytes
  have hr := B.returns
  have hts := atoms_spec (ws := wC_close) B.pre
  have hown : s.vm.findClass RC = some m.cls := findClass_of_methodNamed B.named
  have hlocks := B.notSynchronized
  subst hsz
  have hD := hD0.self (sz := s.heap.size)
  generalize hAe : va_A ((cW ad cs nc np op par X Y O PQ Wd pw pf pu ps) ++ va_pl LP (pG G)) s.heap.size = A at hD hXF ⊢
  have hA : ∀ q : Nat, s.heap.size ≤ q → A q := fun q h => by rw [← hAe]; exact Or.inr h
  have hS0 : va_S A s.heap s.heap [] := va_S.rf
  refine x_name (fun R Q H locs hR hQ hH hlo => ?_)
  rw [← hH] at hP
  have hS : va_S A s.heap H locs := by rw [hH, hlo]; exact hS0
  refine x_entry hargs (Nat.le_of_ble_eq_true rfl) (fun ls hl => ?_)
  have hl : lv_has ls 2 [(0, .ref (ad 0))] := hl
  have hP : va_P (dC, dI) vwCl ((cW ad cs nc np op par X Y O PQ Wd pw pf pu ps) ++ va_pl LP (pG G)) H := hP
  refine lv_aload_n hx hb dC_close_0 rfl (lv_at hl 0 rfl) ?_
  refine va_get (D := (dC, dI)) (ci := 2) (v := .int (iI np)) (C := RC) (T := TC) (N := 10) hx hb hts (fun w9 h9 => List.mem_cons_of_mem _ (inC w9 h9)) hown hK hP 0 rfl rfl 7 (by decide) (hts _ (List.mem_cons_of_mem _ flC_40)) (fun _ h9 => h9) rfl dC_close_1 ?_
  refine lv_aload_n hx hb dC_close_4 rfl (lv_at hl 0 rfl) ?_
  refine va_get (D := (dC, dI)) (ci := 2) (v := .int (iI op)) (C := RC) (T := TC) (N := 10) hx hb hts (fun w9 h9 => List.mem_cons_of_mem _ (inC w9 h9)) hown hK hP 0 rfl rfl 8 (by decide) (hts _ (List.mem_cons_of_mem _ flC_43)) (fun _ h9 => h9) rfl dC_close_5 ?_
  refine xi_icmp_ne (tgt := 21) hx hb dC_close_8 (by decide) (by omega) (by omega) (fun c_8 => ?_) (fun c_8 => ?_)
  · skip
    refine lv_aload_n hx hb dC_close_21 rfl (lv_at hl 0 rfl) ?_
    refine va_get (D := (dC, dI)) (ci := 2) (v := .int (iI nc)) (C := RC) (T := TC) (N := 10) hx hb hts (fun w9 h9 => List.mem_cons_of_mem _ (inC w9 h9)) hown hK hP 0 rfl rfl 6 (by decide) (hts _ (List.mem_cons_of_mem _ flC_36)) (fun _ h9 => h9) rfl dC_close_22 ?_
    refine lv_bipush (v := iI 64) hx hb dC_close_25 (by decide +kernel) ?_
    refine xi_icmp_lt (tgt := 40) hx hb dC_close_27 (by decide) (by omega) (by omega) (fun c_27 => ?_) (fun c_27 => ?_)
    · skip
      refine lv_aload_n hx hb dC_close_40 rfl (lv_at hl 0 rfl) ?_
      refine va_get (D := (dC, dI)) (ci := 2) (v := .int (iI op)) (C := RC) (T := TC) (N := 10) hx hb hts (fun w9 h9 => List.mem_cons_of_mem _ (inC w9 h9)) hown hK hP 0 rfl rfl 8 (by decide) (hts _ (List.mem_cons_of_mem _ flC_43)) (fun _ h9 => h9) rfl dC_close_41 ?_
      refine lv_istore_n (lv' := [(1, .int (iI op)), (0, .ref (ad 0))]) hx hb dC_close_44 rfl hl (by decide) rfl (fun ls hl => ?_)
      have cut_45_1 : ∀ (fu_45 : Nat) (z : Int) (L1 : List Nat) (G1 : Nat → PD) (Q1 : Int → Option Nat) (H : Heap) (locs : List Loc) (ls : Array Slot), ((np - z).toNat) < fu_45 → (op ≤ z ∧ z ≤ np) → (newP LP G PQ L1 G1 Q1 X Y O op np z) → va_P (dC, dI) vwCl ((cW ad cs nc np op par X Y O Q1 Wd pw pf pu ps) ++ va_pl L1 (pG G1)) H → va_D A ((cW ad cs nc np op par X Y O Q1 Wd pw pf pu ps) ++ va_pl L1 (pG G1)) → va_S A s.heap H locs → lv_has ls 2 [(0, .ref (ad 0)), (1, .int (iI z))] → W p l e R s m args below meth c H locs ((z - op).toNat) (11 * (z - op).toNat) Q (F0 m 45 ls []) := by
        intro fu_45
        induction fu_45 with
        | zero => intro _ _ _ _ _ _ _ hm; exact absurd hm (Nat.not_lt_zero _)
        | succ fu_45 ih_45 =>
          intro z L1 G1 Q1 H locs ls hm i1 i2 hP hD hS hl
          refine lv_iload_n hx hb dC_close_45 rfl (lv_at hl 1 rfl) ?_
          refine lv_aload_n hx hb dC_close_46 rfl (lv_at hl 0 rfl) ?_
          refine va_get (D := (dC, dI)) (ci := 2) (v := .int (iI np)) (C := RC) (T := TC) (N := 10) hx hb hts (fun w9 h9 => List.mem_cons_of_mem _ (inC w9 h9)) hown hK hP 0 rfl rfl 7 (by decide) (hts _ (List.mem_cons_of_mem _ flC_40)) (fun _ h9 => h9) rfl dC_close_47 ?_
          refine xi_icmp_ge (tgt := 70) hx hb dC_close_50 (by decide) (by omega) (by omega) (fun c_50 => ?_) (fun c_50 => ?_)
          · skip
            refine lv_aload_n hx hb dC_close_70 rfl (lv_at hl 0 rfl) ?_
            refine lv_aload_n hx hb dC_close_71 rfl (lv_at hl 0 rfl) ?_
            refine va_get (D := (dC, dI)) (ci := 2) (v := .int (iI np)) (C := RC) (T := TC) (N := 10) hx hb hts (fun w9 h9 => List.mem_cons_of_mem _ (inC w9 h9)) hown hK hP 0 rfl rfl 7 (by decide) (hts _ (List.mem_cons_of_mem _ flC_40)) (fun _ h9 => h9) rfl dC_close_72 ?_
            refine va_put (D := (dC, dI)) (ci := 2) (v := .int (iI np)) (ty := .int) (C := RC) (T := TC) (N := 10) hx hb hts (fun w9 h9 => List.mem_cons_of_mem _ (inC w9 h9)) tyC tyC_ok nmC hown hK hP hD hS 0 rfl rfl 8 (by decide) (hts _ (List.mem_cons_of_mem _ flC_43)) (fun _ h9 => h9) rfl (by decide +kernel) rfl rfl (Nat.le_of_ble_eq_true rfl) dC_close_75 (fun H locs hP hD hS => ?_)
            have hP : va_P (dC, dI) vwCl ((cW ad cs nc np np par X Y O Q1 Wd pw pf pu ps) ++ va_pl L1 (pG G1)) H := hP
            have hD : va_D A ((cW ad cs nc np np par X Y O Q1 Wd pw pf pu ps) ++ va_pl L1 (pG G1)) := hD
            refine lv_aload_n hx hb dC_close_78 rfl (lv_at hl 0 rfl) ?_
            refine lv_dup hx hb dC_close_79 rfl ?_
            refine va_get (D := (dC, dI)) (ci := 2) (v := .int (iI nc)) (C := RC) (T := TC) (N := 10) hx hb hts (fun w9 h9 => List.mem_cons_of_mem _ (inC w9 h9)) hown hK hP 0 rfl rfl 6 (by decide) (hts _ (List.mem_cons_of_mem _ flC_36)) (fun _ h9 => h9) rfl dC_close_80 ?_
            refine xi_iconst hx hb dC_close_83 ?_
            refine xi_add (z := nc + 1) hx hb dC_close_84 rfl ?_
            refine va_put (D := (dC, dI)) (ci := 2) (v := .int (iI (nc + 1))) (ty := .int) (C := RC) (T := TC) (N := 10) hx hb hts (fun w9 h9 => List.mem_cons_of_mem _ (inC w9 h9)) tyC tyC_ok nmC hown hK hP hD hS 0 rfl rfl 6 (by decide) (hts _ (List.mem_cons_of_mem _ flC_36)) (fun _ h9 => h9) rfl (by decide +kernel) rfl rfl (Nat.le_of_ble_eq_true rfl) dC_close_85 (fun H locs hP hD hS => ?_)
            have hP : va_P (dC, dI) vwCl ((cW ad cs (nc + 1) np np par X Y O Q1 Wd pw pf pu ps) ++ va_pl L1 (pG G1)) H := hP
            have hD : va_D A ((cW ad cs (nc + 1) np np par X Y O Q1 Wd pw pf pu ps) ++ va_pl L1 (pG G1)) := hD
            refine lv_aload_n hx hb dC_close_88 rfl (lv_at hl 0 rfl) ?_
            refine va_get (D := (dC, dI)) (ci := 2) (v := .int (iI (nc + 1))) (C := RC) (T := TC) (N := 10) hx hb hts (fun w9 h9 => List.mem_cons_of_mem _ (inC w9 h9)) hown hK hP 0 rfl rfl 6 (by decide) (hts _ (List.mem_cons_of_mem _ flC_36)) (fun _ h9 => h9) rfl dC_close_89 ?_
            subst hQ
            refine vx_ret ?_
            refine W.widen (k := 512) (n := 5632) (by omega) (by omega) ?_
            exact W.iret (v := (iI (nc + 1))) hx hb hr (fun t9 ht9 hW9 => ⟨⟨_, (L1, G1, Q1), rfl, (⟨by omega, rfl, by rw [show z = np by omega] at i2; exact i2⟩), by rw [ht9]; exact hP, va_K.moved hW9.alike hK, hD⟩, hS.F ht9⟩) hS.2.2 dC_close_92
          · skip
            refine lv_aload_n hx hb dC_close_53 rfl (lv_at hl 0 rfl) ?_
            refine va_get (D := (dC, dI)) (ci := 2) (v := .ref (ad 4)) (C := RC) (T := TC) (N := 10) hx hb hts (fun w9 h9 => List.mem_cons_of_mem _ (inC w9 h9)) hown hK hP 0 rfl rfl 3 (by decide) (hts _ (List.mem_cons_of_mem _ flC_22)) (fun _ h9 => h9) rfl dC_close_54 ?_
            refine lv_iload_n hx hb dC_close_57 rfl (lv_at hl 1 rfl) ?_
            refine lv_aload_n hx hb dC_close_58 rfl (lv_at hl 0 rfl) ?_
            refine lv_iload_n hx hb dC_close_59 rfl (lv_at hl 1 rfl) ?_
            have hFc := xw_free hD hS hA
            refine va_callq (va_runV (As := [.int (iI z)]) (rest := [.int (iI z), .ref (ad 4)]) ⟨hx, hb, hml, hown, hts⟩ (k_pieceOf l dC dI ad cs H.size L1 G1 nc np op par X Y O Q1 Wd pw pf pu ps z (by omega) hxy) (cwV 1 hts (tb_V mlC_70 imC_pieceOf seC_pieceOf iniC coC_pieceOf) rfl rfl rfl (by decide +kernel) (by subst hR; exact ⟨Nat.le_of_ble_eq_true rfl, Nat.le_of_ble_eq_true rfl⟩)) ⟨fun a9 U9 g9 mk9 q9 => by obtain ⟨q0, q1, qP, qK, qD⟩ := q9; exact ⟨q0, q1, qP, va_K.moved (u := U9) (U := U9.calling g9 mk9 a9) (Vm.Alike.refl U9.vm) qK, qD⟩, va_recv hK hP (ci := 2) (q0 := 0) rfl rfl, fun U hU hW => ⟨rfl, by rw [hU], by rw [hU]; exact hP, va_K.moved hW.alike hK, hD.weaken (fun _ _ _ _ => trivial)⟩⟩ rfl rfl hl.1 rfl (lv_room (Nat.le_of_ble_eq_true rfl)) dC_close_60 ⟨by subst hR; show (z - op).toNat + 1 ≤ 512; omega, by subst hR; show 11 * (z - op).toNat + 11 ≤ 5632; omega⟩) hS (fun q9 _ h9 => hFc q9 h9) hFc (fun r_60 u_60 t9 H1 locs1 ht9 hvm9 hw_60 hB9 hz9 hk9 hS1 => ?_)
            obtain ⟨hP1, hK1, hD1⟩ := hB9
            rw [ht9] at hP1
            have hP : va_P (dC, dI) vwCl ((cW ad cs nc np op par X Y O Q1 Wd pw pf pu ps) ++ va_pl u_60.1 (pG u_60.2)) H1 := hP1
            have hD : va_D A ((cW ad cs nc np op par X Y O Q1 Wd pw pf pu ps) ++ va_pl u_60.1 (pG u_60.2)) := hD1.weaken (fun _ _ _ h9 => hFc _ h9)
            clear hP1 hD1 hK1 hFc
            have hS := hS1
            clear hS1 hz9 hk9 ht9 hvm9
            revert hP hD hS; generalize H1 = H; generalize locs1 = locs; intro hP hD hS
            rcases hw_60 with ⟨hr0, hn0, hu1, hu2⟩ | ⟨a, d, hr0, hd0, hf0, hu1, hu2⟩
            · subst hr0
              rw [show va_rf none = Value.null from rfl]
              refine xa_astqN hx hb hK hP hD hS 4 3 rfl rfl (by decide) (by omega) dC_close_63 (fun H locs hP hD hS => ?_)
              have hP : va_P (dC, dI) vwCl ((cW ad cs nc np op par X Y O (up Q1 z none) Wd pw pf pu ps) ++ va_pl u_60.1 (pG u_60.2)) H := hP
              have hD : va_D A ((cW ad cs nc np op par X Y O (up Q1 z none) Wd pw pf pu ps) ++ va_pl u_60.1 (pG u_60.2)) := hD
              refine xi_iinc (z := z + 1) (lv' := [(1, .int (iI (z + 1))), (0, .ref (ad 0))]) hx hb dC_close_64 hl (k := 1) rfl rfl (by decide) rfl (fun ls hl => ?_)
              refine lv_goto (tgt := 45) hx hb dC_close_67 (by decide) ?_
              refine W.widen (k := (z + 1 - op).toNat) (n := 11 * (z + 1 - op).toNat) (by omega) (by omega) ?_
              exact ih_45 (z + 1) u_60.1 u_60.2 (up Q1 z none) _ _ _ (by omega) (by omega) (by rw [hu1, hu2]; exact newP_n i2 i1.1 hn0) hP hD hS (lv_sub hl [1, 0] rfl)
            · subst hr0
              rw [show va_rf (some a) = Value.ref a from rfl]
              have haL : a ∈ u_60.1 := by (rw [hu1]; exact List.mem_append_right _ List.mem_cons_self)
              obtain ⟨kq, hkq⟩ := va_pl_get (X := (cW ad cs nc np op par X Y O Q1 Wd pw pf pu ps)) (f := pG u_60.2) haL
              refine xa_astq (r := (RP, TP, 11)) hx hb hK hP hD hS 4 3 kq 0 rfl rfl hkq rfl (by decide) (by omega) dC_close_63 (fun H locs hP hD hS => ?_)
              have hP : va_P (dC, dI) vwCl ((cW ad cs nc np op par X Y O (up Q1 z (some a)) Wd pw pf pu ps) ++ va_pl u_60.1 (pG u_60.2)) H := hP
              have hD : va_D A ((cW ad cs nc np op par X Y O (up Q1 z (some a)) Wd pw pf pu ps) ++ va_pl u_60.1 (pG u_60.2)) := hD
              refine xi_iinc (z := z + 1) (lv' := [(1, .int (iI (z + 1))), (0, .ref (ad 0))]) hx hb dC_close_64 hl (k := 1) rfl rfl (by decide) rfl (fun ls hl => ?_)
              refine lv_goto (tgt := 45) hx hb dC_close_67 (by decide) ?_
              refine W.widen (k := (z + 1 - op).toNat) (n := 11 * (z + 1 - op).toNat) (by omega) (by omega) ?_
              exact ih_45 (z + 1) u_60.1 u_60.2 (up Q1 z (some a)) _ _ _ (by omega) (by omega) (by rw [hu1, hu2]; exact newP_s i2 i1.1 hd0 hf0) hP hD hS (lv_sub hl [1, 0] rfl)
      refine W.widen (k := (op - op).toNat) (n := 11 * (op - op).toNat) (by omega) (by omega) ?_
      exact cut_45_1 (((np - op).toNat) + 1) op LP G PQ _ _ _ (Nat.lt_succ_self _) (by omega) (newP_0) hP hD hS (lv_sub hl [1, 0] rfl)
    · skip
      subst hQ
      exact vx_throwS (A := A) (own := RC) (cls := ISE) (names := NMS) (ik := 61) (is := 68) (ic := 65) (sa := sa 68) hx hb hlt hown fit_ISE fit_NMS (hts _ (List.mem_cons_of_mem _ clC_61)) (hts _ (List.mem_cons_of_mem _ ini_ISE)) (hXF.str 68 (by decide +kernel)) (xat hts hXF at_ISE ok_ISE) ot_ISE hXF.u hXF.n hS (hl.1.trans hml.symm) dC_close_30 dC_close_33 dC_close_34 dC_close_36 dC_close_39 (fun x9 h9 => (htb x9 h9).elim) (by subst hR; exact Nat.le_of_ble_eq_true rfl) (by subst hR; exact Nat.le_of_ble_eq_true rfl) (by subst hR; exact Nat.le_of_ble_eq_true rfl) (by subst hR; exact Nat.le_of_ble_eq_true rfl) hlocks (xt_X (⟨rfl, Or.inr (by omega)⟩) hP hK hS) hS.2.2 (Nat.le_of_ble_eq_true rfl) (Nat.le_of_ble_eq_true rfl)
  · skip
    subst hQ
    exact vx_throwS (A := A) (own := RC) (cls := ISE) (names := NMS) (ik := 61) (is := 66) (ic := 65) (sa := sa 66) hx hb hlt hown fit_ISE fit_NMS (hts _ (List.mem_cons_of_mem _ clC_61)) (hts _ (List.mem_cons_of_mem _ ini_ISE)) (hXF.str 66 (by decide +kernel)) (xat hts hXF at_ISE ok_ISE) ot_ISE hXF.u hXF.n hS (hl.1.trans hml.symm) dC_close_11 dC_close_14 dC_close_15 dC_close_17 dC_close_20 (fun x9 h9 => (htb x9 h9).elim) (by subst hR; exact Nat.le_of_ble_eq_true rfl) (by subst hR; exact Nat.le_of_ble_eq_true rfl) (by subst hR; exact Nat.le_of_ble_eq_true rfl) (by subst hR; exact Nat.le_of_ble_eq_true rfl) hlocks (xt_X (⟨rfl, Or.inl c_8⟩) hP hK hS) hS.2.2 (Nat.le_of_ble_eq_true rfl) (Nat.le_of_ble_eq_true rfl)
set_option maxHeartbeats 4000000 in
set_option maxRecDepth 100000 in
/-- move -/
theorem k_move (l : Launch) (hlt : l.stackTraces = false) (sa : Nat → Nat) (dC : Nat → ClassId) (dI : Nat → Nat → Nat) (ad : Nat → Nat) (cs : Nat → ClassId) (sz : Nat) (LP : List Nat) (G : Nat → PD) (nc np op : Int) (par : Bool) (X Y : Int → Int) (O : Int → Bool) (PQ : Int → Option Nat) (Wd : Int → Int) (pw pf pu ps : Int) (dx dy : Int) (hop : 0 ≤ op ∧ op ≤ 512) (hG : cOk LP G PQ op) (h2 : 0 ≤ np ∧ np ≤ 512) (h3 : ∀ k : Int, 0 ≤ k → k < np → (-8192 ≤ X k ∧ X k ≤ 8191) ∧ (-8192 ≤ Y k ∧ Y k ≤ 8191)) (hj : injP PQ op) (hx0 : -2147483648 ≤ dx ∧ dx ≤ 2147483647) (hy0 : -2147483648 ≤ dy ∧ dy ≤ 2147483647) : vx_Met l yC_move wC_move ({ frames := 6, cells := 1, slots := 6, locals := 82 }) (va_Pc [.ref (ad 0), .int (iI dx), .int (iI dy)] (fun U => U.heap.size = sz ∧ va_P (dC, dI) vwCl ((cW ad cs nc np op par X Y O PQ Wd pw pf pu ps) ++ va_pl LP (pG G)) U.heap ∧ va_K (dC, dI) vwCl (cT cs) U ∧ va_D (fun _ => True) ((cW ad cs nc np op par X Y O PQ Wd pw pf pu ps) ++ va_pl LP (pG G)) ∧ xFk (va_A ((cW ad cs nc np op par X Y O PQ Wd pw pf pu ps) ++ va_pl LP (pG G)) sz) sa U)) (va_Qv (fun (u : Nat → PD) => mvok X Y dx dy np.toNat = true ∧ mvP G PQ u dx dy op) (fun (u : Nat → PD) t9 => va_P (dC, dI) vwCl ((cW ad cs nc np op par (mvF X dx np) (mvF Y dy np) O PQ Wd pw pf pu ps) ++ va_pl LP (pG u)) t9.heap ∧ va_K (dC, dI) vwCl (cT cs) t9 ∧ va_D (va_A ((cW ad cs nc np op par X Y O PQ Wd pw pf pu ps) ++ va_pl LP (pG G)) sz) ((cW ad cs nc np op par (mvF X dx np) (mvF Y dy np) O PQ Wd pw pf pu ps) ++ va_pl LP (pG u))) (va_A ((cW ad cs nc np op par X Y O PQ Wd pw pf pu ps) ++ va_pl LP (pG G)) sz)) (vx_X (S := Unit) (fun _ => True) (fun E9 _ t9 => (E9 = IAE ∧ mvok X Y dx dy np.toNat = false) ∧ va_P (dC, dI) vwCl ((cW ad cs nc np op par X Y O PQ Wd pw pf pu ps) ++ va_pl LP (pG G)) t9.heap ∧ va_K (dC, dI) vwCl (cT cs) t9) (va_A ((cW ad cs nc np op par X Y O PQ Wd pw pf pu ps) ++ va_pl LP (pG G)) sz)) 1 6 (va_A ((cW ad cs nc np op par X Y O PQ Wd pw pf pu ps) ++ va_pl LP (pG G)) sz) := by
  refine vx_ofW (cc := cC_move) (maxL := 5) (ret := none) (by decide) rfl ?_
  intro p e s m args below meth c s₁ B hml htb hv
  obtain ⟨hargs, hsz, hP, hK, hD0, hXF⟩ := hv
  have hx := B.exec
  have hb := B.bytes
  have hr := B.returns
  have hts := atoms_spec (ws := wC_move) B.pre
  have hown : s.vm.findClass RC = some m.cls := findClass_of_methodNamed B.named
  have hlocks := B.notSynchronized
  subst hsz
  have hD := hD0.self (sz := s.heap.size)
  generalize hAe : va_A ((cW ad cs nc np op par X Y O PQ Wd pw pf pu ps) ++ va_pl LP (pG G)) s.heap.size = A at hD hXF ⊢
  have hA : ∀ q : Nat, s.heap.size ≤ q → A q := fun q h => by rw [← hAe]; exact Or.inr h
  have hS0 : va_S A s.heap s.heap [] := va_S.rf
  refine x_name (fun R Q H locs hR hQ hH hlo => ?_)
  rw [← hH] at hP
  have hS : va_S A s.heap H locs := by rw [hH, hlo]; exact hS0
  refine x_entry hargs (Nat.le_of_ble_eq_true rfl) (fun ls hl => ?_)
  have hl : lv_has ls 5 [(0, .ref (ad 0)), (1, .int (iI dx)), (2, .int (iI dy))] := hl
  have hP : va_P (dC, dI) vwCl ((cW ad cs nc np op par X Y O PQ Wd pw pf pu ps) ++ va_pl LP (pG G)) H := hP
  refine xi_iconst hx hb dC_move_0 ?_
  refine lv_istore_n (lv' := [(3, .int (iI 0)), (0, .ref (ad 0)), (1, .int (iI dx)), (2, .int (iI dy))]) hx hb dC_move_1 rfl hl (by decide) rfl (fun ls hl => ?_)
  have cut_2_1 : ∀ (fu_2 : Nat) (z : Int) (ls : Array Slot), ((np - z).toNat) < fu_2 → (0 ≤ z ∧ z ≤ np) → (mvok X Y dx dy z.toNat = true) → lv_has ls 5 [(0, .ref (ad 0)), (1, .int (iI dx)), (2, .int (iI dy)), (3, .int (iI z))] → W p l e R s m args below meth c H locs 0 0 Q (F0 m 2 ls []) := by
    intro fu_2
    induction fu_2 with
    | zero => intro _ _ hm; exact absurd hm (Nat.not_lt_zero _)
    | succ fu_2 ih_2 =>
      intro z ls hm i1 i2 hl
      refine lv_iload_n hx hb dC_move_2 rfl (lv_at hl 3 rfl) ?_
      refine lv_aload_n hx hb dC_move_3 rfl (lv_at hl 0 rfl) ?_
      refine va_get (D := (dC, dI)) (ci := 2) (v := .int (iI np)) (C := RC) (T := TC) (N := 10) hx hb hts (fun w9 h9 => List.mem_cons_of_mem _ (inC w9 h9)) hown hK hP 0 rfl rfl 7 (by decide) (hts _ (List.mem_cons_of_mem _ flC_40)) (fun _ h9 => h9) rfl dC_move_4 ?_
      refine xi_icmp_ge (tgt := 58) hx hb dC_move_7 (by decide) (by omega) (by omega) (fun c_7 => ?_) (fun c_7 => ?_)
      · skip
        refine xi_iconst hx hb dC_move_58 ?_
        refine lv_istore_n (lv' := [(3, .int (iI 0)), (0, .ref (ad 0)), (1, .int (iI dx)), (2, .int (iI dy))]) hx hb dC_move_59 rfl hl (by decide) rfl (fun ls hl => ?_)
        have cut_60_2 : ∀ (fu_60 : Nat) (k : Int) (H : Heap) (locs : List Loc) (ls : Array Slot), ((np - k).toNat) < fu_60 → (0 ≤ k ∧ k ≤ np) → va_P (dC, dI) vwCl ((cW ad cs nc np op par (mvF X dx k) (mvF Y dy k) O PQ Wd pw pf pu ps) ++ va_pl LP (pG G)) H → va_D A ((cW ad cs nc np op par (mvF X dx k) (mvF Y dy k) O PQ Wd pw pf pu ps) ++ va_pl LP (pG G)) → va_S A s.heap H locs → lv_has ls 5 [(0, .ref (ad 0)), (1, .int (iI dx)), (2, .int (iI dy)), (3, .int (iI k))] → W p l e R s m args below meth c H locs 0 0 Q (F0 m 60 ls []) := by
          intro fu_60
          induction fu_60 with
          | zero => intro _ _ _ _ hm; exact absurd hm (Nat.not_lt_zero _)
          | succ fu_60 ih_60 =>
            intro k H locs ls hm i3 hP hD hS hl
            refine lv_iload_n hx hb dC_move_60 rfl (lv_at hl 3 rfl) ?_
            refine lv_aload_n hx hb dC_move_61 rfl (lv_at hl 0 rfl) ?_
            refine va_get (D := (dC, dI)) (ci := 2) (v := .int (iI np)) (C := RC) (T := TC) (N := 10) hx hb hts (fun w9 h9 => List.mem_cons_of_mem _ (inC w9 h9)) hown hK hP 0 rfl rfl 7 (by decide) (hts _ (List.mem_cons_of_mem _ flC_40)) (fun _ h9 => h9) rfl dC_move_62 ?_
            refine xi_icmp_ge (tgt := 94) hx hb dC_move_65 (by decide) (by omega) (by omega) (fun c_65 => ?_) (fun c_65 => ?_)
            · skip
              refine xi_iconst hx hb dC_move_94 ?_
              refine lv_istore_n (lv' := [(3, .int (iI 0)), (0, .ref (ad 0)), (1, .int (iI dx)), (2, .int (iI dy))]) hx hb dC_move_95 rfl hl (by decide) rfl (fun ls hl => ?_)
              have cut_96_3 : ∀ (fu_96 : Nat) (v : Int) (G1 : Nat → PD) (H : Heap) (locs : List Loc) (ls : Array Slot), ((op - v).toNat) < fu_96 → (0 ≤ v ∧ v ≤ op) → (mvP G PQ G1 dx dy v) → va_P (dC, dI) vwCl ((cW ad cs nc np op par (mvF X dx np) (mvF Y dy np) O PQ Wd pw pf pu ps) ++ va_pl LP (pG G1)) H → va_D A ((cW ad cs nc np op par (mvF X dx np) (mvF Y dy np) O PQ Wd pw pf pu ps) ++ va_pl LP (pG G1)) → va_S A s.heap H locs → lv_has ls 5 [(0, .ref (ad 0)), (1, .int (iI dx)), (2, .int (iI dy)), (3, .int (iI v))] → W p l e R s m args below meth c H locs 0 0 Q (F0 m 96 ls []) := by
                intro fu_96
                induction fu_96 with
                | zero => intro _ _ _ _ _ hm; exact absurd hm (Nat.not_lt_zero _)
                | succ fu_96 ih_96 =>
                  intro v G1 H locs ls hm i4 i5 hP hD hS hl
                  refine lv_iload_n hx hb dC_move_96 rfl (lv_at hl 3 rfl) ?_
                  refine lv_aload_n hx hb dC_move_97 rfl (lv_at hl 0 rfl) ?_
                  refine va_get (D := (dC, dI)) (ci := 2) (v := .int (iI op)) (C := RC) (T := TC) (N := 10) hx hb hts (fun w9 h9 => List.mem_cons_of_mem _ (inC w9 h9)) hown hK hP 0 rfl rfl 8 (by decide) (hts _ (List.mem_cons_of_mem _ flC_43)) (fun _ h9 => h9) rfl dC_move_98 ?_
                  refine xi_icmp_ge (tgt := 130) hx hb dC_move_101 (by decide) (by omega) (by omega) (fun c_101 => ?_) (fun c_101 => ?_)
                  · skip
                    subst hQ
                    refine vx_ret ?_
                    refine W.widen (k := 1) (n := 6) (by omega) (by omega) ?_
                    exact W.vret hx hb hr (fun t9 ht9 hW9 => ⟨⟨G1, rfl, (⟨by rw [show np = z by omega]; exact i2, by rw [show op = v by omega]; exact i5⟩), by rw [ht9]; exact hP, va_K.moved hW9.alike hK, hD⟩, hS.F ht9⟩) hS.2.2 dC_move_130
                  · skip
                    refine lv_aload_n hx hb dC_move_104 rfl (lv_at hl 0 rfl) ?_
                    refine va_get (D := (dC, dI)) (ci := 2) (v := .ref (ad 4)) (C := RC) (T := TC) (N := 10) hx hb hts (fun w9 h9 => List.mem_cons_of_mem _ (inC w9 h9)) hown hK hP 0 rfl rfl 3 (by decide) (hts _ (List.mem_cons_of_mem _ flC_22)) (fun _ h9 => h9) rfl dC_move_105 ?_
                    refine lv_iload_n hx hb dC_move_108 rfl (lv_at hl 3 rfl) ?_
                    refine xa_aldq hx hb hK hP 4 3 rfl rfl (by decide) (by omega) dC_move_109 ?_
                    rcases ha : PQ v with _ | a
                    · rw [show va_rf none = Value.null from rfl]
                      refine lv_astoreN (lv' := [(4, .null), (0, .ref (ad 0)), (1, .int (iI dx)), (2, .int (iI dy)), (3, .int (iI v))]) hx hb dC_move_110 hl (by decide) rfl (fun ls hl => ?_)
                      refine lv_aloadN hx hb dC_move_112 (lv_at hl 0 rfl) ?_
                      refine lv_ifnullN (tgt := 124) hx hb dC_move_114 (by decide) ?_
                      refine xi_iinc (z := v + 1) (lv' := [(3, .int (iI (v + 1))), (4, .null), (0, .ref (ad 0)), (1, .int (iI dx)), (2, .int (iI dy))]) hx hb dC_move_124 hl (k := 4) rfl rfl (by decide) rfl (fun ls hl => ?_)
                      refine lv_goto (tgt := 96) hx hb dC_move_127 (by decide) ?_
                      exact ih_96 (v + 1) G1 _ _ _ (by omega) (by omega) (mvP_n i5 ha) hP hD hS (lv_sub hl [2, 3, 4, 0] rfl)
                    · rw [show va_rf (some a) = Value.ref a from rfl]
                      obtain ⟨haL, hGa⟩ := hG v i4.1 (by omega) a ha
                      refine lv_astore (lv' := [(4, .ref a), (0, .ref (ad 0)), (1, .int (iI dx)), (2, .int (iI dy)), (3, .int (iI v))]) hx hb dC_move_110 hl (by decide) rfl (fun ls hl => ?_)
                      refine lv_aload hx hb dC_move_112 (lv_at hl 0 rfl) ?_
                      refine lv_ifnull hx hb dC_move_114 ?_
                      refine lv_aload hx hb dC_move_117 (lv_at hl 0 rfl) ?_
                      refine lv_iload_n hx hb dC_move_119 rfl (lv_at hl 2 rfl) ?_
                      refine lv_iload_n hx hb dC_move_120 rfl (lv_at hl 3 rfl) ?_
                      obtain ⟨kq, hkq⟩ := va_pl_get (X := (cW ad cs nc np op par (mvF X dx np) (mvF Y dy np) O PQ Wd pw pf pu ps)) (f := pG G1) haL
                      have hPc : va_P (dC, dI) vwCl [(a, .inr (0, [.int (iI (bz ((G1 a).ln))), .int (iI (sqv (G1 a).ln (G1 a).px (G1 a).qx (G1 a).rx)), .int (iI (onv (G1 a).ln (G1 a).px (G1 a).qx (G1 a).rx)), .int (iI (sqv (G1 a).ln (G1 a).py (G1 a).qy (G1 a).ry)), .int (iI (onv (G1 a).ln (G1 a).py (G1 a).qy (G1 a).ry)), .int (iI ((G1 a).px)), .int (iI ((G1 a).py)), .int (iI ((G1 a).qx)), .int (iI ((G1 a).qy)), .int (iI ((G1 a).rx)), .int (iI ((G1 a).ry))]))] H := xp_one hP hkq
                      have hKc := hK.sub (tys' := []) [] rfl
                      have hDc : va_D A [(a, .inr (0, [.int (iI (bz ((G1 a).ln))), .int (iI (sqv (G1 a).ln (G1 a).px (G1 a).qx (G1 a).rx)), .int (iI (onv (G1 a).ln (G1 a).px (G1 a).qx (G1 a).rx)), .int (iI (sqv (G1 a).ln (G1 a).py (G1 a).qy (G1 a).ry)), .int (iI (onv (G1 a).ln (G1 a).py (G1 a).qy (G1 a).ry)), .int (iI ((G1 a).px)), .int (iI ((G1 a).py)), .int (iI ((G1 a).qx)), .int (iI ((G1 a).qy)), .int (iI ((G1 a).rx)), .int (iI ((G1 a).ry))]))] := xp_oneD hD hkq
                      have hFc : ∀ q, va_A [(a, .inr (0, [.int (iI (bz ((G1 a).ln))), .int (iI (sqv (G1 a).ln (G1 a).px (G1 a).qx (G1 a).rx)), .int (iI (onv (G1 a).ln (G1 a).px (G1 a).qx (G1 a).rx)), .int (iI (sqv (G1 a).ln (G1 a).py (G1 a).qy (G1 a).ry)), .int (iI (onv (G1 a).ln (G1 a).py (G1 a).qy (G1 a).ry)), .int (iI ((G1 a).px)), .int (iI ((G1 a).py)), .int (iI ((G1 a).qx)), .int (iI ((G1 a).qy)), .int (iI ((G1 a).rx)), .int (iI ((G1 a).ry))]))] H.size q → A q := xp_free1 hD hS hA hkq
                      refine va_callv (va_runV (As := [.int (iI dx), .int (iI dy)]) (rest := []) ⟨hx, hb, hml, hown, hts⟩ (p_shift l dC dI H.size a ((G1 a).ln) (sqv (G1 a).ln (G1 a).px (G1 a).qx (G1 a).rx) (onv (G1 a).ln (G1 a).px (G1 a).qx (G1 a).rx) (sqv (G1 a).ln (G1 a).py (G1 a).qy (G1 a).ry) (onv (G1 a).ln (G1 a).py (G1 a).qy (G1 a).ry) ((G1 a).px) ((G1 a).py) ((G1 a).qx) ((G1 a).qy) ((G1 a).rx) ((G1 a).ry) dx dy) (cwV 2 hts (tb_V mlC_76 imP_shift seP_shift iniP coP_shift) rfl rfl rfl (by decide +kernel) (by subst hR; exact ⟨Nat.le_of_ble_eq_true rfl, Nat.le_of_ble_eq_true rfl⟩)) ⟨fun a9 U9 g9 mk9 q9 => by obtain ⟨q0, q1, qP, qK, qD⟩ := q9; exact ⟨q0, q1, qP, va_K.moved (u := U9) (U := U9.calling g9 mk9 a9) (Vm.Alike.refl U9.vm) qK, qD⟩, va_recv hKc hPc (ci := 0) (q0 := 0) rfl rfl, fun U hU hW => ⟨rfl, by rw [hU], by rw [hU]; exact hPc, va_K.moved hW.alike hKc, hDc.weaken (fun _ _ _ _ => trivial)⟩⟩ rfl rfl hl.1 rfl (lv_room (Nat.le_of_ble_eq_true rfl)) dC_move_121 ⟨by subst hR; exact Nat.le_of_ble_eq_true rfl, by subst hR; exact Nat.le_of_ble_eq_true rfl⟩) hS (fun q9 _ h9 => hFc q9 h9) hFc (fun u_121 t9 H1 locs1 ht9 hvm9 hw_121 hB9 hz9 hk9 hS1 => ?_)
                      obtain ⟨hP1, hK1, hD1⟩ := hB9
                      rw [ht9] at hP1
                      have hP2 := xp_set hP hD hkq hP1 hk9
                      have hD2 := va_D.set (e := pE (shd (G1 a) dx dy)) hD hkq
                      rw [pl_set hD haL hkq] at hD2
                      rw [pE_sh, pl_set hD haL hkq] at hP2
                      have hP : va_P (dC, dI) vwCl ((cW ad cs nc np op par (mvF X dx np) (mvF Y dy np) O PQ Wd pw pf pu ps) ++ va_pl LP (pG (upn G1 a (shd (G1 a) dx dy)))) H1 := hP2
                      have hD : va_D A ((cW ad cs nc np op par (mvF X dx np) (mvF Y dy np) O PQ Wd pw pf pu ps) ++ va_pl LP (pG (upn G1 a (shd (G1 a) dx dy)))) := hD2
                      clear hP1 hD1 hK1 hFc hP2 hD2 hPc hDc hKc hkq
                      have hS := hS1
                      clear hS1 hz9 hk9 ht9 hvm9
                      revert hP hD hS; generalize H1 = H; generalize locs1 = locs; intro hP hD hS
                      refine xi_iinc (z := v + 1) (lv' := [(3, .int (iI (v + 1))), (4, .ref a), (0, .ref (ad 0)), (1, .int (iI dx)), (2, .int (iI dy))]) hx hb dC_move_124 hl (k := 4) rfl rfl (by decide) rfl (fun ls hl => ?_)
                      refine lv_goto (tgt := 96) hx hb dC_move_127 (by decide) ?_
                      exact ih_96 (v + 1) (upn G1 a (shd (G1 a) dx dy)) _ _ _ (by omega) (by omega) (mvP_s i5 hj ⟨i4.1, by omega⟩ ha) hP hD hS (lv_sub hl [2, 3, 4, 0] rfl)
              have e9 : k = np := by omega
              rw [e9] at hP hD
              have hP : va_P (dC, dI) vwCl ((cW ad cs nc np op par (mvF X dx np) (mvF Y dy np) O PQ Wd pw pf pu ps) ++ va_pl LP (pG G)) H := hP
              have hD : va_D A ((cW ad cs nc np op par (mvF X dx np) (mvF Y dy np) O PQ Wd pw pf pu ps) ++ va_pl LP (pG G)) := hD
              exact cut_96_3 (((op - (0 : Int)).toNat) + 1) 0 G _ _ _ (Nat.lt_succ_self _) (by omega) (mvP_0) hP hD hS (lv_sub hl [1, 2, 3, 0] rfl)
            · skip
              refine lv_aload_n hx hb dC_move_68 rfl (lv_at hl 0 rfl) ?_
              refine va_get (D := (dC, dI)) (ci := 2) (v := .ref (ad 1)) (C := RC) (T := TC) (N := 10) hx hb hts (fun w9 h9 => List.mem_cons_of_mem _ (inC w9 h9)) hown hK hP 0 rfl rfl 0 (by decide) (hts _ (List.mem_cons_of_mem _ flC_9)) (fun _ h9 => h9) rfl dC_move_69 ?_
              refine lv_iload_n hx hb dC_move_72 rfl (lv_at hl 3 rfl) ?_
              refine lv_dup2_11 hx hb dC_move_73 rfl rfl ?_
              refine xa_iald hx hb hK hP 1 0 rfl rfl (by decide) (by omega) dC_move_74 ?_
              refine lv_iload_n hx hb dC_move_75 rfl (lv_at hl 1 rfl) ?_
              refine xi_add (z := ((mvF X dx k) k) + dx) hx hb dC_move_76 rfl ?_
              refine xa_iast (z := k) (v := ((mvF X dx k) k) + dx) hx hb hK hP hD hS 1 0 rfl rfl (by decide) (by omega) dC_move_77 (fun H locs hP hD hS => ?_)
              rw [show up (mvF X dx k) k (((mvF X dx k) k) + dx) = mvF X dx (k + 1) from (by first | exact mvF_s X dx i3.1 | rfl)] at hP hD
              have hP : va_P (dC, dI) vwCl ((cW ad cs nc np op par (mvF X dx (k + 1)) (mvF Y dy k) O PQ Wd pw pf pu ps) ++ va_pl LP (pG G)) H := hP
              have hD : va_D A ((cW ad cs nc np op par (mvF X dx (k + 1)) (mvF Y dy k) O PQ Wd pw pf pu ps) ++ va_pl LP (pG G)) := hD
              refine lv_aload_n hx hb dC_move_78 rfl (lv_at hl 0 rfl) ?_
              refine va_get (D := (dC, dI)) (ci := 2) (v := .ref (ad 2)) (C := RC) (T := TC) (N := 10) hx hb hts (fun w9 h9 => List.mem_cons_of_mem _ (inC w9 h9)) hown hK hP 0 rfl rfl 1 (by decide) (hts _ (List.mem_cons_of_mem _ flC_13)) (fun _ h9 => h9) rfl dC_move_79 ?_
              refine lv_iload_n hx hb dC_move_82 rfl (lv_at hl 3 rfl) ?_
              refine lv_dup2_11 hx hb dC_move_83 rfl rfl ?_
              refine xa_iald hx hb hK hP 2 1 rfl rfl (by decide) (by omega) dC_move_84 ?_
              refine lv_iload_n hx hb dC_move_85 rfl (lv_at hl 2 rfl) ?_
              refine xi_add (z := ((mvF Y dy k) k) + dy) hx hb dC_move_86 rfl ?_
              refine xa_iast (z := k) (v := ((mvF Y dy k) k) + dy) hx hb hK hP hD hS 2 1 rfl rfl (by decide) (by omega) dC_move_87 (fun H locs hP hD hS => ?_)
              rw [show up (mvF Y dy k) k (((mvF Y dy k) k) + dy) = mvF Y dy (k + 1) from (by first | exact mvF_s Y dy i3.1 | rfl)] at hP hD
              have hP : va_P (dC, dI) vwCl ((cW ad cs nc np op par (mvF X dx (k + 1)) (mvF Y dy (k + 1)) O PQ Wd pw pf pu ps) ++ va_pl LP (pG G)) H := hP
              have hD : va_D A ((cW ad cs nc np op par (mvF X dx (k + 1)) (mvF Y dy (k + 1)) O PQ Wd pw pf pu ps) ++ va_pl LP (pG G)) := hD
              refine xi_iinc (z := k + 1) (lv' := [(3, .int (iI (k + 1))), (0, .ref (ad 0)), (1, .int (iI dx)), (2, .int (iI dy))]) hx hb dC_move_88 hl (k := 3) rfl rfl (by decide) rfl (fun ls hl => ?_)
              refine lv_goto (tgt := 60) hx hb dC_move_91 (by decide) ?_
              exact ih_60 (k + 1) _ _ _ (by omega) (by omega) hP hD hS (lv_sub hl [1, 2, 3, 0] rfl)
        have hP : va_P (dC, dI) vwCl ((cW ad cs nc np op par (mvF X dx 0) (mvF Y dy 0) O PQ Wd pw pf pu ps) ++ va_pl LP (pG G)) H := by (rw [mvF_0, mvF_0]; exact hP)
        have hD : va_D A ((cW ad cs nc np op par (mvF X dx 0) (mvF Y dy 0) O PQ Wd pw pf pu ps) ++ va_pl LP (pG G)) := by (rw [mvF_0, mvF_0]; exact hD)
        exact cut_60_2 (((np - (0 : Int)).toNat) + 1) 0 _ _ _ (Nat.lt_succ_self _) (by omega) hP hD hS (lv_sub hl [1, 2, 3, 0] rfl)
      · skip
        have hz3 := h3 z i1.1 (by omega)
        refine lv_aload_n hx hb dC_move_10 rfl (lv_at hl 0 rfl) ?_
        refine va_get (D := (dC, dI)) (ci := 2) (v := .ref (ad 1)) (C := RC) (T := TC) (N := 10) hx hb hts (fun w9 h9 => List.mem_cons_of_mem _ (inC w9 h9)) hown hK hP 0 rfl rfl 0 (by decide) (hts _ (List.mem_cons_of_mem _ flC_9)) (fun _ h9 => h9) rfl dC_move_11 ?_
        refine lv_iload_n hx hb dC_move_14 rfl (lv_at hl 3 rfl) ?_
        refine xa_iald hx hb hK hP 1 0 rfl rfl (by decide) (by omega) dC_move_15 ?_
        refine xl_i2l hx hb dC_move_16 (by omega) ?_
        refine lv_iload_n hx hb dC_move_17 rfl (lv_at hl 1 rfl) ?_
        refine xl_i2l hx hb dC_move_18 (by omega) ?_
        refine xl_add (z := (X z) + dx) hx hb dC_move_19 rfl ?_
        refine vp_callSi (W.runS (As := [.long (lI ((X z) + dx))]) (rest := []) ⟨hx, hb, hml, hown, hts⟩ (k_canBeTold l dC dI (X z + dx) (by omega)) (va_cwS 1 hts (tb_S mlC_50 smC_canBeTold iniC coC_canBeTold) rfl rfl rfl (by decide +kernel) (by subst hR; exact ⟨Nat.le_of_ble_eq_true rfl, Nat.le_of_ble_eq_true rfl⟩)) ⟨fun a9 U9 g9 mk9 q9 => q9, fun U hU hW => ⟨rfl, trivial⟩⟩ rfl rfl hl.1 rfl (lv_room (Nat.le_of_ble_eq_true rfl)) dC_move_20 ⟨by subst hR; exact Nat.zero_le _, by subst hR; exact Nat.zero_le _⟩) (fun r_20 hw_20 => ?_)
        subst hw_20
        refine xb_if_eq (tgt := 42) hx hb dC_move_23 (by decide) (fun c_23 => ?_) (fun c_23 => ?_)
        · skip
          subst hQ
          exact vx_throwS (A := A) (own := RC) (cls := IAE) (names := NMS) (ik := 54) (is := 74) (ic := 58) (sa := sa 74) hx hb hlt hown fit_IAE fit_NMS (hts _ (List.mem_cons_of_mem _ clC_54)) (hts _ (List.mem_cons_of_mem _ ini_IAE)) (hXF.str 74 (by decide +kernel)) (xat hts hXF at_IAE ok_IAE) ot_IAE hXF.u hXF.n hS (hl.1.trans hml.symm) dC_move_42 dC_move_45 dC_move_46 dC_move_48 dC_move_51 (fun x9 h9 => (htb x9 h9).elim) (by subst hR; exact Nat.le_of_ble_eq_true rfl) (by subst hR; exact Nat.le_of_ble_eq_true rfl) (by subst hR; exact Nat.le_of_ble_eq_true rfl) (by subst hR; exact Nat.le_of_ble_eq_true rfl) hlocks (xt_X (⟨rfl, mvok_f np.toNat (by omega) (fun h => of_decide_eq_false c_23 h.1)⟩) hP hK hS) hS.2.2 (Nat.le_of_ble_eq_true rfl) (Nat.le_of_ble_eq_true rfl)
        · skip
          refine lv_aload_n hx hb dC_move_26 rfl (lv_at hl 0 rfl) ?_
          refine va_get (D := (dC, dI)) (ci := 2) (v := .ref (ad 2)) (C := RC) (T := TC) (N := 10) hx hb hts (fun w9 h9 => List.mem_cons_of_mem _ (inC w9 h9)) hown hK hP 0 rfl rfl 1 (by decide) (hts _ (List.mem_cons_of_mem _ flC_13)) (fun _ h9 => h9) rfl dC_move_27 ?_
          refine lv_iload_n hx hb dC_move_30 rfl (lv_at hl 3 rfl) ?_
          refine xa_iald hx hb hK hP 2 1 rfl rfl (by decide) (by omega) dC_move_31 ?_
          refine xl_i2l hx hb dC_move_32 (by omega) ?_
          refine lv_iload_n hx hb dC_move_33 rfl (lv_at hl 2 rfl) ?_
          refine xl_i2l hx hb dC_move_34 (by omega) ?_
          refine xl_add (z := (Y z) + dy) hx hb dC_move_35 rfl ?_
          refine vp_callSi (W.runS (As := [.long (lI ((Y z) + dy))]) (rest := []) ⟨hx, hb, hml, hown, hts⟩ (k_canBeTold l dC dI (Y z + dy) (by omega)) (va_cwS 1 hts (tb_S mlC_50 smC_canBeTold iniC coC_canBeTold) rfl rfl rfl (by decide +kernel) (by subst hR; exact ⟨Nat.le_of_ble_eq_true rfl, Nat.le_of_ble_eq_true rfl⟩)) ⟨fun a9 U9 g9 mk9 q9 => q9, fun U hU hW => ⟨rfl, trivial⟩⟩ rfl rfl hl.1 rfl (lv_room (Nat.le_of_ble_eq_true rfl)) dC_move_36 ⟨by subst hR; exact Nat.zero_le _, by subst hR; exact Nat.zero_le _⟩) (fun r_36 hw_36 => ?_)
          subst hw_36
          refine xb_if_ne (tgt := 52) hx hb dC_move_39 (by decide) (fun c_39 => ?_) (fun c_39 => ?_)
          · skip
            refine xi_iinc (z := z + 1) (lv' := [(3, .int (iI (z + 1))), (0, .ref (ad 0)), (1, .int (iI dx)), (2, .int (iI dy))]) hx hb dC_move_52 hl (k := 3) rfl rfl (by decide) rfl (fun ls hl => ?_)
            refine lv_goto (tgt := 2) hx hb dC_move_55 (by decide) ?_
            exact ih_2 (z + 1) _ (by omega) (by omega) (by rw [mvok_s _ _ _ _ i1.1, i2, decide_eq_true ⟨of_decide_eq_true c_23, of_decide_eq_true c_39⟩]; rfl) (lv_sub hl [1, 2, 3, 0] rfl)
          · skip
            subst hQ
            exact vx_throwS (A := A) (own := RC) (cls := IAE) (names := NMS) (ik := 54) (is := 74) (ic := 58) (sa := sa 74) hx hb hlt hown fit_IAE fit_NMS (hts _ (List.mem_cons_of_mem _ clC_54)) (hts _ (List.mem_cons_of_mem _ ini_IAE)) (hXF.str 74 (by decide +kernel)) (xat hts hXF at_IAE ok_IAE) ot_IAE hXF.u hXF.n hS (hl.1.trans hml.symm) dC_move_42 dC_move_45 dC_move_46 dC_move_48 dC_move_51 (fun x9 h9 => (htb x9 h9).elim) (by subst hR; exact Nat.le_of_ble_eq_true rfl) (by subst hR; exact Nat.le_of_ble_eq_true rfl) (by subst hR; exact Nat.le_of_ble_eq_true rfl) (by subst hR; exact Nat.le_of_ble_eq_true rfl) hlocks (xt_X (⟨rfl, mvok_f np.toNat (by omega) (fun h => of_decide_eq_false c_39 h.2)⟩) hP hK hS) hS.2.2 (Nat.le_of_ble_eq_true rfl) (Nat.le_of_ble_eq_true rfl)
  exact cut_2_1 (((np - (0 : Int)).toNat) + 1) 0 _ (Nat.lt_succ_self _) (by omega) (rfl) (lv_sub hl [1, 2, 3, 0] rfl)
set_option maxHeartbeats 4000000 in
set_option maxRecDepth 100000 in
/-- a new Place -/
theorem l_init (l : Launch) (dC : Nat → ClassId) (dI : Nat → Nat → Nat) (sz : Nat) (h0 : Nat) : Met l yL_init wL_init ({ frames := 1, cells := 0, slots := 0, locals := 12 }) (va_Pc [.ref h0] (fun U => U.heap.size = sz ∧ va_P (dC, dI) vwCl [(h0, .inr (1, [.long (lI 0), .long (lI 0), .long (lI 0), .long (lI 0)]))] U.heap ∧ va_K (dC, dI) vwCl [] U ∧ va_D (fun _ => True) [(h0, .inr (1, [.long (lI 0), .long (lI 0), .long (lI 0), .long (lI 0)]))])) (va_Qv (fun (u : Unit) => True) (fun (u : Unit) t9 => va_P (dC, dI) vwCl [(h0, .inr (1, [.long (lI 0), .long (lI 0), .long (lI 0), .long (lI 0)]))] t9.heap ∧ va_K (dC, dI) vwCl [] t9 ∧ va_D (va_A [(h0, .inr (1, [.long (lI 0), .long (lI 0), .long (lI 0), .long (lI 0)]))] sz) [(h0, .inr (1, [.long (lI 0), .long (lI 0), .long (lI 0), .long (lI 0)]))]) (va_A [(h0, .inr (1, [.long (lI 0), .long (lI 0), .long (lI 0), .long (lI 0)]))] sz)) 0 0 (va_A [(h0, .inr (1, [.long (lI 0), .long (lI 0), .long (lI 0), .long (lI 0)]))] sz) := by
  refine Met.ofW (cc := cL_init) (maxL := 1) (ret := none) (by decide) rfl ?_
  intro p e s m args below meth c s₁ B hml hv
  obtain ⟨hargs, hsz, hP, hK, hD0⟩ := hv
  have hx := B.exec
  have hb := B.bytes
  have hr := B.returns
  have hts := atoms_spec (ws := wL_init) B.pre
  have hown : s.vm.findClass RL = some m.cls := findClass_of_methodNamed B.named
  have hlocks := B.notSynchronized
  have hin : meth.name = "<init>" := (name_of_methodNamed B.named B.method).1
  subst hsz
  have hD := hD0.self (sz := s.heap.size)
  generalize hAe : va_A [(h0, .inr (1, [.long (lI 0), .long (lI 0), .long (lI 0), .long (lI 0)]))] s.heap.size = A at hD ⊢
  have hA : ∀ q : Nat, s.heap.size ≤ q → A q := fun q h => by rw [← hAe]; exact Or.inr h
  have hS0 : va_S A s.heap s.heap [] := va_S.rf
  refine x_name (fun R Q H locs hR hQ hH hlo => ?_)
  rw [← hH] at hP
  have hS : va_S A s.heap H locs := by rw [hH, hlo]; exact hS0
  refine x_entry hargs (Nat.le_of_ble_eq_true rfl) (fun ls hl => ?_)
  have hl : lv_has ls 1 [(0, .ref h0)] := hl
  have hP : va_P (dC, dI) vwCl [(h0, .inr (1, [.long (lI 0), .long (lI 0), .long (lI 0), .long (lI 0)]))] H := hP
  refine lv_aload_n hx hb dL_init_0 rfl (lv_at hl 0 rfl) ?_
  refine W.objInit hx hb hown (hts _ (List.mem_cons_of_mem _ mlL_3)) (hts _ (List.mem_cons_of_mem _ imO)) (hts _ (List.mem_cons_of_mem _ coO)) rfl (by rw [hml]; exact hl.1) rfl dL_init_1 (by subst hR; exact Nat.le_of_ble_eq_true rfl) (by subst hR; exact Nat.le_of_ble_eq_true rfl) ?_
  refine W.eq (g2 := F0 m 4 ls []) rfl ?_
  subst hQ
  exact W.vret hx hb hr (fun t9 ht9 hW9 => ⟨⟨(), rfl, (trivial), by rw [ht9]; exact hP, va_K.moved hW9.alike hK, hD⟩, hS.F ht9⟩) hS.2.2 dL_init_4
set_option maxHeartbeats 4000000 in
set_option maxRecDepth 100000 in
/-- a new raster -/
theorem k_init (l : Launch) (dC : Nat → ClassId) (dI : Nat → Nat → Nat) (sz : Nat) (h0 : Nat) : Met l yC_init wC_init ({ frames := 2, cells := 6, slots := 2117, locals := 40 }) (va_Pc [.ref h0] (fun U => U.heap.size = sz ∧ va_P (dC, dI) vwCl [(h0, .inr (2, [.null, .null, .null, .null, .null, .null, .int (iI 0), .int (iI 0), .int (iI 0), .int (iI (bz false))]))] U.heap ∧ va_K (dC, dI) vwCl [] U ∧ va_D (fun _ => True) [(h0, .inr (2, [.null, .null, .null, .null, .null, .null, .int (iI 0), .int (iI 0), .int (iI 0), .int (iI (bz false))]))] ∧ va_Nw (.methodLinkNest RC 31 yL_init RC) U ∧ va_AO RP U)) (va_Qv (fun (u : (Nat → Nat) × (Nat → ClassId)) => u.1 0 = h0) (fun (u : (Nat → Nat) × (Nat → ClassId)) t9 => va_P (dC, dI) vwCl (cW u.1 u.2 0 0 0 false (fun _ => 0) (fun _ => 0) (fun _ => false) (fun _ => none) (fun _ => 0) 0 0 0 0) t9.heap ∧ va_K (dC, dI) vwCl (cT u.2) t9 ∧ va_D (va_A [(h0, .inr (2, [.null, .null, .null, .null, .null, .null, .int (iI 0), .int (iI 0), .int (iI 0), .int (iI (bz false))]))] sz) (cW u.1 u.2 0 0 0 false (fun _ => 0) (fun _ => 0) (fun _ => false) (fun _ => none) (fun _ => 0) 0 0 0 0)) (va_A [(h0, .inr (2, [.null, .null, .null, .null, .null, .null, .int (iI 0), .int (iI 0), .int (iI 0), .int (iI (bz false))]))] sz)) 6 2117 (va_A [(h0, .inr (2, [.null, .null, .null, .null, .null, .null, .int (iI 0), .int (iI 0), .int (iI 0), .int (iI (bz false))]))] sz) := by
  refine Met.ofW (cc := cC_init) (maxL := 1) (ret := none) (by decide) rfl ?_
  intro p e s m args below meth c s₁ B hml hv
  obtain ⟨hargs, hsz, hP, hK, hD0, hZ, hAO⟩ := hv
  have hx := B.exec
  have hb := B.bytes
  have hr := B.returns
  have hts := atoms_spec (ws := wC_init) B.pre
  have hown : s.vm.findClass RC = some m.cls := findClass_of_methodNamed B.named
  have hlocks := B.notSynchronized
  have hin : meth.name = "<init>" := (name_of_methodNamed B.named B.method).1
  subst hsz
  have hD := hD0.self (sz := s.heap.size)
  generalize hAe : va_A [(h0, .inr (2, [.null, .null, .null, .null, .null, .null, .int (iI 0), .int (iI 0), .int (iI 0), .int (iI (bz false))]))] s.heap.size = A at hD ⊢
  have hA : ∀ q : Nat, s.heap.size ≤ q → A q := fun q h => by rw [← hAe]; exact Or.inr h
  have hS0 : va_S A s.heap s.heap [] := va_S.rf
  refine x_name (fun R Q H locs hR hQ hH hlo => ?_)
  rw [← hH] at hP
  have hS : va_S A s.heap H locs := by rw [hH, hlo]; exact hS0
  refine x_entry hargs (Nat.le_of_ble_eq_true rfl) (fun ls hl => ?_)
  have hl : lv_has ls 1 [(0, .ref h0)] := hl
  have hP : va_P (dC, dI) vwCl [(h0, .inr (2, [.null, .null, .null, .null, .null, .null, .int (iI 0), .int (iI 0), .int (iI 0), .int (iI (bz false))]))] H := hP
  refine lv_aload_n hx hb dC_init_0 rfl (lv_at hl 0 rfl) ?_
  refine W.objInit hx hb hown (hts _ (List.mem_cons_of_mem _ mlC_1)) (hts _ (List.mem_cons_of_mem _ imO)) (hts _ (List.mem_cons_of_mem _ coO)) rfl (by rw [hml]; exact hl.1) rfl dC_init_1 (by subst hR; exact Nat.le_of_ble_eq_true rfl) (by subst hR; exact Nat.le_of_ble_eq_true rfl) ?_
  refine W.eq (g2 := F0 m 4 ls []) rfl ?_
  refine lv_aload_n hx hb dC_init_4 rfl (lv_at hl 0 rfl) ?_
  refine lv_sipush (v := iI 512) hx hb dC_init_5 (by decide +kernel) ?_
  refine va_newa (atype := .int) (ty := .int) (a0 := (512, .inl (aI (fun _ => 0)))) (N' := 512) hx hb (hts _ (List.mem_cons_of_mem _ ac_int)) rfl hK hP hD hS hA (fun cA => rfl) (by decide +kernel) (by decide +kernel) (by decide) (by subst hR; exact Nat.le_of_ble_eq_true rfl) (by subst hR; exact Nat.le_of_ble_eq_true rfl) dC_init_8 (fun q_8 cA_8 H hK hP hD hS => ?_)
  have hP : va_P (dC, dI) vwCl [(h0, .inr (2, [.null, .null, .null, .null, .null, .null, .int (iI 0), .int (iI 0), .int (iI 0), .int (iI (bz false))])), (q_8, .inl (cA_8, 512, .inl (aI (fun _ => 0))))] H := hP
  have hD : va_D A [(h0, .inr (2, [.null, .null, .null, .null, .null, .null, .int (iI 0), .int (iI 0), .int (iI 0), .int (iI (bz false))])), (q_8, .inl (cA_8, 512, .inl (aI (fun _ => 0))))] := hD
  have hK : va_K (dC, dI) vwCl [(cA_8, .int)] s := hK
  refine va_putF (D := (dC, dI)) (ci := 2) (v := .ref q_8) (ty := .array .int) (C := RC) (T := TC) (N := 10) hx hb hts (fun w9 h9 => List.mem_cons_of_mem _ (inC w9 h9)) tyC tyC_ok nmC hown hK hP hD hS 0 rfl rfl 0 (by decide) (hts _ (List.mem_cons_of_mem _ flC_9)) (fun _ h9 => h9) rfl hin rfl (by decide +kernel) rfl rfl (Nat.le_of_ble_eq_true rfl) dC_init_10 (fun H locs hP hD hS => ?_)
  have hP : va_P (dC, dI) vwCl [(h0, .inr (2, [.ref q_8, .null, .null, .null, .null, .null, .int (iI 0), .int (iI 0), .int (iI 0), .int (iI (bz false))])), (q_8, .inl (cA_8, 512, .inl (aI (fun _ => 0))))] H := hP
  have hD : va_D A [(h0, .inr (2, [.ref q_8, .null, .null, .null, .null, .null, .int (iI 0), .int (iI 0), .int (iI 0), .int (iI (bz false))])), (q_8, .inl (cA_8, 512, .inl (aI (fun _ => 0))))] := hD
  refine lv_aload_n hx hb dC_init_13 rfl (lv_at hl 0 rfl) ?_
  refine lv_sipush (v := iI 512) hx hb dC_init_14 (by decide +kernel) ?_
  refine va_newa (atype := .int) (ty := .int) (a0 := (512, .inl (aI (fun _ => 0)))) (N' := 512) hx hb (hts _ (List.mem_cons_of_mem _ ac_int)) rfl hK hP hD hS hA (fun cA => rfl) (by decide +kernel) (by decide +kernel) (by decide) (by subst hR; exact Nat.le_of_ble_eq_true rfl) (by subst hR; exact Nat.le_of_ble_eq_true rfl) dC_init_17 (fun q_17 cA_17 H hK hP hD hS => ?_)
  have hP : va_P (dC, dI) vwCl [(h0, .inr (2, [.ref q_8, .null, .null, .null, .null, .null, .int (iI 0), .int (iI 0), .int (iI 0), .int (iI (bz false))])), (q_8, .inl (cA_8, 512, .inl (aI (fun _ => 0)))), (q_17, .inl (cA_17, 512, .inl (aI (fun _ => 0))))] H := hP
  have hD : va_D A [(h0, .inr (2, [.ref q_8, .null, .null, .null, .null, .null, .int (iI 0), .int (iI 0), .int (iI 0), .int (iI (bz false))])), (q_8, .inl (cA_8, 512, .inl (aI (fun _ => 0)))), (q_17, .inl (cA_17, 512, .inl (aI (fun _ => 0))))] := hD
  have hK : va_K (dC, dI) vwCl [(cA_8, .int), (cA_17, .int)] s := hK
  refine va_putF (D := (dC, dI)) (ci := 2) (v := .ref q_17) (ty := .array .int) (C := RC) (T := TC) (N := 10) hx hb hts (fun w9 h9 => List.mem_cons_of_mem _ (inC w9 h9)) tyC tyC_ok nmC hown hK hP hD hS 0 rfl rfl 1 (by decide) (hts _ (List.mem_cons_of_mem _ flC_13)) (fun _ h9 => h9) rfl hin rfl (by decide +kernel) rfl rfl (Nat.le_of_ble_eq_true rfl) dC_init_19 (fun H locs hP hD hS => ?_)
  have hP : va_P (dC, dI) vwCl [(h0, .inr (2, [.ref q_8, .ref q_17, .null, .null, .null, .null, .int (iI 0), .int (iI 0), .int (iI 0), .int (iI (bz false))])), (q_8, .inl (cA_8, 512, .inl (aI (fun _ => 0)))), (q_17, .inl (cA_17, 512, .inl (aI (fun _ => 0))))] H := hP
  have hD : va_D A [(h0, .inr (2, [.ref q_8, .ref q_17, .null, .null, .null, .null, .int (iI 0), .int (iI 0), .int (iI 0), .int (iI (bz false))])), (q_8, .inl (cA_8, 512, .inl (aI (fun _ => 0)))), (q_17, .inl (cA_17, 512, .inl (aI (fun _ => 0))))] := hD
  refine lv_aload_n hx hb dC_init_22 rfl (lv_at hl 0 rfl) ?_
  refine lv_sipush (v := iI 512) hx hb dC_init_23 (by decide +kernel) ?_
  refine va_newa (atype := .boolean) (ty := .boolean) (a0 := (512, .inl (aB (fun _ => false)))) (N' := 512) hx hb (hts _ (List.mem_cons_of_mem _ ac_boolean)) rfl hK hP hD hS hA (fun cA => rfl) (by decide +kernel) (by decide +kernel) (by decide) (by subst hR; exact Nat.le_of_ble_eq_true rfl) (by subst hR; exact Nat.le_of_ble_eq_true rfl) dC_init_26 (fun q_26 cA_26 H hK hP hD hS => ?_)
  have hP : va_P (dC, dI) vwCl [(h0, .inr (2, [.ref q_8, .ref q_17, .null, .null, .null, .null, .int (iI 0), .int (iI 0), .int (iI 0), .int (iI (bz false))])), (q_8, .inl (cA_8, 512, .inl (aI (fun _ => 0)))), (q_17, .inl (cA_17, 512, .inl (aI (fun _ => 0)))), (q_26, .inl (cA_26, 512, .inl (aB (fun _ => false))))] H := hP
  have hD : va_D A [(h0, .inr (2, [.ref q_8, .ref q_17, .null, .null, .null, .null, .int (iI 0), .int (iI 0), .int (iI 0), .int (iI (bz false))])), (q_8, .inl (cA_8, 512, .inl (aI (fun _ => 0)))), (q_17, .inl (cA_17, 512, .inl (aI (fun _ => 0)))), (q_26, .inl (cA_26, 512, .inl (aB (fun _ => false))))] := hD
  have hK : va_K (dC, dI) vwCl [(cA_8, .int), (cA_17, .int), (cA_26, .boolean)] s := hK
  refine va_putF (D := (dC, dI)) (ci := 2) (v := .ref q_26) (ty := .array .boolean) (C := RC) (T := TC) (N := 10) hx hb hts (fun w9 h9 => List.mem_cons_of_mem _ (inC w9 h9)) tyC tyC_ok nmC hown hK hP hD hS 0 rfl rfl 2 (by decide) (hts _ (List.mem_cons_of_mem _ flC_16)) (fun _ h9 => h9) rfl hin rfl (by decide +kernel) rfl rfl (Nat.le_of_ble_eq_true rfl) dC_init_28 (fun H locs hP hD hS => ?_)
  have hP : va_P (dC, dI) vwCl [(h0, .inr (2, [.ref q_8, .ref q_17, .ref q_26, .null, .null, .null, .int (iI 0), .int (iI 0), .int (iI 0), .int (iI (bz false))])), (q_8, .inl (cA_8, 512, .inl (aI (fun _ => 0)))), (q_17, .inl (cA_17, 512, .inl (aI (fun _ => 0)))), (q_26, .inl (cA_26, 512, .inl (aB (fun _ => false))))] H := hP
  have hD : va_D A [(h0, .inr (2, [.ref q_8, .ref q_17, .ref q_26, .null, .null, .null, .int (iI 0), .int (iI 0), .int (iI 0), .int (iI (bz false))])), (q_8, .inl (cA_8, 512, .inl (aI (fun _ => 0)))), (q_17, .inl (cA_17, 512, .inl (aI (fun _ => 0)))), (q_26, .inl (cA_26, 512, .inl (aB (fun _ => false))))] := hD
  refine lv_aload_n hx hb dC_init_31 rfl (lv_at hl 0 rfl) ?_
  refine lv_sipush (v := iI 512) hx hb dC_init_32 (by decide +kernel) ?_
  refine va_newq (own := RC) (C := RP) (n := iI 512) (N' := 512) hx hb hown (hts _ (List.mem_cons_of_mem _ clC_20)) hAO hK hP hD hS hA (by decide +kernel) (by decide +kernel) (by decide) (by subst hR; exact Nat.le_of_ble_eq_true rfl) (by subst hR; exact Nat.le_of_ble_eq_true rfl) dC_init_35 (fun q_35 cA_35 H hK hP hD hS => ?_)
  have hP : va_P (dC, dI) vwCl [(h0, .inr (2, [.ref q_8, .ref q_17, .ref q_26, .null, .null, .null, .int (iI 0), .int (iI 0), .int (iI 0), .int (iI (bz false))])), (q_8, .inl (cA_8, 512, .inl (aI (fun _ => 0)))), (q_17, .inl (cA_17, 512, .inl (aI (fun _ => 0)))), (q_26, .inl (cA_26, 512, .inl (aB (fun _ => false)))), (q_35, .inl (cA_35, 512, .inr (.inr (.inr (.inr (aQ (fun _ => none)))))))] H := hP
  have hD : va_D A [(h0, .inr (2, [.ref q_8, .ref q_17, .ref q_26, .null, .null, .null, .int (iI 0), .int (iI 0), .int (iI 0), .int (iI (bz false))])), (q_8, .inl (cA_8, 512, .inl (aI (fun _ => 0)))), (q_17, .inl (cA_17, 512, .inl (aI (fun _ => 0)))), (q_26, .inl (cA_26, 512, .inl (aB (fun _ => false)))), (q_35, .inl (cA_35, 512, .inr (.inr (.inr (.inr (aQ (fun _ => none)))))))] := hD
  have hK : va_K (dC, dI) vwCl [(cA_8, .int), (cA_17, .int), (cA_26, .boolean), (cA_35, .object RP)] s := hK
  refine va_putF (D := (dC, dI)) (ci := 2) (v := .ref q_35) (ty := .array (.object "CurveRaster$Piece")) (C := RC) (T := TC) (N := 10) hx hb hts (fun w9 h9 => List.mem_cons_of_mem _ (inC w9 h9)) tyC tyC_ok nmC hown hK hP hD hS 0 rfl rfl 3 (by decide) (hts _ (List.mem_cons_of_mem _ flC_22)) (fun _ h9 => h9) rfl hin rfl (by decide +kernel) rfl rfl (Nat.le_of_ble_eq_true rfl) dC_init_38 (fun H locs hP hD hS => ?_)
  have hP : va_P (dC, dI) vwCl [(h0, .inr (2, [.ref q_8, .ref q_17, .ref q_26, .ref q_35, .null, .null, .int (iI 0), .int (iI 0), .int (iI 0), .int (iI (bz false))])), (q_8, .inl (cA_8, 512, .inl (aI (fun _ => 0)))), (q_17, .inl (cA_17, 512, .inl (aI (fun _ => 0)))), (q_26, .inl (cA_26, 512, .inl (aB (fun _ => false)))), (q_35, .inl (cA_35, 512, .inr (.inr (.inr (.inr (aQ (fun _ => none)))))))] H := hP
  have hD : va_D A [(h0, .inr (2, [.ref q_8, .ref q_17, .ref q_26, .ref q_35, .null, .null, .int (iI 0), .int (iI 0), .int (iI 0), .int (iI (bz false))])), (q_8, .inl (cA_8, 512, .inl (aI (fun _ => 0)))), (q_17, .inl (cA_17, 512, .inl (aI (fun _ => 0)))), (q_26, .inl (cA_26, 512, .inl (aB (fun _ => false)))), (q_35, .inl (cA_35, 512, .inr (.inr (.inr (.inr (aQ (fun _ => none)))))))] := hD
  refine lv_aload_n hx hb dC_init_41 rfl (lv_at hl 0 rfl) ?_
  refine lv_bipush (v := iI 65) hx hb dC_init_42 (by decide +kernel) ?_
  refine va_newa (atype := .int) (ty := .int) (a0 := (65, .inl (aI (fun _ => 0)))) (N' := 65) hx hb (hts _ (List.mem_cons_of_mem _ ac_int)) rfl hK hP hD hS hA (fun cA => rfl) (by decide +kernel) (by decide +kernel) (by decide) (by subst hR; exact Nat.le_of_ble_eq_true rfl) (by subst hR; exact Nat.le_of_ble_eq_true rfl) dC_init_44 (fun q_44 cA_44 H hK hP hD hS => ?_)
  have hP : va_P (dC, dI) vwCl [(h0, .inr (2, [.ref q_8, .ref q_17, .ref q_26, .ref q_35, .null, .null, .int (iI 0), .int (iI 0), .int (iI 0), .int (iI (bz false))])), (q_8, .inl (cA_8, 512, .inl (aI (fun _ => 0)))), (q_17, .inl (cA_17, 512, .inl (aI (fun _ => 0)))), (q_26, .inl (cA_26, 512, .inl (aB (fun _ => false)))), (q_35, .inl (cA_35, 512, .inr (.inr (.inr (.inr (aQ (fun _ => none))))))), (q_44, .inl (cA_44, 65, .inl (aI (fun _ => 0))))] H := hP
  have hD : va_D A [(h0, .inr (2, [.ref q_8, .ref q_17, .ref q_26, .ref q_35, .null, .null, .int (iI 0), .int (iI 0), .int (iI 0), .int (iI (bz false))])), (q_8, .inl (cA_8, 512, .inl (aI (fun _ => 0)))), (q_17, .inl (cA_17, 512, .inl (aI (fun _ => 0)))), (q_26, .inl (cA_26, 512, .inl (aB (fun _ => false)))), (q_35, .inl (cA_35, 512, .inr (.inr (.inr (.inr (aQ (fun _ => none))))))), (q_44, .inl (cA_44, 65, .inl (aI (fun _ => 0))))] := hD
  have hK : va_K (dC, dI) vwCl [(cA_8, .int), (cA_17, .int), (cA_26, .boolean), (cA_35, .object RP), (cA_44, .int)] s := hK
  refine va_putF (D := (dC, dI)) (ci := 2) (v := .ref q_44) (ty := .array .int) (C := RC) (T := TC) (N := 10) hx hb hts (fun w9 h9 => List.mem_cons_of_mem _ (inC w9 h9)) tyC tyC_ok nmC hown hK hP hD hS 0 rfl rfl 4 (by decide) (hts _ (List.mem_cons_of_mem _ flC_26)) (fun _ h9 => h9) rfl hin rfl (by decide +kernel) rfl rfl (Nat.le_of_ble_eq_true rfl) dC_init_46 (fun H locs hP hD hS => ?_)
  have hP : va_P (dC, dI) vwCl [(h0, .inr (2, [.ref q_8, .ref q_17, .ref q_26, .ref q_35, .ref q_44, .null, .int (iI 0), .int (iI 0), .int (iI 0), .int (iI (bz false))])), (q_8, .inl (cA_8, 512, .inl (aI (fun _ => 0)))), (q_17, .inl (cA_17, 512, .inl (aI (fun _ => 0)))), (q_26, .inl (cA_26, 512, .inl (aB (fun _ => false)))), (q_35, .inl (cA_35, 512, .inr (.inr (.inr (.inr (aQ (fun _ => none))))))), (q_44, .inl (cA_44, 65, .inl (aI (fun _ => 0))))] H := hP
  have hD : va_D A [(h0, .inr (2, [.ref q_8, .ref q_17, .ref q_26, .ref q_35, .ref q_44, .null, .int (iI 0), .int (iI 0), .int (iI 0), .int (iI (bz false))])), (q_8, .inl (cA_8, 512, .inl (aI (fun _ => 0)))), (q_17, .inl (cA_17, 512, .inl (aI (fun _ => 0)))), (q_26, .inl (cA_26, 512, .inl (aB (fun _ => false)))), (q_35, .inl (cA_35, 512, .inr (.inr (.inr (.inr (aQ (fun _ => none))))))), (q_44, .inl (cA_44, 65, .inl (aI (fun _ => 0))))] := hD
  refine lv_aload_n hx hb dC_init_49 rfl (lv_at hl 0 rfl) ?_
  refine va_new (ci := 1) (fs := [.long (lI 0), .long (lI 0), .long (lI 0), .long (lI 0)]) (C := RL) (T := TL) (N := 4) hx hb hts (fun w9 h9 => List.mem_cons_of_mem _ (inL w9 h9)) tyL tyL_ok hown (hts _ (List.mem_cons_of_mem _ clC_29)) (hts _ (List.mem_cons_of_mem _ insL)) (hts _ (List.mem_cons_of_mem _ iniL)) hK hP hD hS hA rfl fsL (by subst hR; exact Nat.le_of_ble_eq_true rfl) (by subst hR; exact Nat.le_of_ble_eq_true rfl) dC_init_50 (fun q_50 H hP hD hS => ?_)
  have hP : va_P (dC, dI) vwCl [(h0, .inr (2, [.ref q_8, .ref q_17, .ref q_26, .ref q_35, .ref q_44, .null, .int (iI 0), .int (iI 0), .int (iI 0), .int (iI (bz false))])), (q_8, .inl (cA_8, 512, .inl (aI (fun _ => 0)))), (q_17, .inl (cA_17, 512, .inl (aI (fun _ => 0)))), (q_26, .inl (cA_26, 512, .inl (aB (fun _ => false)))), (q_35, .inl (cA_35, 512, .inr (.inr (.inr (.inr (aQ (fun _ => none))))))), (q_44, .inl (cA_44, 65, .inl (aI (fun _ => 0)))), (q_50, .inr (1, [.long (lI 0), .long (lI 0), .long (lI 0), .long (lI 0)]))] H := hP
  have hD : va_D A [(h0, .inr (2, [.ref q_8, .ref q_17, .ref q_26, .ref q_35, .ref q_44, .null, .int (iI 0), .int (iI 0), .int (iI 0), .int (iI (bz false))])), (q_8, .inl (cA_8, 512, .inl (aI (fun _ => 0)))), (q_17, .inl (cA_17, 512, .inl (aI (fun _ => 0)))), (q_26, .inl (cA_26, 512, .inl (aB (fun _ => false)))), (q_35, .inl (cA_35, 512, .inr (.inr (.inr (.inr (aQ (fun _ => none))))))), (q_44, .inl (cA_44, 65, .inl (aI (fun _ => 0)))), (q_50, .inr (1, [.long (lI 0), .long (lI 0), .long (lI 0), .long (lI 0)]))] := hD
  refine lv_dup hx hb dC_init_53 rfl ?_
  have hPc := hP.sub (ws' := [(q_50, .inr (1, [.long (lI 0), .long (lI 0), .long (lI 0), .long (lI 0)]))]) [6] rfl
  have hKc := hK.sub (tys' := []) [] rfl
  have hDc := hD.sub (ws' := [(q_50, .inr (1, [.long (lI 0), .long (lI 0), .long (lI 0), .long (lI 0)]))]) [6] (by decide) rfl
  have hFc := xp_free1 (i := 6) hD hS hA (q1 := (q_50, .inr (1, [.long (lI 0), .long (lI 0), .long (lI 0), .long (lI 0)]))) rfl
  refine va_callv (va_runIN (As := []) (rest := [.ref q_50, .ref h0]) ⟨hx, hb, hml, hown, hts⟩ (l_init l dC dI H.size q_50) (⟨va_cnB 0 hts (tb_call coL_init) rfl rfl rfl hZ (hts _ (List.mem_cons_of_mem _ iniL)) (by decide +kernel) (by subst hR; exact ⟨Nat.le_of_ble_eq_true rfl, Nat.le_of_ble_eq_true rfl⟩), rfl, (hts _ (List.mem_cons_of_mem _ imL_init))⟩) ⟨fun a9 U9 g9 mk9 q9 => by obtain ⟨q0, q1, qP, qK, qD⟩ := q9; exact ⟨q0, q1, qP, va_K.moved (u := U9) (U := U9.calling g9 mk9 a9) (Vm.Alike.refl U9.vm) qK, qD⟩, fun U hU hW => ⟨rfl, by rw [hU], by rw [hU]; exact hPc, va_K.moved hW.alike hKc, hDc.weaken (fun _ _ _ _ => trivial)⟩⟩ rfl rfl hl.1 rfl (lv_room (Nat.le_of_ble_eq_true rfl)) dC_init_54 ⟨by subst hR; exact Nat.le_of_ble_eq_true rfl, by subst hR; exact Nat.le_of_ble_eq_true rfl⟩) hS (fun q9 _ h9 => hFc q9 h9) hFc (fun u_54 t9 H1 locs1 ht9 hvm9 hw_54 hB9 hz9 hk9 hS1 => ?_)
  obtain ⟨hP1, hK1, hD1⟩ := hB9
  rw [ht9] at hP1
  have hP2 := xp_set hP hD (k := 6) rfl hP1 hk9
  have hP : va_P (dC, dI) vwCl [(h0, .inr (2, [.ref q_8, .ref q_17, .ref q_26, .ref q_35, .ref q_44, .null, .int (iI 0), .int (iI 0), .int (iI 0), .int (iI (bz false))])), (q_8, .inl (cA_8, 512, .inl (aI (fun _ => 0)))), (q_17, .inl (cA_17, 512, .inl (aI (fun _ => 0)))), (q_26, .inl (cA_26, 512, .inl (aB (fun _ => false)))), (q_35, .inl (cA_35, 512, .inr (.inr (.inr (.inr (aQ (fun _ => none))))))), (q_44, .inl (cA_44, 65, .inl (aI (fun _ => 0)))), (q_50, .inr (1, [.long (lI 0), .long (lI 0), .long (lI 0), .long (lI 0)]))] H1 := hP2
  have hD : va_D A [(h0, .inr (2, [.ref q_8, .ref q_17, .ref q_26, .ref q_35, .ref q_44, .null, .int (iI 0), .int (iI 0), .int (iI 0), .int (iI (bz false))])), (q_8, .inl (cA_8, 512, .inl (aI (fun _ => 0)))), (q_17, .inl (cA_17, 512, .inl (aI (fun _ => 0)))), (q_26, .inl (cA_26, 512, .inl (aB (fun _ => false)))), (q_35, .inl (cA_35, 512, .inr (.inr (.inr (.inr (aQ (fun _ => none))))))), (q_44, .inl (cA_44, 65, .inl (aI (fun _ => 0)))), (q_50, .inr (1, [.long (lI 0), .long (lI 0), .long (lI 0), .long (lI 0)]))] := hD
  clear hP1 hD1 hK1 hFc hP2 hPc hDc hKc
  have hS := hS1
  clear hS1 hz9 hk9 ht9 hvm9
  revert hP hD hS; generalize H1 = H; generalize locs1 = locs; intro hP hD hS
  refine va_putF (D := (dC, dI)) (ci := 2) (v := .ref q_50) (ty := .object "CurveRaster$Place") (C := RC) (T := TC) (N := 10) hx hb hts (fun w9 h9 => List.mem_cons_of_mem _ (inC w9 h9)) tyC tyC_ok nmC hown hK hP hD hS 0 rfl rfl 5 (by decide) (hts _ (List.mem_cons_of_mem _ flC_32)) (fun _ h9 => h9) rfl hin rfl (by decide +kernel) rfl rfl (Nat.le_of_ble_eq_true rfl) dC_init_57 (fun H locs hP hD hS => ?_)
  have hP : va_P (dC, dI) vwCl [(h0, .inr (2, [.ref q_8, .ref q_17, .ref q_26, .ref q_35, .ref q_44, .ref q_50, .int (iI 0), .int (iI 0), .int (iI 0), .int (iI (bz false))])), (q_8, .inl (cA_8, 512, .inl (aI (fun _ => 0)))), (q_17, .inl (cA_17, 512, .inl (aI (fun _ => 0)))), (q_26, .inl (cA_26, 512, .inl (aB (fun _ => false)))), (q_35, .inl (cA_35, 512, .inr (.inr (.inr (.inr (aQ (fun _ => none))))))), (q_44, .inl (cA_44, 65, .inl (aI (fun _ => 0)))), (q_50, .inr (1, [.long (lI 0), .long (lI 0), .long (lI 0), .long (lI 0)]))] H := hP
  have hD : va_D A [(h0, .inr (2, [.ref q_8, .ref q_17, .ref q_26, .ref q_35, .ref q_44, .ref q_50, .int (iI 0), .int (iI 0), .int (iI 0), .int (iI (bz false))])), (q_8, .inl (cA_8, 512, .inl (aI (fun _ => 0)))), (q_17, .inl (cA_17, 512, .inl (aI (fun _ => 0)))), (q_26, .inl (cA_26, 512, .inl (aB (fun _ => false)))), (q_35, .inl (cA_35, 512, .inr (.inr (.inr (.inr (aQ (fun _ => none))))))), (q_44, .inl (cA_44, 65, .inl (aI (fun _ => 0)))), (q_50, .inr (1, [.long (lI 0), .long (lI 0), .long (lI 0), .long (lI 0)]))] := hD
  refine lv_aload_n hx hb dC_init_60 rfl (lv_at hl 0 rfl) ?_
  refine xi_iconst hx hb dC_init_61 ?_
  refine va_put (D := (dC, dI)) (ci := 2) (v := .int (iI 0)) (ty := .int) (C := RC) (T := TC) (N := 10) hx hb hts (fun w9 h9 => List.mem_cons_of_mem _ (inC w9 h9)) tyC tyC_ok nmC hown hK hP hD hS 0 rfl rfl 6 (by decide) (hts _ (List.mem_cons_of_mem _ flC_36)) (fun _ h9 => h9) rfl (by decide +kernel) rfl rfl (Nat.le_of_ble_eq_true rfl) dC_init_62 (fun H locs hP hD hS => ?_)
  have hP : va_P (dC, dI) vwCl [(h0, .inr (2, [.ref q_8, .ref q_17, .ref q_26, .ref q_35, .ref q_44, .ref q_50, .int (iI 0), .int (iI 0), .int (iI 0), .int (iI (bz false))])), (q_8, .inl (cA_8, 512, .inl (aI (fun _ => 0)))), (q_17, .inl (cA_17, 512, .inl (aI (fun _ => 0)))), (q_26, .inl (cA_26, 512, .inl (aB (fun _ => false)))), (q_35, .inl (cA_35, 512, .inr (.inr (.inr (.inr (aQ (fun _ => none))))))), (q_44, .inl (cA_44, 65, .inl (aI (fun _ => 0)))), (q_50, .inr (1, [.long (lI 0), .long (lI 0), .long (lI 0), .long (lI 0)]))] H := hP
  have hD : va_D A [(h0, .inr (2, [.ref q_8, .ref q_17, .ref q_26, .ref q_35, .ref q_44, .ref q_50, .int (iI 0), .int (iI 0), .int (iI 0), .int (iI (bz false))])), (q_8, .inl (cA_8, 512, .inl (aI (fun _ => 0)))), (q_17, .inl (cA_17, 512, .inl (aI (fun _ => 0)))), (q_26, .inl (cA_26, 512, .inl (aB (fun _ => false)))), (q_35, .inl (cA_35, 512, .inr (.inr (.inr (.inr (aQ (fun _ => none))))))), (q_44, .inl (cA_44, 65, .inl (aI (fun _ => 0)))), (q_50, .inr (1, [.long (lI 0), .long (lI 0), .long (lI 0), .long (lI 0)]))] := hD
  refine lv_aload_n hx hb dC_init_65 rfl (lv_at hl 0 rfl) ?_
  refine xi_iconst hx hb dC_init_66 ?_
  refine va_put (D := (dC, dI)) (ci := 2) (v := .int (iI 0)) (ty := .int) (C := RC) (T := TC) (N := 10) hx hb hts (fun w9 h9 => List.mem_cons_of_mem _ (inC w9 h9)) tyC tyC_ok nmC hown hK hP hD hS 0 rfl rfl 7 (by decide) (hts _ (List.mem_cons_of_mem _ flC_40)) (fun _ h9 => h9) rfl (by decide +kernel) rfl rfl (Nat.le_of_ble_eq_true rfl) dC_init_67 (fun H locs hP hD hS => ?_)
  have hP : va_P (dC, dI) vwCl [(h0, .inr (2, [.ref q_8, .ref q_17, .ref q_26, .ref q_35, .ref q_44, .ref q_50, .int (iI 0), .int (iI 0), .int (iI 0), .int (iI (bz false))])), (q_8, .inl (cA_8, 512, .inl (aI (fun _ => 0)))), (q_17, .inl (cA_17, 512, .inl (aI (fun _ => 0)))), (q_26, .inl (cA_26, 512, .inl (aB (fun _ => false)))), (q_35, .inl (cA_35, 512, .inr (.inr (.inr (.inr (aQ (fun _ => none))))))), (q_44, .inl (cA_44, 65, .inl (aI (fun _ => 0)))), (q_50, .inr (1, [.long (lI 0), .long (lI 0), .long (lI 0), .long (lI 0)]))] H := hP
  have hD : va_D A [(h0, .inr (2, [.ref q_8, .ref q_17, .ref q_26, .ref q_35, .ref q_44, .ref q_50, .int (iI 0), .int (iI 0), .int (iI 0), .int (iI (bz false))])), (q_8, .inl (cA_8, 512, .inl (aI (fun _ => 0)))), (q_17, .inl (cA_17, 512, .inl (aI (fun _ => 0)))), (q_26, .inl (cA_26, 512, .inl (aB (fun _ => false)))), (q_35, .inl (cA_35, 512, .inr (.inr (.inr (.inr (aQ (fun _ => none))))))), (q_44, .inl (cA_44, 65, .inl (aI (fun _ => 0)))), (q_50, .inr (1, [.long (lI 0), .long (lI 0), .long (lI 0), .long (lI 0)]))] := hD
  refine lv_aload_n hx hb dC_init_70 rfl (lv_at hl 0 rfl) ?_
  refine xi_iconst hx hb dC_init_71 ?_
  refine va_put (D := (dC, dI)) (ci := 2) (v := .int (iI 0)) (ty := .int) (C := RC) (T := TC) (N := 10) hx hb hts (fun w9 h9 => List.mem_cons_of_mem _ (inC w9 h9)) tyC tyC_ok nmC hown hK hP hD hS 0 rfl rfl 8 (by decide) (hts _ (List.mem_cons_of_mem _ flC_43)) (fun _ h9 => h9) rfl (by decide +kernel) rfl rfl (Nat.le_of_ble_eq_true rfl) dC_init_72 (fun H locs hP hD hS => ?_)
  have hP : va_P (dC, dI) vwCl [(h0, .inr (2, [.ref q_8, .ref q_17, .ref q_26, .ref q_35, .ref q_44, .ref q_50, .int (iI 0), .int (iI 0), .int (iI 0), .int (iI (bz false))])), (q_8, .inl (cA_8, 512, .inl (aI (fun _ => 0)))), (q_17, .inl (cA_17, 512, .inl (aI (fun _ => 0)))), (q_26, .inl (cA_26, 512, .inl (aB (fun _ => false)))), (q_35, .inl (cA_35, 512, .inr (.inr (.inr (.inr (aQ (fun _ => none))))))), (q_44, .inl (cA_44, 65, .inl (aI (fun _ => 0)))), (q_50, .inr (1, [.long (lI 0), .long (lI 0), .long (lI 0), .long (lI 0)]))] H := hP
  have hD : va_D A [(h0, .inr (2, [.ref q_8, .ref q_17, .ref q_26, .ref q_35, .ref q_44, .ref q_50, .int (iI 0), .int (iI 0), .int (iI 0), .int (iI (bz false))])), (q_8, .inl (cA_8, 512, .inl (aI (fun _ => 0)))), (q_17, .inl (cA_17, 512, .inl (aI (fun _ => 0)))), (q_26, .inl (cA_26, 512, .inl (aB (fun _ => false)))), (q_35, .inl (cA_35, 512, .inr (.inr (.inr (.inr (aQ (fun _ => none))))))), (q_44, .inl (cA_44, 65, .inl (aI (fun _ => 0)))), (q_50, .inr (1, [.long (lI 0), .long (lI 0), .long (lI 0), .long (lI 0)]))] := hD
  refine lv_aload_n hx hb dC_init_75 rfl (lv_at hl 0 rfl) ?_
  refine xi_iconst hx hb dC_init_76 ?_
  refine va_put (D := (dC, dI)) (ci := 2) (v := .int (iI (bz false))) (ty := .boolean) (C := RC) (T := TC) (N := 10) hx hb hts (fun w9 h9 => List.mem_cons_of_mem _ (inC w9 h9)) tyC tyC_ok nmC hown hK hP hD hS 0 rfl rfl 9 (by decide) (hts _ (List.mem_cons_of_mem _ flC_46)) (fun _ h9 => h9) rfl (by decide +kernel) (xi_narZ2 _) (xi_fitZ _) (Nat.le_of_ble_eq_true rfl) dC_init_77 (fun H locs hP hD hS => ?_)
  have hP : va_P (dC, dI) vwCl [(h0, .inr (2, [.ref q_8, .ref q_17, .ref q_26, .ref q_35, .ref q_44, .ref q_50, .int (iI 0), .int (iI 0), .int (iI 0), .int (iI (bz false))])), (q_8, .inl (cA_8, 512, .inl (aI (fun _ => 0)))), (q_17, .inl (cA_17, 512, .inl (aI (fun _ => 0)))), (q_26, .inl (cA_26, 512, .inl (aB (fun _ => false)))), (q_35, .inl (cA_35, 512, .inr (.inr (.inr (.inr (aQ (fun _ => none))))))), (q_44, .inl (cA_44, 65, .inl (aI (fun _ => 0)))), (q_50, .inr (1, [.long (lI 0), .long (lI 0), .long (lI 0), .long (lI 0)]))] H := hP
  have hD : va_D A [(h0, .inr (2, [.ref q_8, .ref q_17, .ref q_26, .ref q_35, .ref q_44, .ref q_50, .int (iI 0), .int (iI 0), .int (iI 0), .int (iI (bz false))])), (q_8, .inl (cA_8, 512, .inl (aI (fun _ => 0)))), (q_17, .inl (cA_17, 512, .inl (aI (fun _ => 0)))), (q_26, .inl (cA_26, 512, .inl (aB (fun _ => false)))), (q_35, .inl (cA_35, 512, .inr (.inr (.inr (.inr (aQ (fun _ => none))))))), (q_44, .inl (cA_44, 65, .inl (aI (fun _ => 0)))), (q_50, .inr (1, [.long (lI 0), .long (lI 0), .long (lI 0), .long (lI 0)]))] := hD
  subst hQ
  refine W.widen (k := 6) (n := 2117) (by omega) (by omega) ?_
  exact W.vret hx hb hr (fun t9 ht9 hW9 => ⟨⟨((fun i => match i with | 0 => h0 | 1 => q_8 | 2 => q_17 | 3 => q_26 | 4 => q_35 | 5 => q_44 | _ => q_50), (fun i => match i with | 0 => cA_8 | 1 => cA_17 | 2 => cA_26 | 3 => cA_35 | _ => cA_44)), rfl, rfl, by rw [ht9]; exact hP, va_K.moved hW9.alike hK, hD⟩, hS.F ht9⟩) hS.2.2 dC_init_80
