/-! what a throw needs of the machine -/
def NMS : List String := ["java/lang/RuntimeException", "java/lang/Exception"]
def IAE : String := "java/lang/IllegalArgumentException"
def ISE : String := "java/lang/IllegalStateException"
def IOB : String := "java/lang/IndexOutOfBoundsException"
theorem at_IAE : ∀ w ∈ vx_atS RC 58 IAE NMS, w ∈ lw_tbl := by decide +kernel
theorem ot_IAE : ∀ w ∈ Cond.classLink RC 54 IAE :: Cond.initialized IAE :: vx_atS RC 58 IAE NMS, vx_ot w = true := by decide +kernel
theorem at_ISE : ∀ w ∈ vx_atS RC 65 ISE NMS, w ∈ lw_tbl := by decide +kernel
theorem ot_ISE : ∀ w ∈ Cond.classLink RC 61 ISE :: Cond.initialized ISE :: vx_atS RC 65 ISE NMS, vx_ot w = true := by decide +kernel
theorem at_IOB : ∀ w ∈ vx_atS RC 105 IOB NMS, w ∈ lw_tbl := by decide +kernel
theorem ot_IOB : ∀ w ∈ Cond.classLink RC 101 IOB :: Cond.initialized IOB :: vx_atS RC 105 IOB NMS, vx_ot w = true := by decide +kernel
theorem ini_IAE : (.initialized IAE : Cond) ∈ TB := List.mem_filter.mpr ⟨by decide +kernel, by decide +kernel⟩
theorem ini_ISE : (.initialized ISE : Cond) ∈ TB := List.mem_filter.mpr ⟨by decide +kernel, by decide +kernel⟩
theorem ini_IOB : (.initialized IOB : Cond) ∈ TB := List.mem_filter.mpr ⟨by decide +kernel, by decide +kernel⟩
theorem fit_IAE : Bundle.fit IAE = true := by decide +kernel
theorem fit_ISE : Bundle.fit ISE = true := by decide +kernel
theorem fit_IOB : Bundle.fit IOB = true := by decide +kernel
theorem fit_NMS : ∀ n ∈ NMS, Bundle.fit n = true := by decide +kernel
/-- the words of a throw that are no good ones -/
def xDs : List MethodName := [⟨"java/lang/RuntimeException", "<init>", "(Ljava/lang/String;)V"⟩, ⟨"java/lang/Exception", "<init>", "(Ljava/lang/String;)V"⟩, ⟨"java/lang/Throwable", "<init>", "(Ljava/lang/String;)V"⟩]
def xCs : List String := [IAE, ISE, IOB]
def xWs : List Cond := xDs.map Cond.declares ++ xCs.map (fun c => Cond.castable c c)
theorem ok_IAE : ∀ w ∈ vx_atS RC 58 IAE NMS, goodWord w = true ∨ w ∈ xWs := by decide +kernel
theorem ok_ISE : ∀ w ∈ vx_atS RC 65 ISE NMS, goodWord w = true ∨ w ∈ xWs := by decide +kernel
theorem ok_IOB : ∀ w ∈ vx_atS RC 105 IOB NMS, goodWord w = true ∨ w ∈ xWs := by decide +kernel
def sIx : List Nat := [56, 63, 66, 68, 74, 92, 103, 110, 136, 138]
def sTx : Nat → String := fun k => match k with | 56 => "a coordinate is not -8192 .. 8191" | 63 => "there are 512 points in all" | 66 => "the open contour has no points" | 68 => "there are 64 contours" | 74 => "a coordinate would not be -8192 .. 8191" | 92 => "a coordinate is not -16384 .. 16383" | 103 => "no such row" | 110 => "no such pixel" | 136 => "no such extent" | 138 => "there are no contours" | _ => ""
/-- what a throw needs of the machine: the words that are no good ones, the texts, the two statics of Throwable, none of them in what is written -/
def xFk (A : Nat → Prop) (sa : Nat → Nat) (U : State) : Prop :=
  (∀ x ∈ xDs, va_Nw (.declares x) U) ∧ (∀ c ∈ xCs, va_Nw (.castable c c) U) ∧ (∀ k ∈ sIx, vk_R RC k (sTx k) (sa k) U) ∧ vx_Zq Bundle.tN "UNASSIGNED_STACK" Bundle.steD A U U.heap ∧ vx_Zq Bundle.tN "SUPPRESSED_SENTINEL" Bundle.listD A U U.heap
theorem xFk.str {A : Nat → Prop} {sa : Nat → Nat} {U : State} (h : xFk A sa U) (k : Nat) (hk : k ∈ sIx) : vk_R RC k (sTx k) (sa k) U := h.2.2.1 k hk
theorem xFk.u {A : Nat → Prop} {sa : Nat → Nat} {U : State} (h : xFk A sa U) : vx_Zq Bundle.tN "UNASSIGNED_STACK" Bundle.steD A U U.heap := h.2.2.2.1
theorem xFk.n {A : Nat → Prop} {sa : Nat → Nat} {U : State} (h : xFk A sa U) : vx_Zq Bundle.tN "SUPPRESSED_SENTINEL" Bundle.listD A U U.heap := h.2.2.2.2
theorem xFk.move {A : Nat → Prop} {sa : Nat → Nat} {s U : State} (h : xFk A sa s) (hW : s.WarmedH U.vm) (hq : ∀ a : Nat, a < s.heap.size → ¬ A a → U.heap[a]? = s.heap[a]?) : xFk A sa U :=
  ⟨fun x hx => va_Nw.warmD hW (h.1 x hx), fun c hc => va_Nw.warmC hW (h.2.1 c hc), fun k hk => vk_R.warm hW (h.2.2.1 k hk), vx_Zq.moved hW.alike (h.2.2.2.1.kept hq), vx_Zq.moved hW.alike (h.2.2.2.2.kept hq)⟩
theorem xFk.narrow {A B : Nat → Prop} {sa : Nat → Nat} {U : State} (h : xFk A sa U) (hAB : ∀ q, B q → A q) : xFk B sa U := ⟨h.1, h.2.1, h.2.2.1, h.2.2.2.1.narrow hAB, h.2.2.2.2.narrow hAB⟩
theorem xFk.calling {A : Nat → Prop} {sa : Nat → Nat} {U : State} (h : xFk A sa U) (g : JFrame) (mk : MethodId) (a : Array Value) : xFk A sa (U.calling g mk a) :=
  ⟨fun x hx => va_Nw.same rfl (u := U) rfl (h.1 x hx), fun c hc => va_Nw.same rfl (u := U) rfl (h.2.1 c hc), fun k hk => vk_R.same (u := U) rfl (h.2.2.1 k hk), vx_Zq.moved (u := U) (Vm.Alike.refl U.vm) h.2.2.2.1, vx_Zq.moved (u := U) (Vm.Alike.refl U.vm) h.2.2.2.2⟩
theorem xat {A : Nat → Prop} {sa : Nat → Nat} {s : State} {args : Array Value} {a : Cond} {L : List Cond} (hts : ∀ w ∈ a :: TB, w.before args s = true) (h : xFk A sa s) (hL : ∀ w ∈ L, w ∈ lw_tbl) (hB : ∀ w ∈ L, goodWord w = true ∨ w ∈ xWs) : ∀ w ∈ L, w.before args s = true := fun w hw => by
  rcases hB w hw with hg | hx
  · exact hts w (List.mem_cons_of_mem _ (List.mem_filter.mpr ⟨hL w hw, hg⟩))
  · rcases List.mem_append.mp hx with hx | hx
    · obtain ⟨x, h1, h2⟩ := List.mem_map.mp hx
      rw [← h2]; exact va_Nw.use rfl (h.1 x h1)
    · obtain ⟨x, h1, h2⟩ := List.mem_map.mp hx
      rw [← h2]; exact va_Nw.use rfl (h.2.1 x h1)
theorem xt_X {C : String → Prop} {E : String} {D : va_G} {cl : List vw_C} {ws : va_W} {tys : List (ClassId × FieldType)} {s : State} {H : Heap} {locs : List Loc} {A : Nat → Prop} (hc : C E) (hP : va_P D cl ws H) (hK : va_K D cl tys s) (hS : va_S A s.heap H locs) : ∀ t : State, s.vm.Alike t.vm → H.size ≤ t.heap.size → (∀ q : Nat, q < H.size → t.heap[q]? = H[q]?) → vx_X (S := Unit) (fun _ => True) (fun E _ t => C E ∧ va_P D cl ws t.heap ∧ va_K D cl tys t) A E s t := fun t h1 h2 h3 =>
  ⟨(), trivial, ⟨hc, hP.kept (fun k q hk => h3 q.1 (hP k q hk).lt), va_K.moved h1 hK⟩, Nat.le_trans hS.1 h2, fun q hq hA => by rw [h3 q (Nat.lt_of_lt_of_le hq hS.1)]; exact hS.2.1 q hq hA⟩

set_option maxHeartbeats 4000000 in
set_option maxRecDepth 100000 in
/-- add -/
theorem k_add (l : Launch) (hlt : l.stackTraces = false) (sa : Nat → Nat) (dC : Nat → ClassId) (dI : Nat → Nat → Nat) (ad : Nat → Nat) (cs : Nat → ClassId) (sz : Nat) (LP : List Nat) (G : Nat → PD) (nc np op : Int) (par : Bool) (X Y : Int → Int) (O : Int → Bool) (PQ : Int → Option Nat) (Wd : Int → Int) (pw pf pu ps : Int) (x y : Int) (on : Bool) (h2 : 0 ≤ np ∧ np ≤ 512) (hx0 : -2147483648 ≤ x ∧ x ≤ 2147483647) (hy0 : -2147483648 ≤ y ∧ y ≤ 2147483647) : vx_Met l yC_add wC_add ({ frames := 6, cells := 1, slots := 6, locals := 82 }) (va_Pc [.ref (ad 0), .int (iI x), .int (iI y), .int (iI (bz on))] (fun U => U.heap.size = sz ∧ va_P (dC, dI) vwCl ((cW ad cs nc np op par X Y O PQ Wd pw pf pu ps) ++ va_pl LP (pG G)) U.heap ∧ va_K (dC, dI) vwCl (cT cs) U ∧ va_D (fun _ => True) ((cW ad cs nc np op par X Y O PQ Wd pw pf pu ps) ++ va_pl LP (pG G)) ∧ xFk (va_A ((cW ad cs nc np op par X Y O PQ Wd pw pf pu ps) ++ va_pl LP (pG G)) sz) sa U)) (va_Qi (fun (r : Int32) (u : Unit) => fA x y np = 0 ∧ r = iI (np + 1 - op)) (fun (u : Unit) t9 => va_P (dC, dI) vwCl ((cW ad cs nc (np + 1) op par (up X np x) (up Y np y) (up O np on) PQ Wd pw pf pu ps) ++ va_pl LP (pG G)) t9.heap ∧ va_K (dC, dI) vwCl (cT cs) t9 ∧ va_D (va_A ((cW ad cs nc np op par X Y O PQ Wd pw pf pu ps) ++ va_pl LP (pG G)) sz) ((cW ad cs nc (np + 1) op par (up X np x) (up Y np y) (up O np on) PQ Wd pw pf pu ps) ++ va_pl LP (pG G))) (va_A ((cW ad cs nc np op par X Y O PQ Wd pw pf pu ps) ++ va_pl LP (pG G)) sz)) (vx_X (S := Unit) (fun _ => True) (fun E9 _ t9 => (E9 = IAE ∧ fA x y np = 1 ∨ E9 = ISE ∧ fA x y np = 2) ∧ va_P (dC, dI) vwCl ((cW ad cs nc np op par X Y O PQ Wd pw pf pu ps) ++ va_pl LP (pG G)) t9.heap ∧ va_K (dC, dI) vwCl (cT cs) t9) (va_A ((cW ad cs nc np op par X Y O PQ Wd pw pf pu ps) ++ va_pl LP (pG G)) sz)) 1 6 (va_A ((cW ad cs nc np op par X Y O PQ Wd pw pf pu ps) ++ va_pl LP (pG G)) sz) := by
  refine vx_ofW (cc := cC_add) (maxL := 4) (ret := (some .int)) (by decide) rfl ?_
  intro p e s m args below meth c s₁ B hml htb hv
  obtain ⟨hargs, hsz, hP, hK, hD0, hXF⟩ := hv
  have hx := B.exec
  have hb := B.bytes
  have hr := B.returns
  have hts := atoms_spec (ws := wC_add) B.pre
  have hown : s.vm.findClass RC = some m.cls := findClass_of_methodNamed B.named
  have hlocks := B.notSynchronized
  subst hsz
  have hD := hD0.self (sz := s.heap.size)
  generalize hAe : va_A ((cW ad cs nc np op par X Y O PQ Wd pw pf pu ps) ++ va_pl LP (pG G)) s.heap.size = A at hD hXF ⊢
  have hA : ∀ q : Nat, s.heap.size ≤ q → A q := fun q h => by rw [← hAe]; exact Or.inr h
  have hS0 : va_S A s.heap s.heap [] := va_S.rf
  refine x_name (fun R Q H locs hR hQ hH hlo => ?_)
  rw [← hH] at hP
  have hS : va_S A s.heap H locs := by rw [hH, hlo]; exact hS0
  refine x_entry hargs (Nat.le_of_ble_eq_true rfl) (fun ls hl => ?_)
  have hl : lv_has ls 4 [(0, .ref (ad 0)), (1, .int (iI x)), (2, .int (iI y)), (3, .int (iI (bz on)))] := hl
  have hP : va_P (dC, dI) vwCl ((cW ad cs nc np op par X Y O PQ Wd pw pf pu ps) ++ va_pl LP (pG G)) H := hP
  refine lv_iload_n hx hb dC_add_0 rfl (lv_at hl 1 rfl) ?_
  refine xl_i2l hx hb dC_add_1 (by omega) ?_
  refine vp_callSi (W.runS (As := [.long (lI x)]) (rest := []) ⟨hx, hb, hml, hown, hts⟩ (k_canBeTold l dC dI x (by omega)) (va_cwS 1 hts (tb_S mlC_50 smC_canBeTold iniC coC_canBeTold) rfl rfl rfl (by decide +kernel) (by subst hR; exact ⟨Nat.le_of_ble_eq_true rfl, Nat.le_of_ble_eq_true rfl⟩)) ⟨fun a9 U9 g9 mk9 q9 => q9, fun U hU hW => ⟨rfl, trivial⟩⟩ rfl rfl hl.1 rfl (lv_room (Nat.le_of_ble_eq_true rfl)) dC_add_2 ⟨by subst hR; exact Nat.zero_le _, by subst hR; exact Nat.zero_le _⟩) (fun r_2 hw_2 => ?_)
  subst hw_2
  refine xb_if_eq (tgt := 16) hx hb dC_add_5 (by decide) (fun c_5 => ?_) (fun c_5 => ?_)
  · skip
    subst hQ
    exact vx_throwS (A := A) (own := RC) (cls := IAE) (names := NMS) (ik := 54) (is := 56) (ic := 58) (sa := sa 56) hx hb hlt hown fit_IAE fit_NMS (hts _ (List.mem_cons_of_mem _ clC_54)) (hts _ (List.mem_cons_of_mem _ ini_IAE)) (hXF.str 56 (by decide +kernel)) (xat hts hXF at_IAE ok_IAE) ot_IAE hXF.u hXF.n hS (hl.1.trans hml.symm) dC_add_16 dC_add_19 dC_add_20 dC_add_22 dC_add_25 (fun x9 h9 => (htb x9 h9).elim) (by subst hR; exact Nat.le_of_ble_eq_true rfl) (by subst hR; exact Nat.le_of_ble_eq_true rfl) (by subst hR; exact Nat.le_of_ble_eq_true rfl) (by subst hR; exact Nat.le_of_ble_eq_true rfl) hlocks (xt_X (Or.inl ⟨rfl, by unfold fA; rw [if_neg (fun h => of_decide_eq_false c_5 h.1)]⟩) hP hK hS) hS.2.2 (Nat.le_of_ble_eq_true rfl) (Nat.le_of_ble_eq_true rfl)
  · skip
    refine lv_iload_n hx hb dC_add_8 rfl (lv_at hl 2 rfl) ?_
    refine xl_i2l hx hb dC_add_9 (by omega) ?_
    refine vp_callSi (W.runS (As := [.long (lI y)]) (rest := []) ⟨hx, hb, hml, hown, hts⟩ (k_canBeTold l dC dI y (by omega)) (va_cwS 1 hts (tb_S mlC_50 smC_canBeTold iniC coC_canBeTold) rfl rfl rfl (by decide +kernel) (by subst hR; exact ⟨Nat.le_of_ble_eq_true rfl, Nat.le_of_ble_eq_true rfl⟩)) ⟨fun a9 U9 g9 mk9 q9 => q9, fun U hU hW => ⟨rfl, trivial⟩⟩ rfl rfl hl.1 rfl (lv_room (Nat.le_of_ble_eq_true rfl)) dC_add_10 ⟨by subst hR; exact Nat.zero_le _, by subst hR; exact Nat.zero_le _⟩) (fun r_10 hw_10 => ?_)
    subst hw_10
    refine xb_if_ne (tgt := 26) hx hb dC_add_13 (by decide) (fun c_13 => ?_) (fun c_13 => ?_)
    · skip
      refine lv_aload_n hx hb dC_add_26 rfl (lv_at hl 0 rfl) ?_
      refine va_get (D := (dC, dI)) (ci := 2) (v := .int (iI np)) (C := RC) (T := TC) (N := 10) hx hb hts (fun w9 h9 => List.mem_cons_of_mem _ (inC w9 h9)) hown hK hP 0 rfl rfl 7 (by decide) (hts _ (List.mem_cons_of_mem _ flC_40)) (fun _ h9 => h9) rfl dC_add_27 ?_
      refine lv_sipush (v := iI 512) hx hb dC_add_30 (by decide +kernel) ?_
      refine xi_icmp_lt (tgt := 46) hx hb dC_add_33 (by decide) (by omega) (by omega) (fun c_33 => ?_) (fun c_33 => ?_)
      · skip
        refine lv_aload_n hx hb dC_add_46 rfl (lv_at hl 0 rfl) ?_
        refine va_get (D := (dC, dI)) (ci := 2) (v := .ref (ad 1)) (C := RC) (T := TC) (N := 10) hx hb hts (fun w9 h9 => List.mem_cons_of_mem _ (inC w9 h9)) hown hK hP 0 rfl rfl 0 (by decide) (hts _ (List.mem_cons_of_mem _ flC_9)) (fun _ h9 => h9) rfl dC_add_47 ?_
        refine lv_aload_n hx hb dC_add_50 rfl (lv_at hl 0 rfl) ?_
        refine va_get (D := (dC, dI)) (ci := 2) (v := .int (iI np)) (C := RC) (T := TC) (N := 10) hx hb hts (fun w9 h9 => List.mem_cons_of_mem _ (inC w9 h9)) hown hK hP 0 rfl rfl 7 (by decide) (hts _ (List.mem_cons_of_mem _ flC_40)) (fun _ h9 => h9) rfl dC_add_51 ?_
        refine lv_iload_n hx hb dC_add_54 rfl (lv_at hl 1 rfl) ?_
        refine xa_iast (z := np) (v := x) hx hb hK hP hD hS 1 0 rfl rfl (by decide) (by omega) dC_add_55 (fun H locs hP hD hS => ?_)
        have hP : va_P (dC, dI) vwCl ((cW ad cs nc np op par (up X np x) Y O PQ Wd pw pf pu ps) ++ va_pl LP (pG G)) H := hP
        have hD : va_D A ((cW ad cs nc np op par (up X np x) Y O PQ Wd pw pf pu ps) ++ va_pl LP (pG G)) := hD
        refine lv_aload_n hx hb dC_add_56 rfl (lv_at hl 0 rfl) ?_
        refine va_get (D := (dC, dI)) (ci := 2) (v := .ref (ad 2)) (C := RC) (T := TC) (N := 10) hx hb hts (fun w9 h9 => List.mem_cons_of_mem _ (inC w9 h9)) hown hK hP 0 rfl rfl 1 (by decide) (hts _ (List.mem_cons_of_mem _ flC_13)) (fun _ h9 => h9) rfl dC_add_57 ?_
        refine lv_aload_n hx hb dC_add_60 rfl (lv_at hl 0 rfl) ?_
        refine va_get (D := (dC, dI)) (ci := 2) (v := .int (iI np)) (C := RC) (T := TC) (N := 10) hx hb hts (fun w9 h9 => List.mem_cons_of_mem _ (inC w9 h9)) hown hK hP 0 rfl rfl 7 (by decide) (hts _ (List.mem_cons_of_mem _ flC_40)) (fun _ h9 => h9) rfl dC_add_61 ?_
        refine lv_iload_n hx hb dC_add_64 rfl (lv_at hl 2 rfl) ?_
        refine xa_iast (z := np) (v := y) hx hb hK hP hD hS 2 1 rfl rfl (by decide) (by omega) dC_add_65 (fun H locs hP hD hS => ?_)
        have hP : va_P (dC, dI) vwCl ((cW ad cs nc np op par (up X np x) (up Y np y) O PQ Wd pw pf pu ps) ++ va_pl LP (pG G)) H := hP
        have hD : va_D A ((cW ad cs nc np op par (up X np x) (up Y np y) O PQ Wd pw pf pu ps) ++ va_pl LP (pG G)) := hD
        refine lv_aload_n hx hb dC_add_66 rfl (lv_at hl 0 rfl) ?_
        refine va_get (D := (dC, dI)) (ci := 2) (v := .ref (ad 3)) (C := RC) (T := TC) (N := 10) hx hb hts (fun w9 h9 => List.mem_cons_of_mem _ (inC w9 h9)) hown hK hP 0 rfl rfl 2 (by decide) (hts _ (List.mem_cons_of_mem _ flC_16)) (fun _ h9 => h9) rfl dC_add_67 ?_
        refine lv_aload_n hx hb dC_add_70 rfl (lv_at hl 0 rfl) ?_
        refine va_get (D := (dC, dI)) (ci := 2) (v := .int (iI np)) (C := RC) (T := TC) (N := 10) hx hb hts (fun w9 h9 => List.mem_cons_of_mem _ (inC w9 h9)) hown hK hP 0 rfl rfl 7 (by decide) (hts _ (List.mem_cons_of_mem _ flC_40)) (fun _ h9 => h9) rfl dC_add_71 ?_
        refine lv_iload_n hx hb dC_add_74 rfl (lv_at hl 3 rfl) ?_
        refine xa_zast (z := np) (v := on) hx hb hK hP hD hS 3 2 rfl rfl (by decide) (by omega) dC_add_75 (fun H locs hP hD hS => ?_)
        have hP : va_P (dC, dI) vwCl ((cW ad cs nc np op par (up X np x) (up Y np y) (up O np on) PQ Wd pw pf pu ps) ++ va_pl LP (pG G)) H := hP
        have hD : va_D A ((cW ad cs nc np op par (up X np x) (up Y np y) (up O np on) PQ Wd pw pf pu ps) ++ va_pl LP (pG G)) := hD
        refine lv_aload_n hx hb dC_add_76 rfl (lv_at hl 0 rfl) ?_
        refine lv_dup hx hb dC_add_77 rfl ?_
        refine va_get (D := (dC, dI)) (ci := 2) (v := .int (iI np)) (C := RC) (T := TC) (N := 10) hx hb hts (fun w9 h9 => List.mem_cons_of_mem _ (inC w9 h9)) hown hK hP 0 rfl rfl 7 (by decide) (hts _ (List.mem_cons_of_mem _ flC_40)) (fun _ h9 => h9) rfl dC_add_78 ?_
        refine xi_iconst hx hb dC_add_81 ?_
        refine xi_add (z := np + 1) hx hb dC_add_82 rfl ?_
        refine va_put (D := (dC, dI)) (ci := 2) (v := .int (iI (np + 1))) (ty := .int) (C := RC) (T := TC) (N := 10) hx hb hts (fun w9 h9 => List.mem_cons_of_mem _ (inC w9 h9)) tyC tyC_ok nmC hown hK hP hD hS 0 rfl rfl 7 (by decide) (hts _ (List.mem_cons_of_mem _ flC_40)) (fun _ h9 => h9) rfl (by decide +kernel) rfl rfl (Nat.le_of_ble_eq_true rfl) dC_add_83 (fun H locs hP hD hS => ?_)
        have hP : va_P (dC, dI) vwCl ((cW ad cs nc (np + 1) op par (up X np x) (up Y np y) (up O np on) PQ Wd pw pf pu ps) ++ va_pl LP (pG G)) H := hP
        have hD : va_D A ((cW ad cs nc (np + 1) op par (up X np x) (up Y np y) (up O np on) PQ Wd pw pf pu ps) ++ va_pl LP (pG G)) := hD
        refine lv_aload_n hx hb dC_add_86 rfl (lv_at hl 0 rfl) ?_
        refine va_get (D := (dC, dI)) (ci := 2) (v := .int (iI (np + 1))) (C := RC) (T := TC) (N := 10) hx hb hts (fun w9 h9 => List.mem_cons_of_mem _ (inC w9 h9)) hown hK hP 0 rfl rfl 7 (by decide) (hts _ (List.mem_cons_of_mem _ flC_40)) (fun _ h9 => h9) rfl dC_add_87 ?_
        refine lv_aload_n hx hb dC_add_90 rfl (lv_at hl 0 rfl) ?_
        refine va_get (D := (dC, dI)) (ci := 2) (v := .int (iI op)) (C := RC) (T := TC) (N := 10) hx hb hts (fun w9 h9 => List.mem_cons_of_mem _ (inC w9 h9)) hown hK hP 0 rfl rfl 8 (by decide) (hts _ (List.mem_cons_of_mem _ flC_43)) (fun _ h9 => h9) rfl dC_add_91 ?_
        refine xi_sub (z := (np + 1) - op) hx hb dC_add_94 rfl ?_
        subst hQ
        refine vx_ret ?_
        refine W.widen (k := 1) (n := 6) (by omega) (by omega) ?_
        exact W.iret (v := (iI ((np + 1) - op))) hx hb hr (fun t9 ht9 hW9 => ⟨⟨_, (), rfl, (⟨by unfold fA; rw [if_pos ⟨of_decide_eq_true c_5, of_decide_eq_true c_13⟩, if_neg (by omega)], rfl⟩), by rw [ht9]; exact hP, va_K.moved hW9.alike hK, hD⟩, hS.F ht9⟩) hS.2.2 dC_add_95
      · skip
        subst hQ
        exact vx_throwS (A := A) (own := RC) (cls := ISE) (names := NMS) (ik := 61) (is := 63) (ic := 65) (sa := sa 63) hx hb hlt hown fit_ISE fit_NMS (hts _ (List.mem_cons_of_mem _ clC_61)) (hts _ (List.mem_cons_of_mem _ ini_ISE)) (hXF.str 63 (by decide +kernel)) (xat hts hXF at_ISE ok_ISE) ot_ISE hXF.u hXF.n hS (hl.1.trans hml.symm) dC_add_36 dC_add_39 dC_add_40 dC_add_42 dC_add_45 (fun x9 h9 => (htb x9 h9).elim) (by subst hR; exact Nat.le_of_ble_eq_true rfl) (by subst hR; exact Nat.le_of_ble_eq_true rfl) (by subst hR; exact Nat.le_of_ble_eq_true rfl) (by subst hR; exact Nat.le_of_ble_eq_true rfl) hlocks (xt_X (Or.inr ⟨rfl, by unfold fA; rw [if_pos ⟨of_decide_eq_true c_5, of_decide_eq_true c_13⟩, if_pos (by omega)]⟩) hP hK hS) hS.2.2 (Nat.le_of_ble_eq_true rfl) (Nat.le_of_ble_eq_true rfl)
    · skip
      subst hQ
      exact vx_throwS (A := A) (own := RC) (cls := IAE) (names := NMS) (ik := 54) (is := 56) (ic := 58) (sa := sa 56) hx hb hlt hown fit_IAE fit_NMS (hts _ (List.mem_cons_of_mem _ clC_54)) (hts _ (List.mem_cons_of_mem _ ini_IAE)) (hXF.str 56 (by decide +kernel)) (xat hts hXF at_IAE ok_IAE) ot_IAE hXF.u hXF.n hS (hl.1.trans hml.symm) dC_add_16 dC_add_19 dC_add_20 dC_add_22 dC_add_25 (fun x9 h9 => (htb x9 h9).elim) (by subst hR; exact Nat.le_of_ble_eq_true rfl) (by subst hR; exact Nat.le_of_ble_eq_true rfl) (by subst hR; exact Nat.le_of_ble_eq_true rfl) (by subst hR; exact Nat.le_of_ble_eq_true rfl) hlocks (xt_X (Or.inl ⟨rfl, by unfold fA; rw [if_neg (fun h => of_decide_eq_false c_13 h.2)]⟩) hP hK hS) hS.2.2 (Nat.le_of_ble_eq_true rfl) (Nat.le_of_ble_eq_true rfl)
set_option maxHeartbeats 4000000 in
set_option maxRecDepth 100000 in
/-- winding -/
theorem k_winding (l : Launch) (hlt : l.stackTraces = false) (sa : Nat → Nat) (dC : Nat → ClassId) (dI : Nat → Nat → Nat) (ad : Nat → Nat) (cs : Nat → ClassId) (sz : Nat) (LP : List Nat) (G : Nat → PD) (nc np op : Int) (par : Bool) (X Y : Int → Int) (O : Int → Bool) (PQ : Int → Option Nat) (Wd : Int → Int) (pw pf pu ps : Int) (x y : Int) (hop : 0 ≤ op ∧ op ≤ 512) (hG : cOk LP G PQ op) (hx0 : -2147483648 ≤ x ∧ x ≤ 2147483647) (hy0 : -2147483648 ≤ y ∧ y ≤ 2147483647) : vx_Met l yC_winding wC_winding ({ frames := 6, cells := 1, slots := 6, locals := 104 }) (va_Pc [.ref (ad 0), .int (iI x), .int (iI y)] (fun U => U.heap.size = sz ∧ va_P (dC, dI) vwCl ((cW ad cs nc np op par X Y O PQ Wd pw pf pu ps) ++ va_pl LP (pG G)) U.heap ∧ va_K (dC, dI) vwCl (cT cs) U ∧ va_D (fun _ => True) ((cW ad cs nc np op par X Y O PQ Wd pw pf pu ps) ++ va_pl LP (pG G)) ∧ xFk (va_A ((cW ad cs nc np op par X Y O PQ Wd pw pf pu ps) ++ va_pl LP (pG G)) sz) sa U)) (va_Qi (fun (r : Int32) (u : (Int → Int) × Int × Int × Int × Int) => fW x y = 0 ∧ r = iI (wC PQ G op x y)) (fun (u : (Int → Int) × Int × Int × Int × Int) t9 => va_P (dC, dI) vwCl ((cW ad cs nc np op par X Y O PQ u.1 u.2.1 u.2.2.1 u.2.2.2.1 u.2.2.2.2) ++ va_pl LP (pG G)) t9.heap ∧ va_K (dC, dI) vwCl (cT cs) t9 ∧ va_D (va_A ((cW ad cs nc np op par X Y O PQ Wd pw pf pu ps) ++ va_pl LP (pG G)) sz) ((cW ad cs nc np op par X Y O PQ u.1 u.2.1 u.2.2.1 u.2.2.2.1 u.2.2.2.2) ++ va_pl LP (pG G))) (va_A ((cW ad cs nc np op par X Y O PQ Wd pw pf pu ps) ++ va_pl LP (pG G)) sz)) (vx_X (S := Unit) (fun _ => True) (fun E9 _ t9 => (E9 = IAE ∧ fW x y = 1) ∧ va_P (dC, dI) vwCl ((cW ad cs nc np op par X Y O PQ Wd pw pf pu ps) ++ va_pl LP (pG G)) t9.heap ∧ va_K (dC, dI) vwCl (cT cs) t9) (va_A ((cW ad cs nc np op par X Y O PQ Wd pw pf pu ps) ++ va_pl LP (pG G)) sz)) 1 6 (va_A ((cW ad cs nc np op par X Y O PQ Wd pw pf pu ps) ++ va_pl LP (pG G)) sz) := by
  refine vx_ofW (cc := cC_winding) (maxL := 3) (ret := (some .int)) (by decide) rfl ?_
  intro p e s m args below meth c s₁ B hml htb hv
  obtain ⟨hargs, hsz, hP, hK, hD0, hXF⟩ := hv
  have hx := B.exec
  have hb := B.bytes
  have hr := B.returns
  have hts := atoms_spec (ws := wC_winding) B.pre
  have hown : s.vm.findClass RC = some m.cls := findClass_of_methodNamed B.named
  have hlocks := B.notSynchronized
  subst hsz
  have hD := hD0.self (sz := s.heap.size)
  generalize hAe : va_A ((cW ad cs nc np op par X Y O PQ Wd pw pf pu ps) ++ va_pl LP (pG G)) s.heap.size = A at hD hXF ⊢
  have hA : ∀ q : Nat, s.heap.size ≤ q → A q := fun q h => by rw [← hAe]; exact Or.inr h
  have hS0 : va_S A s.heap s.heap [] := va_S.rf
  refine x_name (fun R Q H locs hR hQ hH hlo => ?_)
  rw [← hH] at hP
  have hS : va_S A s.heap H locs := by rw [hH, hlo]; exact hS0
  refine x_entry hargs (Nat.le_of_ble_eq_true rfl) (fun ls hl => ?_)
  have hl : lv_has ls 3 [(0, .ref (ad 0)), (1, .int (iI x)), (2, .int (iI y))] := hl
  have hP : va_P (dC, dI) vwCl ((cW ad cs nc np op par X Y O PQ Wd pw pf pu ps) ++ va_pl LP (pG G)) H := hP
  refine lv_iload_n hx hb dC_winding_0 rfl (lv_at hl 1 rfl) ?_
  refine vp_callSi (W.runS (As := [.int (iI x)]) (rest := []) ⟨hx, hb, hml, hown, hts⟩ (k_canBeAsked l dC dI x (by omega)) (va_cwS 1 hts (tb_S mlC_88 smC_canBeAsked iniC coC_canBeAsked) rfl rfl rfl (by decide +kernel) (by subst hR; exact ⟨Nat.le_of_ble_eq_true rfl, Nat.le_of_ble_eq_true rfl⟩)) ⟨fun a9 U9 g9 mk9 q9 => q9, fun U hU hW => ⟨rfl, trivial⟩⟩ rfl rfl hl.1 rfl (lv_room (Nat.le_of_ble_eq_true rfl)) dC_winding_1 ⟨by subst hR; exact Nat.zero_le _, by subst hR; exact Nat.zero_le _⟩) (fun r_1 hw_1 => ?_)
  subst hw_1
  refine xb_if_eq (tgt := 14) hx hb dC_winding_4 (by decide) (fun c_4 => ?_) (fun c_4 => ?_)
  · skip
    subst hQ
    exact vx_throwS (A := A) (own := RC) (cls := IAE) (names := NMS) (ik := 54) (is := 92) (ic := 58) (sa := sa 92) hx hb hlt hown fit_IAE fit_NMS (hts _ (List.mem_cons_of_mem _ clC_54)) (hts _ (List.mem_cons_of_mem _ ini_IAE)) (hXF.str 92 (by decide +kernel)) (xat hts hXF at_IAE ok_IAE) ot_IAE hXF.u hXF.n hS (hl.1.trans hml.symm) dC_winding_14 dC_winding_17 dC_winding_18 dC_winding_20 dC_winding_23 (fun x9 h9 => (htb x9 h9).elim) (by subst hR; exact Nat.le_of_ble_eq_true rfl) (by subst hR; exact Nat.le_of_ble_eq_true rfl) (by subst hR; exact Nat.le_of_ble_eq_true rfl) (by subst hR; exact Nat.le_of_ble_eq_true rfl) hlocks (xt_X (⟨rfl, by (unfold fW; have := of_decide_eq_false c_4; rw [if_pos (by omega)])⟩) hP hK hS) hS.2.2 (Nat.le_of_ble_eq_true rfl) (Nat.le_of_ble_eq_true rfl)
  · skip
    refine lv_iload_n hx hb dC_winding_7 rfl (lv_at hl 2 rfl) ?_
    refine vp_callSi (W.runS (As := [.int (iI y)]) (rest := []) ⟨hx, hb, hml, hown, hts⟩ (k_canBeAsked l dC dI y (by omega)) (va_cwS 1 hts (tb_S mlC_88 smC_canBeAsked iniC coC_canBeAsked) rfl rfl rfl (by decide +kernel) (by subst hR; exact ⟨Nat.le_of_ble_eq_true rfl, Nat.le_of_ble_eq_true rfl⟩)) ⟨fun a9 U9 g9 mk9 q9 => q9, fun U hU hW => ⟨rfl, trivial⟩⟩ rfl rfl hl.1 rfl (lv_room (Nat.le_of_ble_eq_true rfl)) dC_winding_8 ⟨by subst hR; exact Nat.zero_le _, by subst hR; exact Nat.zero_le _⟩) (fun r_8 hw_8 => ?_)
    subst hw_8
    refine xb_if_ne (tgt := 24) hx hb dC_winding_11 (by decide) (fun c_11 => ?_) (fun c_11 => ?_)
    · skip
      have b1 := of_decide_eq_true c_4
      have b2 := of_decide_eq_true c_11
      refine lv_aload_n hx hb dC_winding_24 rfl (lv_at hl 0 rfl) ?_
      refine lv_iload_n hx hb dC_winding_25 rfl (lv_at hl 2 rfl) ?_
      refine lv_iload_n hx hb dC_winding_26 rfl (lv_at hl 1 rfl) ?_
      refine xi_iconst hx hb dC_winding_27 ?_
      refine xi_iconst hx hb dC_winding_28 ?_
      have hFc := xw_free hD hS hA
      refine va_callv (va_runV (As := [.int (iI y), .int (iI x), .int (iI 1), .int (iI 1)]) (rest := []) ⟨hx, hb, hml, hown, hts⟩ (k_wind l dC dI ad cs H.size LP G nc np op par X Y O PQ Wd pw pf pu ps y x 1 1 hop hG (by omega) (by omega) (by omega) (by omega)) (cwV 4 hts (tb_V mlC_94 imC_wind seC_wind iniC coC_wind) rfl rfl rfl (by decide +kernel) (by subst hR; exact ⟨Nat.le_of_ble_eq_true rfl, Nat.le_of_ble_eq_true rfl⟩)) ⟨fun a9 U9 g9 mk9 q9 => by obtain ⟨q0, q1, qP, qK, qD⟩ := q9; exact ⟨q0, q1, qP, va_K.moved (u := U9) (U := U9.calling g9 mk9 a9) (Vm.Alike.refl U9.vm) qK, qD⟩, va_recv hK hP (ci := 2) (q0 := 0) rfl rfl, fun U hU hW => ⟨rfl, by rw [hU], by rw [hU]; exact hP, va_K.moved hW.alike hK, hD.weaken (fun _ _ _ _ => trivial)⟩⟩ rfl rfl hl.1 rfl (lv_room (Nat.le_of_ble_eq_true rfl)) dC_winding_29 ⟨by subst hR; exact Nat.le_of_ble_eq_true rfl, by subst hR; exact Nat.le_of_ble_eq_true rfl⟩) hS (fun q9 _ h9 => hFc q9 h9) hFc (fun u_29 t9 H1 locs1 ht9 hvm9 hw_29 hB9 hz9 hk9 hS1 => ?_)
      obtain ⟨hP1, hK1, hD1⟩ := hB9
      rw [ht9] at hP1
      have hP : va_P (dC, dI) vwCl ((cW ad cs nc np op par X Y O PQ u_29.1 u_29.2.1 u_29.2.2.1 u_29.2.2.2.1 u_29.2.2.2.2) ++ va_pl LP (pG G)) H1 := hP1
      have hD : va_D A ((cW ad cs nc np op par X Y O PQ u_29.1 u_29.2.1 u_29.2.2.1 u_29.2.2.2.1 u_29.2.2.2.2) ++ va_pl LP (pG G)) := hD1.weaken (fun _ _ _ h9 => hFc _ h9)
      clear hP1 hD1 hK1 hFc
      have hS := hS1
      clear hS1 hz9 hk9 ht9 hvm9
      revert hP hD hS; generalize H1 = H; generalize locs1 = locs; intro hP hD hS
      have w9 := hw_29 0 (by omega) (by omega)
      rw [show x + 1 * 0 = x by omega] at w9
      refine lv_aload_n hx hb dC_winding_32 rfl (lv_at hl 0 rfl) ?_
      refine va_get (D := (dC, dI)) (ci := 2) (v := .ref (ad 5)) (C := RC) (T := TC) (N := 10) hx hb hts (fun w9 h9 => List.mem_cons_of_mem _ (inC w9 h9)) hown hK hP 0 rfl rfl 4 (by decide) (hts _ (List.mem_cons_of_mem _ flC_26)) (fun _ h9 => h9) rfl dC_winding_33 ?_
      refine xi_iconst hx hb dC_winding_36 ?_
      refine xa_iald hx hb hK hP 5 4 rfl rfl (by decide) (by omega) dC_winding_37 ?_
      subst hQ
      refine vx_ret ?_
      refine W.widen (k := 1) (n := 6) (by omega) (by omega) ?_
      exact W.iret (v := (iI (u_29.1 0))) hx hb hr (fun t9 ht9 hW9 => ⟨⟨_, (u_29.1, u_29.2.1, u_29.2.2.1, u_29.2.2.2.1, u_29.2.2.2.2), rfl, (⟨by unfold fW; rw [if_neg (by omega)], by rw [w9]⟩), by rw [ht9]; exact hP, va_K.moved hW9.alike hK, hD⟩, hS.F ht9⟩) hS.2.2 dC_winding_38
    · skip
      subst hQ
      exact vx_throwS (A := A) (own := RC) (cls := IAE) (names := NMS) (ik := 54) (is := 92) (ic := 58) (sa := sa 92) hx hb hlt hown fit_IAE fit_NMS (hts _ (List.mem_cons_of_mem _ clC_54)) (hts _ (List.mem_cons_of_mem _ ini_IAE)) (hXF.str 92 (by decide +kernel)) (xat hts hXF at_IAE ok_IAE) ot_IAE hXF.u hXF.n hS (hl.1.trans hml.symm) dC_winding_14 dC_winding_17 dC_winding_18 dC_winding_20 dC_winding_23 (fun x9 h9 => (htb x9 h9).elim) (by subst hR; exact Nat.le_of_ble_eq_true rfl) (by subst hR; exact Nat.le_of_ble_eq_true rfl) (by subst hR; exact Nat.le_of_ble_eq_true rfl) (by subst hR; exact Nat.le_of_ble_eq_true rfl) hlocks (xt_X (⟨rfl, by (unfold fW; have := of_decide_eq_false c_11; rw [if_pos (by omega)])⟩) hP hK hS) hS.2.2 (Nat.le_of_ble_eq_true rfl) (Nat.le_of_ble_eq_true rfl)
set_option maxHeartbeats 4000000 in
set_option maxRecDepth 100000 in
/-- row -/
theorem k_row (l : Launch) (hlt : l.stackTraces = false) (sa : Nat → Nat) (dC : Nat → ClassId) (dI : Nat → Nat → Nat) (ad : Nat → Nat) (cs : Nat → ClassId) (sz : Nat) (LP : List Nat) (G : Nat → PD) (nc np op : Int) (par : Bool) (X Y : Int → Int) (O : Int → Bool) (PQ : Int → Option Nat) (Wd : Int → Int) (pw pf pu ps : Int) (q : Int) (hop : 0 ≤ op ∧ op ≤ 512) (hG : cOk LP G PQ op) (hq0 : -2147483648 ≤ q ∧ q ≤ 2147483647) : vx_Met l yC_row wC_row ({ frames := 6, cells := 1, slots := 6, locals := 128 }) (va_Pc [.ref (ad 0), .int (iI q)] (fun U => U.heap.size = sz ∧ va_P (dC, dI) vwCl ((cW ad cs nc np op par X Y O PQ Wd pw pf pu ps) ++ va_pl LP (pG G)) U.heap ∧ va_K (dC, dI) vwCl (cT cs) U ∧ va_D (fun _ => True) ((cW ad cs nc np op par X Y O PQ Wd pw pf pu ps) ++ va_pl LP (pG G)) ∧ xFk (va_A ((cW ad cs nc np op par X Y O PQ Wd pw pf pu ps) ++ va_pl LP (pG G)) sz) sa U)) (va_Ql (fun (r : Int64) (u : (Int → Int) × Int × Int × Int × Int) => fR q = 0 ∧ r = lN (bitsF (pxC PQ G op par q) 64)) (fun (u : (Int → Int) × Int × Int × Int × Int) t9 => va_P (dC, dI) vwCl ((cW ad cs nc np op par X Y O PQ u.1 u.2.1 u.2.2.1 u.2.2.2.1 u.2.2.2.2) ++ va_pl LP (pG G)) t9.heap ∧ va_K (dC, dI) vwCl (cT cs) t9 ∧ va_D (va_A ((cW ad cs nc np op par X Y O PQ Wd pw pf pu ps) ++ va_pl LP (pG G)) sz) ((cW ad cs nc np op par X Y O PQ u.1 u.2.1 u.2.2.1 u.2.2.2.1 u.2.2.2.2) ++ va_pl LP (pG G))) (va_A ((cW ad cs nc np op par X Y O PQ Wd pw pf pu ps) ++ va_pl LP (pG G)) sz)) (vx_X (S := Unit) (fun _ => True) (fun E9 _ t9 => (E9 = IOB ∧ fR q = 1) ∧ va_P (dC, dI) vwCl ((cW ad cs nc np op par X Y O PQ Wd pw pf pu ps) ++ va_pl LP (pG G)) t9.heap ∧ va_K (dC, dI) vwCl (cT cs) t9) (va_A ((cW ad cs nc np op par X Y O PQ Wd pw pf pu ps) ++ va_pl LP (pG G)) sz)) 1 6 (va_A ((cW ad cs nc np op par X Y O PQ Wd pw pf pu ps) ++ va_pl LP (pG G)) sz) := by
  refine vx_ofW (cc := cC_row) (maxL := 2) (ret := (some .long)) (by decide) rfl ?_
  intro p e s m args below meth c s₁ B hml htb hv
  obtain ⟨hargs, hsz, hP, hK, hD0, hXF⟩ := hv
  have hx := B.exec
  have hb := B.bytes
  have hr := B.returns
  have hts := atoms_spec (ws := wC_row) B.pre
  have hown : s.vm.findClass RC = some m.cls := findClass_of_methodNamed B.named
  have hlocks := B.notSynchronized
  subst hsz
  have hD := hD0.self (sz := s.heap.size)
  generalize hAe : va_A ((cW ad cs nc np op par X Y O PQ Wd pw pf pu ps) ++ va_pl LP (pG G)) s.heap.size = A at hD hXF ⊢
  have hA : ∀ q : Nat, s.heap.size ≤ q → A q := fun q h => by rw [← hAe]; exact Or.inr h
  have hS0 : va_S A s.heap s.heap [] := va_S.rf
  refine x_name (fun R Q H locs hR hQ hH hlo => ?_)
  rw [← hH] at hP
  have hS : va_S A s.heap H locs := by rw [hH, hlo]; exact hS0
  refine x_entry hargs (Nat.le_of_ble_eq_true rfl) (fun ls hl => ?_)
  have hl : lv_has ls 2 [(0, .ref (ad 0)), (1, .int (iI q))] := hl
  have hP : va_P (dC, dI) vwCl ((cW ad cs nc np op par X Y O PQ Wd pw pf pu ps) ++ va_pl LP (pG G)) H := hP
  refine lv_iload_n hx hb dC_row_0 rfl (lv_at hl 1 rfl) ?_
  refine vp_callSi (W.runS (As := [.int (iI q)]) (rest := []) ⟨hx, hb, hml, hown, hts⟩ (k_isInPicture l dC dI q (by omega)) (va_cwS 1 hts (tb_S mlC_98 smC_isInPicture iniC coC_isInPicture) rfl rfl rfl (by decide +kernel) (by subst hR; exact ⟨Nat.le_of_ble_eq_true rfl, Nat.le_of_ble_eq_true rfl⟩)) ⟨fun a9 U9 g9 mk9 q9 => q9, fun U hU hW => ⟨rfl, trivial⟩⟩ rfl rfl hl.1 rfl (lv_room (Nat.le_of_ble_eq_true rfl)) dC_row_1 ⟨by subst hR; exact Nat.zero_le _, by subst hR; exact Nat.zero_le _⟩) (fun r_1 hw_1 => ?_)
  subst hw_1
  refine xb_if_ne (tgt := 17) hx hb dC_row_4 (by decide) (fun c_4 => ?_) (fun c_4 => ?_)
  · skip
    have b1 := of_decide_eq_true c_4
    have f1 : fR q = 0 := by (unfold fR; rw [if_pos b1])
    refine lv_aload_n hx hb dC_row_17 rfl (lv_at hl 0 rfl) ?_
    refine lv_iload_n hx hb dC_row_18 rfl (lv_at hl 1 rfl) ?_
    have hFc := xw_free hD hS hA
    refine va_calll (va_runV (As := [.int (iI q)]) (rest := []) ⟨hx, hb, hml, hown, hts⟩ (k_rowBits l dC dI ad cs H.size LP G nc np op par X Y O PQ Wd pw pf pu ps q hop hG b1) (cwV 1 hts (tb_V mlC_106 imC_rowBits seC_rowBits iniC coC_rowBits) rfl rfl rfl (by decide +kernel) (by subst hR; exact ⟨Nat.le_of_ble_eq_true rfl, Nat.le_of_ble_eq_true rfl⟩)) ⟨fun a9 U9 g9 mk9 q9 => by obtain ⟨q0, q1, qP, qK, qD⟩ := q9; exact ⟨q0, q1, qP, va_K.moved (u := U9) (U := U9.calling g9 mk9 a9) (Vm.Alike.refl U9.vm) qK, qD⟩, va_recv hK hP (ci := 2) (q0 := 0) rfl rfl, fun U hU hW => ⟨rfl, by rw [hU], by rw [hU]; exact hP, va_K.moved hW.alike hK, hD.weaken (fun _ _ _ _ => trivial)⟩⟩ rfl rfl hl.1 rfl (lv_room (Nat.le_of_ble_eq_true rfl)) dC_row_19 ⟨by subst hR; exact Nat.le_of_ble_eq_true rfl, by subst hR; exact Nat.le_of_ble_eq_true rfl⟩) hS (fun q9 _ h9 => hFc q9 h9) hFc (fun r_19 u_19 t9 H1 locs1 ht9 hvm9 hw_19 hB9 hz9 hk9 hS1 => ?_)
    obtain ⟨hP1, hK1, hD1⟩ := hB9
    rw [ht9] at hP1
    have hP : va_P (dC, dI) vwCl ((cW ad cs nc np op par X Y O PQ u_19.1 u_19.2.1 u_19.2.2.1 u_19.2.2.2.1 u_19.2.2.2.2) ++ va_pl LP (pG G)) H1 := hP1
    have hD : va_D A ((cW ad cs nc np op par X Y O PQ u_19.1 u_19.2.1 u_19.2.2.1 u_19.2.2.2.1 u_19.2.2.2.2) ++ va_pl LP (pG G)) := hD1.weaken (fun _ _ _ h9 => hFc _ h9)
    clear hP1 hD1 hK1 hFc
    have hS := hS1
    clear hS1 hz9 hk9 ht9 hvm9
    revert hP hD hS; generalize H1 = H; generalize locs1 = locs; intro hP hD hS
    obtain ⟨hr_19, hw_19⟩ := hw_19; subst hr_19
    subst hQ
    refine vx_ret ?_
    refine W.widen (k := 1) (n := 6) (by omega) (by omega) ?_
    exact W.lret (v := (lN (bitsF (pxC PQ G op par q) 64))) hx hb hr (fun t9 ht9 hW9 => ⟨⟨_, (u_19.1, u_19.2.1, u_19.2.2.1, u_19.2.2.2.1, u_19.2.2.2.2), rfl, (⟨f1, rfl⟩), by rw [ht9]; exact hP, va_K.moved hW9.alike hK, hD⟩, hS.F ht9⟩) hS.2.2 dC_row_22
  · skip
    subst hQ
    exact vx_throwS (A := A) (own := RC) (cls := IOB) (names := NMS) (ik := 101) (is := 103) (ic := 105) (sa := sa 103) hx hb hlt hown fit_IOB fit_NMS (hts _ (List.mem_cons_of_mem _ clC_101)) (hts _ (List.mem_cons_of_mem _ ini_IOB)) (hXF.str 103 (by decide +kernel)) (xat hts hXF at_IOB ok_IOB) ot_IOB hXF.u hXF.n hS (hl.1.trans hml.symm) dC_row_7 dC_row_10 dC_row_11 dC_row_13 dC_row_16 (fun x9 h9 => (htb x9 h9).elim) (by subst hR; exact Nat.le_of_ble_eq_true rfl) (by subst hR; exact Nat.le_of_ble_eq_true rfl) (by subst hR; exact Nat.le_of_ble_eq_true rfl) (by subst hR; exact Nat.le_of_ble_eq_true rfl) hlocks (xt_X (⟨rfl, by unfold fR; rw [if_neg (of_decide_eq_false c_4)]⟩) hP hK hS) hS.2.2 (Nat.le_of_ble_eq_true rfl) (Nat.le_of_ble_eq_true rfl)
set_option maxHeartbeats 4000000 in
set_option maxRecDepth 100000 in
/-- spans -/
theorem k_spans (l : Launch) (hlt : l.stackTraces = false) (sa : Nat → Nat) (dC : Nat → ClassId) (dI : Nat → Nat → Nat) (ad : Nat → Nat) (cs : Nat → ClassId) (sz : Nat) (LP : List Nat) (G : Nat → PD) (nc np op : Int) (par : Bool) (X Y : Int → Int) (O : Int → Bool) (PQ : Int → Option Nat) (Wd : Int → Int) (pw pf pu ps : Int) (q : Int) (hop : 0 ≤ op ∧ op ≤ 512) (hG : cOk LP G PQ op) (hq0 : -2147483648 ≤ q ∧ q ≤ 2147483647) : vx_Met l yC_spans wC_spans ({ frames := 6, cells := 1, slots := 6, locals := 128 }) (va_Pc [.ref (ad 0), .int (iI q)] (fun U => U.heap.size = sz ∧ va_P (dC, dI) vwCl ((cW ad cs nc np op par X Y O PQ Wd pw pf pu ps) ++ va_pl LP (pG G)) U.heap ∧ va_K (dC, dI) vwCl (cT cs) U ∧ va_D (fun _ => True) ((cW ad cs nc np op par X Y O PQ Wd pw pf pu ps) ++ va_pl LP (pG G)) ∧ xFk (va_A ((cW ad cs nc np op par X Y O PQ Wd pw pf pu ps) ++ va_pl LP (pG G)) sz) sa U)) (va_Qi (fun (r : Int32) (u : (Int → Int) × Int × Int × Int × Int) => fR q = 0 ∧ r = iI (isum (fun x => bz (spS (pxC PQ G op par q) x)) 64)) (fun (u : (Int → Int) × Int × Int × Int × Int) t9 => va_P (dC, dI) vwCl ((cW ad cs nc np op par X Y O PQ u.1 u.2.1 u.2.2.1 u.2.2.2.1 u.2.2.2.2) ++ va_pl LP (pG G)) t9.heap ∧ va_K (dC, dI) vwCl (cT cs) t9 ∧ va_D (va_A ((cW ad cs nc np op par X Y O PQ Wd pw pf pu ps) ++ va_pl LP (pG G)) sz) ((cW ad cs nc np op par X Y O PQ u.1 u.2.1 u.2.2.1 u.2.2.2.1 u.2.2.2.2) ++ va_pl LP (pG G))) (va_A ((cW ad cs nc np op par X Y O PQ Wd pw pf pu ps) ++ va_pl LP (pG G)) sz)) (vx_X (S := Unit) (fun _ => True) (fun E9 _ t9 => (E9 = IOB ∧ fR q = 1) ∧ va_P (dC, dI) vwCl ((cW ad cs nc np op par X Y O PQ Wd pw pf pu ps) ++ va_pl LP (pG G)) t9.heap ∧ va_K (dC, dI) vwCl (cT cs) t9) (va_A ((cW ad cs nc np op par X Y O PQ Wd pw pf pu ps) ++ va_pl LP (pG G)) sz)) 1 6 (va_A ((cW ad cs nc np op par X Y O PQ Wd pw pf pu ps) ++ va_pl LP (pG G)) sz) := by
  refine vx_ofW (cc := cC_spans) (maxL := 2) (ret := (some .int)) (by decide) rfl ?_
  intro p e s m args below meth c s₁ B hml htb hv
  obtain ⟨hargs, hsz, hP, hK, hD0, hXF⟩ := hv
  have hx := B.exec
  have hb := B.bytes
  have hr := B.returns
  have hts := atoms_spec (ws := wC_spans) B.pre
  have hown : s.vm.findClass RC = some m.cls := findClass_of_methodNamed B.named
  have hlocks := B.notSynchronized
  subst hsz
  have hD := hD0.self (sz := s.heap.size)
  generalize hAe : va_A ((cW ad cs nc np op par X Y O PQ Wd pw pf pu ps) ++ va_pl LP (pG G)) s.heap.size = A at hD hXF ⊢
  have hA : ∀ q : Nat, s.heap.size ≤ q → A q := fun q h => by rw [← hAe]; exact Or.inr h
  have hS0 : va_S A s.heap s.heap [] := va_S.rf
  refine x_name (fun R Q H locs hR hQ hH hlo => ?_)
  rw [← hH] at hP
  have hS : va_S A s.heap H locs := by rw [hH, hlo]; exact hS0
  refine x_entry hargs (Nat.le_of_ble_eq_true rfl) (fun ls hl => ?_)
  have hl : lv_has ls 2 [(0, .ref (ad 0)), (1, .int (iI q))] := hl
  have hP : va_P (dC, dI) vwCl ((cW ad cs nc np op par X Y O PQ Wd pw pf pu ps) ++ va_pl LP (pG G)) H := hP
  refine lv_iload_n hx hb dC_spans_0 rfl (lv_at hl 1 rfl) ?_
  refine vp_callSi (W.runS (As := [.int (iI q)]) (rest := []) ⟨hx, hb, hml, hown, hts⟩ (k_isInPicture l dC dI q (by omega)) (va_cwS 1 hts (tb_S mlC_98 smC_isInPicture iniC coC_isInPicture) rfl rfl rfl (by decide +kernel) (by subst hR; exact ⟨Nat.le_of_ble_eq_true rfl, Nat.le_of_ble_eq_true rfl⟩)) ⟨fun a9 U9 g9 mk9 q9 => q9, fun U hU hW => ⟨rfl, trivial⟩⟩ rfl rfl hl.1 rfl (lv_room (Nat.le_of_ble_eq_true rfl)) dC_spans_1 ⟨by subst hR; exact Nat.zero_le _, by subst hR; exact Nat.zero_le _⟩) (fun r_1 hw_1 => ?_)
  subst hw_1
  refine xb_if_ne (tgt := 17) hx hb dC_spans_4 (by decide) (fun c_4 => ?_) (fun c_4 => ?_)
  · skip
    have b1 := of_decide_eq_true c_4
    have f1 : fR q = 0 := by (unfold fR; rw [if_pos b1])
    refine lv_aload_n hx hb dC_spans_17 rfl (lv_at hl 0 rfl) ?_
    refine lv_iload_n hx hb dC_spans_18 rfl (lv_at hl 1 rfl) ?_
    have hFc := xw_free hD hS hA
    refine va_calll (va_runV (As := [.int (iI q)]) (rest := []) ⟨hx, hb, hml, hown, hts⟩ (k_rowBits l dC dI ad cs H.size LP G nc np op par X Y O PQ Wd pw pf pu ps q hop hG b1) (cwV 1 hts (tb_V mlC_106 imC_rowBits seC_rowBits iniC coC_rowBits) rfl rfl rfl (by decide +kernel) (by subst hR; exact ⟨Nat.le_of_ble_eq_true rfl, Nat.le_of_ble_eq_true rfl⟩)) ⟨fun a9 U9 g9 mk9 q9 => by obtain ⟨q0, q1, qP, qK, qD⟩ := q9; exact ⟨q0, q1, qP, va_K.moved (u := U9) (U := U9.calling g9 mk9 a9) (Vm.Alike.refl U9.vm) qK, qD⟩, va_recv hK hP (ci := 2) (q0 := 0) rfl rfl, fun U hU hW => ⟨rfl, by rw [hU], by rw [hU]; exact hP, va_K.moved hW.alike hK, hD.weaken (fun _ _ _ _ => trivial)⟩⟩ rfl rfl hl.1 rfl (lv_room (Nat.le_of_ble_eq_true rfl)) dC_spans_19 ⟨by subst hR; exact Nat.le_of_ble_eq_true rfl, by subst hR; exact Nat.le_of_ble_eq_true rfl⟩) hS (fun q9 _ h9 => hFc q9 h9) hFc (fun r_19 u_19 t9 H1 locs1 ht9 hvm9 hw_19 hB9 hz9 hk9 hS1 => ?_)
    obtain ⟨hP1, hK1, hD1⟩ := hB9
    rw [ht9] at hP1
    have hP : va_P (dC, dI) vwCl ((cW ad cs nc np op par X Y O PQ u_19.1 u_19.2.1 u_19.2.2.1 u_19.2.2.2.1 u_19.2.2.2.2) ++ va_pl LP (pG G)) H1 := hP1
    have hD : va_D A ((cW ad cs nc np op par X Y O PQ u_19.1 u_19.2.1 u_19.2.2.1 u_19.2.2.2.1 u_19.2.2.2.2) ++ va_pl LP (pG G)) := hD1.weaken (fun _ _ _ h9 => hFc _ h9)
    clear hP1 hD1 hK1 hFc
    have hS := hS1
    clear hS1 hz9 hk9 ht9 hvm9
    revert hP hD hS; generalize H1 = H; generalize locs1 = locs; intro hP hD hS
    obtain ⟨hr_19, hw_19⟩ := hw_19; subst hr_19
    refine vp_callSl (W.runS (As := [.long (lN (bitsF (pxC PQ G op par q) 64))]) (rest := []) ⟨hx, hb, hml, hown, hts⟩ (k_firstsOf l dC dI (pxC PQ G op par q)) (va_cwS 1 hts (tb_S mlC_119 smC_firstsOf iniC coC_firstsOf) rfl rfl rfl (by decide +kernel) (by subst hR; exact ⟨Nat.le_of_ble_eq_true rfl, Nat.le_of_ble_eq_true rfl⟩)) ⟨fun a9 U9 g9 mk9 q9 => q9, fun U hU hW => ⟨rfl, trivial⟩⟩ rfl rfl hl.1 rfl (lv_room (Nat.le_of_ble_eq_true rfl)) dC_spans_22 ⟨by subst hR; exact Nat.zero_le _, by subst hR; exact Nat.zero_le _⟩) (fun r_22 hw_22 => ?_)
    subst hw_22
    refine vp_callSi (W.runS (As := [.long (lN (bitsF (spS (pxC PQ G op par q)) 64))]) (rest := []) ⟨hx, hb, hml, hown, hts⟩ (j_bitCount l dC dI (bitsF (spS (pxC PQ G op par q)) 64) (bF_64 _)) (va_cwS 1 hts (tb_S mlC_123 smJL_bitCount iniJL coJL_bitCount) rfl rfl rfl (by decide +kernel) (by subst hR; exact ⟨Nat.le_of_ble_eq_true rfl, Nat.le_of_ble_eq_true rfl⟩)) ⟨fun a9 U9 g9 mk9 q9 => q9, fun U hU hW => ⟨rfl, trivial⟩⟩ rfl rfl hl.1 rfl (lv_room (Nat.le_of_ble_eq_true rfl)) dC_spans_25 ⟨by subst hR; exact Nat.zero_le _, by subst hR; exact Nat.zero_le _⟩) (fun r_25 hw_25 => ?_)
    subst hw_25
    subst hQ
    refine vx_ret ?_
    refine W.widen (k := 1) (n := 6) (by omega) (by omega) ?_
    exact W.iret (v := (iI (pop 64 (bitsF (spS (pxC PQ G op par q)) 64) : Nat))) hx hb hr (fun t9 ht9 hW9 => ⟨⟨_, (u_19.1, u_19.2.1, u_19.2.2.1, u_19.2.2.2.1, u_19.2.2.2.2), rfl, (⟨f1, by rw [pop_bF]⟩), by rw [ht9]; exact hP, va_K.moved hW9.alike hK, hD⟩, hS.F ht9⟩) hS.2.2 dC_spans_28
  · skip
    subst hQ
    exact vx_throwS (A := A) (own := RC) (cls := IOB) (names := NMS) (ik := 101) (is := 103) (ic := 105) (sa := sa 103) hx hb hlt hown fit_IOB fit_NMS (hts _ (List.mem_cons_of_mem _ clC_101)) (hts _ (List.mem_cons_of_mem _ ini_IOB)) (hXF.str 103 (by decide +kernel)) (xat hts hXF at_IOB ok_IOB) ot_IOB hXF.u hXF.n hS (hl.1.trans hml.symm) dC_spans_7 dC_spans_10 dC_spans_11 dC_spans_13 dC_spans_16 (fun x9 h9 => (htb x9 h9).elim) (by subst hR; exact Nat.le_of_ble_eq_true rfl) (by subst hR; exact Nat.le_of_ble_eq_true rfl) (by subst hR; exact Nat.le_of_ble_eq_true rfl) (by subst hR; exact Nat.le_of_ble_eq_true rfl) hlocks (xt_X (⟨rfl, by unfold fR; rw [if_neg (of_decide_eq_false c_4)]⟩) hP hK hS) hS.2.2 (Nat.le_of_ble_eq_true rfl) (Nat.le_of_ble_eq_true rfl)
/-- the class's answer to span -/
def spC (P : Int → Bool) (k : Int) (en : Bool) (z : Int) : Prop := ∃ b : Int, bnP (if en = true then spL P else spS P) k b ∧ z = (if en = true ∧ b ≠ -1 then b + 1 else b)
set_option maxHeartbeats 4000000 in
set_option maxRecDepth 100000 in
/-- span -/
theorem k_span (l : Launch) (hlt : l.stackTraces = false) (sa : Nat → Nat) (dC : Nat → ClassId) (dI : Nat → Nat → Nat) (ad : Nat → Nat) (cs : Nat → ClassId) (sz : Nat) (LP : List Nat) (G : Nat → PD) (nc np op : Int) (par : Bool) (X Y : Int → Int) (O : Int → Bool) (PQ : Int → Option Nat) (Wd : Int → Int) (pw pf pu ps : Int) (q k : Int) (en : Bool) (hop : 0 ≤ op ∧ op ≤ 512) (hG : cOk LP G PQ op) (hq0 : -2147483648 ≤ q ∧ q ≤ 2147483647) (hk0 : -2147483648 ≤ k ∧ k ≤ 2147483647) : vx_Met l yC_span wC_span ({ frames := 6, cells := 1, slots := 6, locals := 128 }) (va_Pc [.ref (ad 0), .int (iI q), .int (iI k), .int (iI (bz en))] (fun U => U.heap.size = sz ∧ va_P (dC, dI) vwCl ((cW ad cs nc np op par X Y O PQ Wd pw pf pu ps) ++ va_pl LP (pG G)) U.heap ∧ va_K (dC, dI) vwCl (cT cs) U ∧ va_D (fun _ => True) ((cW ad cs nc np op par X Y O PQ Wd pw pf pu ps) ++ va_pl LP (pG G)) ∧ xFk (va_A ((cW ad cs nc np op par X Y O PQ Wd pw pf pu ps) ++ va_pl LP (pG G)) sz) sa U)) (va_Qi (fun (r : Int32) (u : (Int → Int) × Int × Int × Int × Int) => fR q = 0 ∧ ∃ z : Int, r = iI z ∧ spC (pxC PQ G op par q) k en z) (fun (u : (Int → Int) × Int × Int × Int × Int) t9 => va_P (dC, dI) vwCl ((cW ad cs nc np op par X Y O PQ u.1 u.2.1 u.2.2.1 u.2.2.2.1 u.2.2.2.2) ++ va_pl LP (pG G)) t9.heap ∧ va_K (dC, dI) vwCl (cT cs) t9 ∧ va_D (va_A ((cW ad cs nc np op par X Y O PQ Wd pw pf pu ps) ++ va_pl LP (pG G)) sz) ((cW ad cs nc np op par X Y O PQ u.1 u.2.1 u.2.2.1 u.2.2.2.1 u.2.2.2.2) ++ va_pl LP (pG G))) (va_A ((cW ad cs nc np op par X Y O PQ Wd pw pf pu ps) ++ va_pl LP (pG G)) sz)) (vx_X (S := Unit) (fun _ => True) (fun E9 _ t9 => (E9 = IOB ∧ fR q = 1) ∧ va_P (dC, dI) vwCl ((cW ad cs nc np op par X Y O PQ Wd pw pf pu ps) ++ va_pl LP (pG G)) t9.heap ∧ va_K (dC, dI) vwCl (cT cs) t9) (va_A ((cW ad cs nc np op par X Y O PQ Wd pw pf pu ps) ++ va_pl LP (pG G)) sz)) 1 6 (va_A ((cW ad cs nc np op par X Y O PQ Wd pw pf pu ps) ++ va_pl LP (pG G)) sz) := by
  refine vx_ofW (cc := cC_span) (maxL := 7) (ret := (some .int)) (by decide) rfl ?_
  intro p e s m args below meth c s₁ B hml htb hv
  obtain ⟨hargs, hsz, hP, hK, hD0, hXF⟩ := hv
  have hx := B.exec
  have hb := B.bytes
  have hr := B.returns
  have hts := atoms_spec (ws := wC_span) B.pre
  have hown : s.vm.findClass RC = some m.cls := findClass_of_methodNamed B.named
  have hlocks := B.notSynchronized
  subst hsz
  have hD := hD0.self (sz := s.heap.size)
  generalize hAe : va_A ((cW ad cs nc np op par X Y O PQ Wd pw pf pu ps) ++ va_pl LP (pG G)) s.heap.size = A at hD hXF ⊢
  have hA : ∀ q : Nat, s.heap.size ≤ q → A q := fun q h => by rw [← hAe]; exact Or.inr h
  have hS0 : va_S A s.heap s.heap [] := va_S.rf
  refine x_name (fun R Q H locs hR hQ hH hlo => ?_)
  rw [← hH] at hP
  have hS : va_S A s.heap H locs := by rw [hH, hlo]; exact hS0
  refine x_entry hargs (Nat.le_of_ble_eq_true rfl) (fun ls hl => ?_)
  have hl : lv_has ls 7 [(0, .ref (ad 0)), (1, .int (iI q)), (2, .int (iI k)), (3, .int (iI (bz en)))] := hl
  have hP : va_P (dC, dI) vwCl ((cW ad cs nc np op par X Y O PQ Wd pw pf pu ps) ++ va_pl LP (pG G)) H := hP
  refine lv_iload_n hx hb dC_span_0 rfl (lv_at hl 1 rfl) ?_
  refine vp_callSi (W.runS (As := [.int (iI q)]) (rest := []) ⟨hx, hb, hml, hown, hts⟩ (k_isInPicture l dC dI q (by omega)) (va_cwS 1 hts (tb_S mlC_98 smC_isInPicture iniC coC_isInPicture) rfl rfl rfl (by decide +kernel) (by subst hR; exact ⟨Nat.le_of_ble_eq_true rfl, Nat.le_of_ble_eq_true rfl⟩)) ⟨fun a9 U9 g9 mk9 q9 => q9, fun U hU hW => ⟨rfl, trivial⟩⟩ rfl rfl hl.1 rfl (lv_room (Nat.le_of_ble_eq_true rfl)) dC_span_1 ⟨by subst hR; exact Nat.zero_le _, by subst hR; exact Nat.zero_le _⟩) (fun r_1 hw_1 => ?_)
  subst hw_1
  refine xb_if_ne (tgt := 17) hx hb dC_span_4 (by decide) (fun c_4 => ?_) (fun c_4 => ?_)
  · skip
    have b1 := of_decide_eq_true c_4
    have f1 : fR q = 0 := by (unfold fR; rw [if_pos b1])
    refine lv_aload_n hx hb dC_span_17 rfl (lv_at hl 0 rfl) ?_
    refine lv_iload_n hx hb dC_span_18 rfl (lv_at hl 1 rfl) ?_
    have hFc := xw_free hD hS hA
    refine va_calll (va_runV (As := [.int (iI q)]) (rest := []) ⟨hx, hb, hml, hown, hts⟩ (k_rowBits l dC dI ad cs H.size LP G nc np op par X Y O PQ Wd pw pf pu ps q hop hG b1) (cwV 1 hts (tb_V mlC_106 imC_rowBits seC_rowBits iniC coC_rowBits) rfl rfl rfl (by decide +kernel) (by subst hR; exact ⟨Nat.le_of_ble_eq_true rfl, Nat.le_of_ble_eq_true rfl⟩)) ⟨fun a9 U9 g9 mk9 q9 => by obtain ⟨q0, q1, qP, qK, qD⟩ := q9; exact ⟨q0, q1, qP, va_K.moved (u := U9) (U := U9.calling g9 mk9 a9) (Vm.Alike.refl U9.vm) qK, qD⟩, va_recv hK hP (ci := 2) (q0 := 0) rfl rfl, fun U hU hW => ⟨rfl, by rw [hU], by rw [hU]; exact hP, va_K.moved hW.alike hK, hD.weaken (fun _ _ _ _ => trivial)⟩⟩ rfl rfl hl.1 rfl (lv_room (Nat.le_of_ble_eq_true rfl)) dC_span_19 ⟨by subst hR; exact Nat.le_of_ble_eq_true rfl, by subst hR; exact Nat.le_of_ble_eq_true rfl⟩) hS (fun q9 _ h9 => hFc q9 h9) hFc (fun r_19 u_19 t9 H1 locs1 ht9 hvm9 hw_19 hB9 hz9 hk9 hS1 => ?_)
    obtain ⟨hP1, hK1, hD1⟩ := hB9
    rw [ht9] at hP1
    have hP : va_P (dC, dI) vwCl ((cW ad cs nc np op par X Y O PQ u_19.1 u_19.2.1 u_19.2.2.1 u_19.2.2.2.1 u_19.2.2.2.2) ++ va_pl LP (pG G)) H1 := hP1
    have hD : va_D A ((cW ad cs nc np op par X Y O PQ u_19.1 u_19.2.1 u_19.2.2.1 u_19.2.2.2.1 u_19.2.2.2.2) ++ va_pl LP (pG G)) := hD1.weaken (fun _ _ _ h9 => hFc _ h9)
    clear hP1 hD1 hK1 hFc
    have hS := hS1
    clear hS1 hz9 hk9 ht9 hvm9
    revert hP hD hS; generalize H1 = H; generalize locs1 = locs; intro hP hD hS
    obtain ⟨hr_19, hw_19⟩ := hw_19; subst hr_19
    refine lv_lstore (lv' := [(4, .long (lN (bitsF (pxC PQ G op par q) 64))), (0, .ref (ad 0)), (1, .int (iI q)), (2, .int (iI k)), (3, .int (iI (bz en)))]) hx hb dC_span_22 hl (by decide) rfl (fun ls hl => ?_)
    have cut_41_1 : ∀ (ls : Array Slot), lv_has ls 7 [(4, .long (lN (bitsF (pxC PQ G op par q) 64))), (0, .ref (ad 0)), (1, .int (iI q)), (2, .int (iI k)), (3, .int (iI (bz en)))] → W p l e R s m args below meth c H locs 0 0 Q (F0 m 41 ls [.long (lN (bitsF (if en = true then spL (pxC PQ G op par q) else spS (pxC PQ G op par q)) 64))]) := by
      intro  ls hl
      refine lv_iload_n hx hb dC_span_41 rfl (lv_at hl 3 rfl) ?_
      refine vp_callSi (W.runS (As := [.long (lN (bitsF (if en = true then spL (pxC PQ G op par q) else spS (pxC PQ G op par q)) 64)), .int (iI k)]) (rest := []) ⟨hx, hb, hml, hown, hts⟩ (k_bitNumber l dC dI (if en = true then spL (pxC PQ G op par q) else spS (pxC PQ G op par q)) k (by omega)) (va_cwS 2 hts (tb_S mlC_132 smC_bitNumber iniC coC_bitNumber) rfl rfl rfl (by decide +kernel) (by subst hR; exact ⟨Nat.le_of_ble_eq_true rfl, Nat.le_of_ble_eq_true rfl⟩)) ⟨fun a9 U9 g9 mk9 q9 => q9, fun U hU hW => ⟨rfl, trivial⟩⟩ rfl rfl hl.1 rfl (lv_room (Nat.le_of_ble_eq_true rfl)) dC_span_42 ⟨by subst hR; exact Nat.zero_le _, by subst hR; exact Nat.zero_le _⟩) (fun r_42 hw_42 => ?_)
      obtain ⟨bn, hbn, hb9⟩ := hw_42; subst hbn
      have b2 : -1 ≤ bn ∧ bn < 64 := by (rcases hb9 with h | h <;> omega)
      refine lv_istore (lv' := [(6, .int (iI bn)), (4, .long (lN (bitsF (pxC PQ G op par q) 64))), (0, .ref (ad 0)), (1, .int (iI q)), (2, .int (iI k)), (3, .int (iI (bz en)))]) hx hb dC_span_45 hl (by decide) rfl (fun ls hl => ?_)
      have cut_66_2 : ∀ (z : Int) (ls : Array Slot), (spC (pxC PQ G op par q) k en z) → lv_has ls 7 [(6, .int (iI bn)), (4, .long (lN (bitsF (pxC PQ G op par q) 64))), (0, .ref (ad 0)), (1, .int (iI q)), (2, .int (iI k)), (3, .int (iI (bz en)))] → W p l e R s m args below meth c H locs 0 0 Q (F0 m 66 ls [.int (iI z)]) := by
        intro z ls hz hl
        subst hQ
        refine vx_ret ?_
        refine W.widen (k := 1) (n := 6) (by omega) (by omega) ?_
        exact W.iret (v := (iI z)) hx hb hr (fun t9 ht9 hW9 => ⟨⟨_, (u_19.1, u_19.2.1, u_19.2.2.1, u_19.2.2.2.1, u_19.2.2.2.2), rfl, (⟨f1, z, rfl, hz⟩), by rw [ht9]; exact hP, va_K.moved hW9.alike hK, hD⟩, hS.F ht9⟩) hS.2.2 dC_span_66
      refine lv_iload_n hx hb dC_span_47 rfl (lv_at hl 5 rfl) ?_
      refine xb_if_eq (tgt := 64) hx hb dC_span_48 (by decide) (fun c_48 => ?_) (fun c_48 => ?_)
      · skip
        refine lv_iload hx hb dC_span_64 (lv_at hl 0 rfl) ?_
        exact cut_66_2 bn _ (⟨bn, hb9, by rw [if_neg (fun h => by rw [c_48] at h; cases h.1)]⟩) (lv_sub hl [0, 1, 2, 3, 4, 5] rfl)
      · skip
        refine lv_iload hx hb dC_span_51 (lv_at hl 0 rfl) ?_
        refine xi_iconst hx hb dC_span_53 ?_
        refine xi_icmp_eq (tgt := 64) hx hb dC_span_54 (by decide) (by omega) (by omega) (fun c_54 => ?_) (fun c_54 => ?_)
        · skip
          refine lv_iload hx hb dC_span_64 (lv_at hl 0 rfl) ?_
          exact cut_66_2 bn _ (⟨bn, hb9, by rw [if_neg (fun h => h.2 c_54)]⟩) (lv_sub hl [0, 1, 2, 3, 4, 5] rfl)
        · skip
          refine lv_iload hx hb dC_span_57 (lv_at hl 0 rfl) ?_
          refine xi_iconst hx hb dC_span_59 ?_
          refine xi_add (z := bn + 1) hx hb dC_span_60 rfl ?_
          refine lv_goto (tgt := 66) hx hb dC_span_61 (by decide) ?_
          exact cut_66_2 (bn + 1) _ (⟨bn, hb9, by rw [if_pos ⟨c_48, c_54⟩]⟩) (lv_sub hl [0, 1, 2, 3, 4, 5] rfl)
    refine lv_iload_n hx hb dC_span_24 rfl (lv_at hl 4 rfl) ?_
    refine xb_if_eq (tgt := 36) hx hb dC_span_25 (by decide) (fun c_25 => ?_) (fun c_25 => ?_)
    · skip
      refine lv_lload hx hb dC_span_36 (lv_at hl 0 rfl) ?_
      refine vp_callSl (W.runS (As := [.long (lN (bitsF (pxC PQ G op par q) 64))]) (rest := []) ⟨hx, hb, hml, hown, hts⟩ (k_firstsOf l dC dI (pxC PQ G op par q)) (va_cwS 1 hts (tb_S mlC_119 smC_firstsOf iniC coC_firstsOf) rfl rfl rfl (by decide +kernel) (by subst hR; exact ⟨Nat.le_of_ble_eq_true rfl, Nat.le_of_ble_eq_true rfl⟩)) ⟨fun a9 U9 g9 mk9 q9 => q9, fun U hU hW => ⟨rfl, trivial⟩⟩ rfl rfl hl.1 rfl (lv_room (Nat.le_of_ble_eq_true rfl)) dC_span_38 ⟨by subst hR; exact Nat.zero_le _, by subst hR; exact Nat.zero_le _⟩) (fun r_38 hw_38 => ?_)
      subst hw_38
      refine xi_top (y := .long (lN (bitsF (if en = true then spL (pxC PQ G op par q) else spS (pxC PQ G op par q)) 64))) (by rw [if_neg (by rw [c_25]; decide)]) ?_
      exact cut_41_1 _ (lv_sub hl [0, 1, 2, 3, 4] rfl)
    · skip
      refine lv_lload hx hb dC_span_28 (lv_at hl 0 rfl) ?_
      refine vp_callSl (W.runS (As := [.long (lN (bitsF (pxC PQ G op par q) 64))]) (rest := []) ⟨hx, hb, hml, hown, hts⟩ (k_lastsOf l dC dI (pxC PQ G op par q)) (va_cwS 1 hts (tb_S mlC_129 smC_lastsOf iniC coC_lastsOf) rfl rfl rfl (by decide +kernel) (by subst hR; exact ⟨Nat.le_of_ble_eq_true rfl, Nat.le_of_ble_eq_true rfl⟩)) ⟨fun a9 U9 g9 mk9 q9 => q9, fun U hU hW => ⟨rfl, trivial⟩⟩ rfl rfl hl.1 rfl (lv_room (Nat.le_of_ble_eq_true rfl)) dC_span_30 ⟨by subst hR; exact Nat.zero_le _, by subst hR; exact Nat.zero_le _⟩) (fun r_30 hw_30 => ?_)
      subst hw_30
      refine lv_goto (tgt := 41) hx hb dC_span_33 (by decide) ?_
      refine xi_top (y := .long (lN (bitsF (if en = true then spL (pxC PQ G op par q) else spS (pxC PQ G op par q)) 64))) (by rw [if_pos c_25]) ?_
      exact cut_41_1 _ (lv_sub hl [0, 1, 2, 3, 4] rfl)
  · skip
    subst hQ
    exact vx_throwS (A := A) (own := RC) (cls := IOB) (names := NMS) (ik := 101) (is := 103) (ic := 105) (sa := sa 103) hx hb hlt hown fit_IOB fit_NMS (hts _ (List.mem_cons_of_mem _ clC_101)) (hts _ (List.mem_cons_of_mem _ ini_IOB)) (hXF.str 103 (by decide +kernel)) (xat hts hXF at_IOB ok_IOB) ot_IOB hXF.u hXF.n hS (hl.1.trans hml.symm) dC_span_7 dC_span_10 dC_span_11 dC_span_13 dC_span_16 (fun x9 h9 => (htb x9 h9).elim) (by subst hR; exact Nat.le_of_ble_eq_true rfl) (by subst hR; exact Nat.le_of_ble_eq_true rfl) (by subst hR; exact Nat.le_of_ble_eq_true rfl) (by subst hR; exact Nat.le_of_ble_eq_true rfl) hlocks (xt_X (⟨rfl, by unfold fR; rw [if_neg (of_decide_eq_false c_4)]⟩) hP hK hS) hS.2.2 (Nat.le_of_ble_eq_true rfl) (Nat.le_of_ble_eq_true rfl)
set_option maxHeartbeats 4000000 in
set_option maxRecDepth 100000 in
/-- share -/
theorem k_share (l : Launch) (hlt : l.stackTraces = false) (sa : Nat → Nat) (dC : Nat → ClassId) (dI : Nat → Nat → Nat) (ad : Nat → Nat) (cs : Nat → ClassId) (sz : Nat) (LP : List Nat) (G : Nat → PD) (nc np op : Int) (par : Bool) (X Y : Int → Int) (O : Int → Bool) (PQ : Int → Option Nat) (Wd : Int → Int) (pw pf pu ps : Int) (x q : Int) (hop : 0 ≤ op ∧ op ≤ 512) (hG : cOk LP G PQ op) (hq0 : -2147483648 ≤ q ∧ q ≤ 2147483647) (hx0 : -2147483648 ≤ x ∧ x ≤ 2147483647) : vx_Met l yC_share wC_share ({ frames := 6, cells := 1, slots := 6, locals := 104 }) (va_Pc [.ref (ad 0), .int (iI x), .int (iI q)] (fun U => U.heap.size = sz ∧ va_P (dC, dI) vwCl ((cW ad cs nc np op par X Y O PQ Wd pw pf pu ps) ++ va_pl LP (pG G)) U.heap ∧ va_K (dC, dI) vwCl (cT cs) U ∧ va_D (fun _ => True) ((cW ad cs nc np op par X Y O PQ Wd pw pf pu ps) ++ va_pl LP (pG G)) ∧ xFk (va_A ((cW ad cs nc np op par X Y O PQ Wd pw pf pu ps) ++ va_pl LP (pG G)) sz) sa U)) (va_Qi (fun (r : Int32) (u : (Int → Int) × Int × Int × Int × Int) => fS x q = 0 ∧ r = iI (isum (fun j => isum (fun i => bz (isin par (wC PQ G op (64 * x + 8 + 16 * i) (64 * (63 - q) + 8 + 16 * j)))) 4) 4)) (fun (u : (Int → Int) × Int × Int × Int × Int) t9 => va_P (dC, dI) vwCl ((cW ad cs nc np op par X Y O PQ u.1 u.2.1 u.2.2.1 u.2.2.2.1 u.2.2.2.2) ++ va_pl LP (pG G)) t9.heap ∧ va_K (dC, dI) vwCl (cT cs) t9 ∧ va_D (va_A ((cW ad cs nc np op par X Y O PQ Wd pw pf pu ps) ++ va_pl LP (pG G)) sz) ((cW ad cs nc np op par X Y O PQ u.1 u.2.1 u.2.2.1 u.2.2.2.1 u.2.2.2.2) ++ va_pl LP (pG G))) (va_A ((cW ad cs nc np op par X Y O PQ Wd pw pf pu ps) ++ va_pl LP (pG G)) sz)) (vx_X (S := Unit) (fun _ => True) (fun E9 _ t9 => (E9 = IOB ∧ fS x q = 1) ∧ va_P (dC, dI) vwCl ((cW ad cs nc np op par X Y O PQ Wd pw pf pu ps) ++ va_pl LP (pG G)) t9.heap ∧ va_K (dC, dI) vwCl (cT cs) t9) (va_A ((cW ad cs nc np op par X Y O PQ Wd pw pf pu ps) ++ va_pl LP (pG G)) sz)) 1 6 (va_A ((cW ad cs nc np op par X Y O PQ Wd pw pf pu ps) ++ va_pl LP (pG G)) sz) := by
  refine vx_ofW (cc := cC_share) (maxL := 6) (ret := (some .int)) (by decide) rfl ?_
  intro p e s m args below meth c s₁ B hml htb hv
  obtain ⟨hargs, hsz, hP, hK, hD0, hXF⟩ := hv
  have hx := B.exec
  have hb := B.bytes
  have hr := B.returns
  have hts := atoms_spec (ws := wC_share) B.pre
  have hown : s.vm.findClass RC = some m.cls := findClass_of_methodNamed B.named
  have hlocks := B.notSynchronized
  subst hsz
  have hD := hD0.self (sz := s.heap.size)
  generalize hAe : va_A ((cW ad cs nc np op par X Y O PQ Wd pw pf pu ps) ++ va_pl LP (pG G)) s.heap.size = A at hD hXF ⊢
  have hA : ∀ q : Nat, s.heap.size ≤ q → A q := fun q h => by rw [← hAe]; exact Or.inr h
  have hS0 : va_S A s.heap s.heap [] := va_S.rf
  refine x_name (fun R Q H locs hR hQ hH hlo => ?_)
  rw [← hH] at hP
  have hS : va_S A s.heap H locs := by rw [hH, hlo]; exact hS0
  refine x_entry hargs (Nat.le_of_ble_eq_true rfl) (fun ls hl => ?_)
  have hl : lv_has ls 6 [(0, .ref (ad 0)), (1, .int (iI x)), (2, .int (iI q))] := hl
  have hP : va_P (dC, dI) vwCl ((cW ad cs nc np op par X Y O PQ Wd pw pf pu ps) ++ va_pl LP (pG G)) H := hP
  refine lv_iload_n hx hb dC_share_0 rfl (lv_at hl 1 rfl) ?_
  refine vp_callSi (W.runS (As := [.int (iI x)]) (rest := []) ⟨hx, hb, hml, hown, hts⟩ (k_isInPicture l dC dI x (by omega)) (va_cwS 1 hts (tb_S mlC_98 smC_isInPicture iniC coC_isInPicture) rfl rfl rfl (by decide +kernel) (by subst hR; exact ⟨Nat.le_of_ble_eq_true rfl, Nat.le_of_ble_eq_true rfl⟩)) ⟨fun a9 U9 g9 mk9 q9 => q9, fun U hU hW => ⟨rfl, trivial⟩⟩ rfl rfl hl.1 rfl (lv_room (Nat.le_of_ble_eq_true rfl)) dC_share_1 ⟨by subst hR; exact Nat.zero_le _, by subst hR; exact Nat.zero_le _⟩) (fun r_1 hw_1 => ?_)
  subst hw_1
  refine xb_if_eq (tgt := 14) hx hb dC_share_4 (by decide) (fun c_4 => ?_) (fun c_4 => ?_)
  · skip
    subst hQ
    exact vx_throwS (A := A) (own := RC) (cls := IOB) (names := NMS) (ik := 101) (is := 110) (ic := 105) (sa := sa 110) hx hb hlt hown fit_IOB fit_NMS (hts _ (List.mem_cons_of_mem _ clC_101)) (hts _ (List.mem_cons_of_mem _ ini_IOB)) (hXF.str 110 (by decide +kernel)) (xat hts hXF at_IOB ok_IOB) ot_IOB hXF.u hXF.n hS (hl.1.trans hml.symm) dC_share_14 dC_share_17 dC_share_18 dC_share_20 dC_share_23 (fun x9 h9 => (htb x9 h9).elim) (by subst hR; exact Nat.le_of_ble_eq_true rfl) (by subst hR; exact Nat.le_of_ble_eq_true rfl) (by subst hR; exact Nat.le_of_ble_eq_true rfl) (by subst hR; exact Nat.le_of_ble_eq_true rfl) hlocks (xt_X (⟨rfl, by unfold fS; rw [if_neg (fun h => of_decide_eq_false c_4 h.1)]⟩) hP hK hS) hS.2.2 (Nat.le_of_ble_eq_true rfl) (Nat.le_of_ble_eq_true rfl)
  · skip
    refine lv_iload_n hx hb dC_share_7 rfl (lv_at hl 2 rfl) ?_
    refine vp_callSi (W.runS (As := [.int (iI q)]) (rest := []) ⟨hx, hb, hml, hown, hts⟩ (k_isInPicture l dC dI q (by omega)) (va_cwS 1 hts (tb_S mlC_98 smC_isInPicture iniC coC_isInPicture) rfl rfl rfl (by decide +kernel) (by subst hR; exact ⟨Nat.le_of_ble_eq_true rfl, Nat.le_of_ble_eq_true rfl⟩)) ⟨fun a9 U9 g9 mk9 q9 => q9, fun U hU hW => ⟨rfl, trivial⟩⟩ rfl rfl hl.1 rfl (lv_room (Nat.le_of_ble_eq_true rfl)) dC_share_8 ⟨by subst hR; exact Nat.zero_le _, by subst hR; exact Nat.zero_le _⟩) (fun r_8 hw_8 => ?_)
    subst hw_8
    refine xb_if_ne (tgt := 24) hx hb dC_share_11 (by decide) (fun c_11 => ?_) (fun c_11 => ?_)
    · skip
      have b1 := of_decide_eq_true c_4
      have b2 := of_decide_eq_true c_11
      have f1 : fS x q = 0 := by (unfold fS; rw [if_pos ⟨b1, b2⟩])
      refine xi_iconst hx hb dC_share_24 ?_
      refine lv_istore_n (lv' := [(3, .int (iI 0)), (0, .ref (ad 0)), (1, .int (iI x)), (2, .int (iI q))]) hx hb dC_share_25 rfl hl (by decide) rfl (fun ls hl => ?_)
      refine xi_iconst hx hb dC_share_26 ?_
      refine lv_istore (lv' := [(4, .int (iI 0)), (3, .int (iI 0)), (0, .ref (ad 0)), (1, .int (iI x)), (2, .int (iI q))]) hx hb dC_share_27 hl (by decide) rfl (fun ls hl => ?_)
      have cut_29_1 : ∀ (fu_29 : Nat) (j : Int) (n : Int) (R1 : Int → Int) (w1 : Int) (f1w : Int) (u1 : Int) (s1 : Int) (H : Heap) (locs : List Loc) (ls : Array Slot), ((4 - j).toNat) < fu_29 → (0 ≤ j ∧ j ≤ 4) → (n = isum (fun j => isum (fun i => bz (isin par (wC PQ G op (64 * x + 8 + 16 * i) (64 * (63 - q) + 8 + 16 * j)))) 4) j.toNat) → va_P (dC, dI) vwCl ((cW ad cs nc np op par X Y O PQ R1 w1 f1w u1 s1) ++ va_pl LP (pG G)) H → va_D A ((cW ad cs nc np op par X Y O PQ R1 w1 f1w u1 s1) ++ va_pl LP (pG G)) → va_S A s.heap H locs → lv_has ls 6 [(0, .ref (ad 0)), (1, .int (iI x)), (2, .int (iI q)), (3, .int (iI n)), (4, .int (iI j))] → W p l e R s m args below meth c H locs 0 0 Q (F0 m 29 ls []) := by
        intro fu_29
        induction fu_29 with
        | zero => intro _ _ _ _ _ _ _ _ _ _ hm; exact absurd hm (Nat.not_lt_zero _)
        | succ fu_29 ih_29 =>
          intro j n R1 w1 f1w u1 s1 H locs ls hm i1 i2 hP hD hS hl
          refine lv_iload hx hb dC_share_29 (lv_at hl 4 rfl) ?_
          refine xi_iconst hx hb dC_share_31 ?_
          refine xi_icmp_ge (tgt := 100) hx hb dC_share_32 (by decide) (by omega) (by omega) (fun c_32 => ?_) (fun c_32 => ?_)
          · skip
            refine lv_iload_n hx hb dC_share_100 rfl (lv_at hl 3 rfl) ?_
            subst hQ
            refine vx_ret ?_
            refine W.widen (k := 1) (n := 6) (by omega) (by omega) ?_
            exact W.iret (v := (iI n)) hx hb hr (fun t9 ht9 hW9 => ⟨⟨_, (R1, w1, f1w, u1, s1), rfl, (⟨f1, by rw [i2, show j = 4 by omega]; rfl⟩), by rw [ht9]; exact hP, va_K.moved hW9.alike hK, hD⟩, hS.F ht9⟩) hS.2.2 dC_share_101
          · skip
            refine lv_aload_n hx hb dC_share_35 rfl (lv_at hl 0 rfl) ?_
            refine lv_iload_n hx hb dC_share_36 rfl (lv_at hl 2 rfl) ?_
            refine vp_callSi (W.runS (As := [.int (iI q)]) (rest := [.ref (ad 0)]) ⟨hx, hb, hml, hown, hts⟩ (k_bottomOf l dC dI q) (va_cwS 1 hts (tb_S mlC_112 smC_bottomOf iniC coC_bottomOf) rfl rfl rfl (by decide +kernel) (by subst hR; exact ⟨Nat.le_of_ble_eq_true rfl, Nat.le_of_ble_eq_true rfl⟩)) ⟨fun a9 U9 g9 mk9 q9 => q9, fun U hU hW => ⟨rfl, trivial⟩⟩ rfl rfl hl.1 rfl (lv_room (Nat.le_of_ble_eq_true rfl)) dC_share_37 ⟨by subst hR; exact Nat.zero_le _, by subst hR; exact Nat.zero_le _⟩) (fun r_37 hw_37 => ?_)
            subst hw_37
            refine lv_bipush (v := iI 8) hx hb dC_share_40 (by decide +kernel) ?_
            refine xi_add (z := (64 * (63 - q)) + 8) hx hb dC_share_42 rfl ?_
            refine lv_bipush (v := iI 16) hx hb dC_share_43 (by decide +kernel) ?_
            refine lv_iload hx hb dC_share_45 (lv_at hl 4 rfl) ?_
            refine xi_mul (z := 16 * j) hx hb dC_share_47 rfl ?_
            refine xi_add (z := ((64 * (63 - q)) + 8) + (16 * j)) hx hb dC_share_48 rfl ?_
            refine lv_bipush (v := iI 64) hx hb dC_share_49 (by decide +kernel) ?_
            refine lv_iload_n hx hb dC_share_51 rfl (lv_at hl 1 rfl) ?_
            refine xi_mul (z := 64 * x) hx hb dC_share_52 rfl ?_
            refine lv_bipush (v := iI 8) hx hb dC_share_53 (by decide +kernel) ?_
            refine xi_add (z := (64 * x) + 8) hx hb dC_share_55 rfl ?_
            refine lv_bipush (v := iI 16) hx hb dC_share_56 (by decide +kernel) ?_
            refine xi_iconst hx hb dC_share_58 ?_
            have hFc := xw_free hD hS hA
            refine va_callv (va_runV (As := [.int (iI (((64 * (63 - q)) + 8) + (16 * j))), .int (iI ((64 * x) + 8)), .int (iI 16), .int (iI 4)]) (rest := []) ⟨hx, hb, hml, hown, hts⟩ (k_wind l dC dI ad cs H.size LP G nc np op par X Y O PQ R1 w1 f1w u1 s1 (64 * (63 - q) + 8 + 16 * j) (64 * x + 8) 16 4 hop hG (by omega) (by omega) (by omega) (by omega)) (cwV 4 hts (tb_V mlC_94 imC_wind seC_wind iniC coC_wind) rfl rfl rfl (by decide +kernel) (by subst hR; exact ⟨Nat.le_of_ble_eq_true rfl, Nat.le_of_ble_eq_true rfl⟩)) ⟨fun a9 U9 g9 mk9 q9 => by obtain ⟨q0, q1, qP, qK, qD⟩ := q9; exact ⟨q0, q1, qP, va_K.moved (u := U9) (U := U9.calling g9 mk9 a9) (Vm.Alike.refl U9.vm) qK, qD⟩, va_recv hK hP (ci := 2) (q0 := 0) rfl rfl, fun U hU hW => ⟨rfl, by rw [hU], by rw [hU]; exact hP, va_K.moved hW.alike hK, hD.weaken (fun _ _ _ _ => trivial)⟩⟩ rfl rfl hl.1 rfl (lv_room (Nat.le_of_ble_eq_true rfl)) dC_share_59 ⟨by subst hR; exact Nat.le_of_ble_eq_true rfl, by subst hR; exact Nat.le_of_ble_eq_true rfl⟩) hS (fun q9 _ h9 => hFc q9 h9) hFc (fun u_59 t9 H1 locs1 ht9 hvm9 hw_59 hB9 hz9 hk9 hS1 => ?_)
            obtain ⟨hP1, hK1, hD1⟩ := hB9
            rw [ht9] at hP1
            have hP : va_P (dC, dI) vwCl ((cW ad cs nc np op par X Y O PQ u_59.1 u_59.2.1 u_59.2.2.1 u_59.2.2.2.1 u_59.2.2.2.2) ++ va_pl LP (pG G)) H1 := hP1
            have hD : va_D A ((cW ad cs nc np op par X Y O PQ u_59.1 u_59.2.1 u_59.2.2.1 u_59.2.2.2.1 u_59.2.2.2.2) ++ va_pl LP (pG G)) := hD1.weaken (fun _ _ _ h9 => hFc _ h9)
            clear hP1 hD1 hK1 hFc
            have hS := hS1
            clear hS1 hz9 hk9 ht9 hvm9
            revert hP hD hS; generalize H1 = H; generalize locs1 = locs; intro hP hD hS
            refine xi_iconst hx hb dC_share_62 ?_
            refine lv_istore (lv' := [(5, .int (iI 0)), (0, .ref (ad 0)), (1, .int (iI x)), (2, .int (iI q)), (3, .int (iI n)), (4, .int (iI j))]) hx hb dC_share_63 hl (by decide) rfl (fun ls hl => ?_)
            have cut_65_2 : ∀ (fu_65 : Nat) (i : Int) (n2 : Int) (ls : Array Slot), ((4 - i).toNat) < fu_65 → (0 ≤ i ∧ i ≤ 4) → (n2 = n + isum (fun i => bz (isin par (wC PQ G op (64 * x + 8 + 16 * i) (64 * (63 - q) + 8 + 16 * j)))) i.toNat) → lv_has ls 6 [(0, .ref (ad 0)), (1, .int (iI x)), (2, .int (iI q)), (3, .int (iI n2)), (4, .int (iI j)), (5, .int (iI i))] → W p l e R s m args below meth c H locs 0 0 Q (F0 m 65 ls []) := by
              intro fu_65
              induction fu_65 with
              | zero => intro _ _ _ hm; exact absurd hm (Nat.not_lt_zero _)
              | succ fu_65 ih_65 =>
                intro i n2 ls hm k1 k2 hl
                refine lv_iload hx hb dC_share_65 (lv_at hl 5 rfl) ?_
                refine xi_iconst hx hb dC_share_67 ?_
                refine xi_icmp_ge (tgt := 94) hx hb dC_share_68 (by decide) (by omega) (by omega) (fun c_68 => ?_) (fun c_68 => ?_)
                · skip
                  refine xi_iinc (z := j + 1) (lv' := [(4, .int (iI (j + 1))), (0, .ref (ad 0)), (1, .int (iI x)), (2, .int (iI q)), (3, .int (iI n2)), (5, .int (iI i))]) hx hb dC_share_94 hl (k := 4) rfl rfl (by decide) rfl (fun ls hl => ?_)
                  refine lv_goto (tgt := 29) hx hb dC_share_97 (by decide) ?_
                  exact ih_29 (j + 1) n2 u_59.1 u_59.2.1 u_59.2.2.1 u_59.2.2.2.1 u_59.2.2.2.2 _ _ _ (by omega) (by omega) (by rw [isum_s _ i1.1, ← i2, k2, show i = 4 by omega]; rfl) hP hD hS (lv_sub hl [1, 2, 3, 4, 0] rfl)
                · skip
                  have w9 := hw_59 i k1.1 (by omega)
                  have b9 := wC_bd PQ G (64 * x + 8 + 16 * i) (64 * (63 - q) + 8 + 16 * j) hop
                  refine lv_aload_n hx hb dC_share_71 rfl (lv_at hl 0 rfl) ?_
                  refine lv_aload_n hx hb dC_share_72 rfl (lv_at hl 0 rfl) ?_
                  refine va_get (D := (dC, dI)) (ci := 2) (v := .ref (ad 5)) (C := RC) (T := TC) (N := 10) hx hb hts (fun w9 h9 => List.mem_cons_of_mem _ (inC w9 h9)) hown hK hP 0 rfl rfl 4 (by decide) (hts _ (List.mem_cons_of_mem _ flC_26)) (fun _ h9 => h9) rfl dC_share_73 ?_
                  refine lv_iload hx hb dC_share_76 (lv_at hl 5 rfl) ?_
                  refine xa_iald hx hb hK hP 5 4 rfl rfl (by decide) (by omega) dC_share_78 ?_
                  refine xi_top (y := .int (iI (wC PQ G op (64 * x + 8 + 16 * i) (64 * (63 - q) + 8 + 16 * j)))) (by rw [w9]) ?_
                  have hPc := hP.sub (ws' := [((ad 0), .inr (2, [.ref (ad 1), .ref (ad 2), .ref (ad 3), .ref (ad 4), .ref (ad 5), .ref (ad 6), .int (iI nc), .int (iI np), .int (iI op), .int (iI (bz par))]))]) [0] rfl
                  have hKc := hK.sub (tys' := []) [] rfl
                  refine vp_callSi (W.runV (As := [.int (iI (wC PQ G op (64 * x + 8 + 16 * i) (64 * (63 - q) + 8 + 16 * j)))]) (rest := []) ⟨hx, hb, hml, hown, hts⟩ (k_isIn l dC dI (ad 0) (ad 1) (ad 2) (ad 3) (ad 4) (ad 5) (ad 6) nc np op par (wC PQ G op (64 * x + 8 + 16 * i) (64 * (63 - q) + 8 + 16 * j)) (by omega)) (cwV 1 hts (tb_V mlC_116 imC_isIn seC_isIn iniC coC_isIn) rfl rfl rfl (by decide +kernel) (by subst hR; exact ⟨Nat.le_of_ble_eq_true rfl, Nat.le_of_ble_eq_true rfl⟩)) ⟨fun a9 U9 g9 mk9 q9 => by obtain ⟨q0, qP, qK⟩ := q9; exact ⟨q0, qP, va_K.moved (u := U9) (U := U9.calling g9 mk9 a9) (Vm.Alike.refl U9.vm) qK⟩, va_recv hKc hPc (ci := 2) (q0 := 0) rfl rfl, fun U hU hW => ⟨rfl, by rw [hU]; exact hPc, va_K.moved hW.alike hKc⟩⟩ rfl rfl hl.1 rfl (lv_room (Nat.le_of_ble_eq_true rfl)) dC_share_79 ⟨by subst hR; exact Nat.zero_le _, by subst hR; exact Nat.zero_le _⟩) (fun r_79 hw_79 => ?_)
                  subst hw_79
                  refine xb_if_eq (tgt := 88) hx hb dC_share_82 (by decide) (fun c_82 => ?_) (fun c_82 => ?_)
                  · skip
                    refine xi_iinc (z := i + 1) (lv' := [(5, .int (iI (i + 1))), (0, .ref (ad 0)), (1, .int (iI x)), (2, .int (iI q)), (3, .int (iI n2)), (4, .int (iI j))]) hx hb dC_share_88 hl (k := 5) rfl rfl (by decide) rfl (fun ls hl => ?_)
                    refine lv_goto (tgt := 65) hx hb dC_share_91 (by decide) ?_
                    exact ih_65 (i + 1) n2 _ (by omega) (by omega) (by rw [isum_s _ k1.1, k2, c_82]; show n + isum (fun i => bz (isin par (wC PQ G op (64 * x + 8 + 16 * i) (64 * (63 - q) + 8 + 16 * j)))) i.toNat = n + (isum (fun i => bz (isin par (wC PQ G op (64 * x + 8 + 16 * i) (64 * (63 - q) + 8 + 16 * j)))) i.toNat + 0); omega) (lv_sub hl [1, 2, 3, 4, 5, 0] rfl)
                  · skip
                    refine xi_iinc (z := n2 + 1) (lv' := [(3, .int (iI (n2 + 1))), (0, .ref (ad 0)), (1, .int (iI x)), (2, .int (iI q)), (4, .int (iI j)), (5, .int (iI i))]) hx hb dC_share_85 hl (k := 3) rfl rfl (by decide) rfl (fun ls hl => ?_)
                    refine xi_iinc (z := i + 1) (lv' := [(5, .int (iI (i + 1))), (3, .int (iI (n2 + 1))), (0, .ref (ad 0)), (1, .int (iI x)), (2, .int (iI q)), (4, .int (iI j))]) hx hb dC_share_88 hl (k := 5) rfl rfl (by decide) rfl (fun ls hl => ?_)
                    refine lv_goto (tgt := 65) hx hb dC_share_91 (by decide) ?_
                    exact ih_65 (i + 1) (n2 + 1) _ (by omega) (by omega) (by rw [isum_s _ k1.1, k2, c_82]; show n + isum (fun i => bz (isin par (wC PQ G op (64 * x + 8 + 16 * i) (64 * (63 - q) + 8 + 16 * j)))) i.toNat + 1 = n + (isum (fun i => bz (isin par (wC PQ G op (64 * x + 8 + 16 * i) (64 * (63 - q) + 8 + 16 * j)))) i.toNat + 1); omega) (lv_sub hl [2, 3, 4, 1, 5, 0] rfl)
            exact cut_65_2 (((4 - (0 : Int)).toNat) + 1) 0 n _ (Nat.lt_succ_self _) (by omega) (by show n = n + 0; omega) (lv_sub hl [1, 2, 3, 4, 5, 0] rfl)
      exact cut_29_1 (((4 - (0 : Int)).toNat) + 1) 0 0 Wd pw pf pu ps _ _ _ (Nat.lt_succ_self _) (by omega) (rfl) hP hD hS (lv_sub hl [2, 3, 4, 1, 0] rfl)
    · skip
      subst hQ
      exact vx_throwS (A := A) (own := RC) (cls := IOB) (names := NMS) (ik := 101) (is := 110) (ic := 105) (sa := sa 110) hx hb hlt hown fit_IOB fit_NMS (hts _ (List.mem_cons_of_mem _ clC_101)) (hts _ (List.mem_cons_of_mem _ ini_IOB)) (hXF.str 110 (by decide +kernel)) (xat hts hXF at_IOB ok_IOB) ot_IOB hXF.u hXF.n hS (hl.1.trans hml.symm) dC_share_14 dC_share_17 dC_share_18 dC_share_20 dC_share_23 (fun x9 h9 => (htb x9 h9).elim) (by subst hR; exact Nat.le_of_ble_eq_true rfl) (by subst hR; exact Nat.le_of_ble_eq_true rfl) (by subst hR; exact Nat.le_of_ble_eq_true rfl) (by subst hR; exact Nat.le_of_ble_eq_true rfl) hlocks (xt_X (⟨rfl, by unfold fS; rw [if_neg (fun h => of_decide_eq_false c_11 h.2)]⟩) hP hK hS) hS.2.2 (Nat.le_of_ble_eq_true rfl) (Nat.le_of_ble_eq_true rfl)
set_option maxHeartbeats 4000000 in
set_option maxRecDepth 100000 in
/-- count -/
theorem k_count (l : Launch) (dC : Nat → ClassId) (dI : Nat → Nat → Nat) (ad : Nat → Nat) (cs : Nat → ClassId) (sz : Nat) (LP : List Nat) (G : Nat → PD) (nc np op : Int) (par : Bool) (X Y : Int → Int) (O : Int → Bool) (PQ : Int → Option Nat) (Wd : Int → Int) (pw pf pu ps : Int) (w : Int) (hop : 0 ≤ op ∧ op ≤ 512) (hG : cOk LP G PQ op) (hw0 : -2147483648 ≤ w ∧ w ≤ 2147483647) : Met l yC_count wC_count ({ frames := 6, cells := 0, slots := 0, locals := 150 }) (va_Pc [.ref (ad 0), .int (iI w)] (fun U => U.heap.size = sz ∧ va_P (dC, dI) vwCl ((cW ad cs nc np op par X Y O PQ Wd pw pf pu ps) ++ va_pl LP (pG G)) U.heap ∧ va_K (dC, dI) vwCl (cT cs) U ∧ va_D (fun _ => True) ((cW ad cs nc np op par X Y O PQ Wd pw pf pu ps) ++ va_pl LP (pG G)))) (va_Qi (fun (r : Int32) (u : (Int → Int) × Int × Int × Int × Int) => r = iI (if w = 0 then nc else if w = 1 then np else if w = 2 then isum (lnP PQ G true) op.toNat else if w = 3 then isum (lnP PQ G false) op.toNat else if w = 4 then isum (fun q => isum (fun x => bz (pxC PQ G op par q x)) 64) 64 else -1) ∧ True) (fun (u : (Int → Int) × Int × Int × Int × Int) t9 => va_P (dC, dI) vwCl ((cW ad cs nc np op par X Y O PQ u.1 u.2.1 u.2.2.1 u.2.2.2.1 u.2.2.2.2) ++ va_pl LP (pG G)) t9.heap ∧ va_K (dC, dI) vwCl (cT cs) t9 ∧ va_D (va_A ((cW ad cs nc np op par X Y O PQ Wd pw pf pu ps) ++ va_pl LP (pG G)) sz) ((cW ad cs nc np op par X Y O PQ u.1 u.2.1 u.2.2.1 u.2.2.2.1 u.2.2.2.2) ++ va_pl LP (pG G))) (va_A ((cW ad cs nc np op par X Y O PQ Wd pw pf pu ps) ++ va_pl LP (pG G)) sz)) 0 0 (va_A ((cW ad cs nc np op par X Y O PQ Wd pw pf pu ps) ++ va_pl LP (pG G)) sz) := by
  refine Met.ofW (cc := cC_count) (maxL := 2) (ret := (some .int)) (by decide) rfl ?_
  intro p e s m args below meth c s₁ B hml hv
  obtain ⟨hargs, hsz, hP, hK, hD0⟩ := hv
  have hx := B.exec
  have hb := B.bytes
  have hr := B.returns
  have hts := atoms_spec (ws := wC_count) B.pre
  have hown : s.vm.findClass RC = some m.cls := findClass_of_methodNamed B.named
  have hlocks := B.notSynchronized
  subst hsz
  have hD := hD0.self (sz := s.heap.size)
  generalize hAe : va_A ((cW ad cs nc np op par X Y O PQ Wd pw pf pu ps) ++ va_pl LP (pG G)) s.heap.size = A at hD ⊢
  have hA : ∀ q : Nat, s.heap.size ≤ q → A q := fun q h => by rw [← hAe]; exact Or.inr h
  have hS0 : va_S A s.heap s.heap [] := va_S.rf
  refine x_name (fun R Q H locs hR hQ hH hlo => ?_)
  rw [← hH] at hP
  have hS : va_S A s.heap H locs := by rw [hH, hlo]; exact hS0
  refine x_entry hargs (Nat.le_of_ble_eq_true rfl) (fun ls hl => ?_)
  have hl : lv_has ls 2 [(0, .ref (ad 0)), (1, .int (iI w))] := hl
  have hP : va_P (dC, dI) vwCl ((cW ad cs nc np op par X Y O PQ Wd pw pf pu ps) ++ va_pl LP (pG G)) H := hP
  refine lv_iload_n hx hb dC_count_0 rfl (lv_at hl 1 rfl) ?_
  rcases (show w = 0 ∨ w = 1 ∨ w = 2 ∨ w = 3 ∨ w = 4 ∨ (w < 0 ∨ 4 < w) by omega) with hz_0 | hz_1 | hz_2 | hz_3 | hz_4 | hz_d
  · refine lv_tableIn (tgt := 36) hx hb dC_count_1 (by rw [iI_toInt (by omega)]; omega) (by rw [iI_toInt (by omega)]; omega) (by rw [iI_toInt (by omega), hz_0]; rfl) (by decide) ?_
    refine lv_aload_n hx hb dC_count_36 rfl (lv_at hl 0 rfl) ?_
    refine va_get (D := (dC, dI)) (ci := 2) (v := .int (iI nc)) (C := RC) (T := TC) (N := 10) hx hb hts (fun w9 h9 => List.mem_cons_of_mem _ (inC w9 h9)) hown hK hP 0 rfl rfl 6 (by decide) (hts _ (List.mem_cons_of_mem _ flC_36)) (fun _ h9 => h9) rfl dC_count_37 ?_
    subst hQ
    exact W.iret (v := (iI nc)) hx hb hr (fun t9 ht9 hW9 => ⟨⟨_, (Wd, pw, pf, pu, ps), rfl, (⟨by rw [if_pos hz_0], trivial⟩), by rw [ht9]; exact hP, va_K.moved hW9.alike hK, hD⟩, hS.F ht9⟩) hS.2.2 dC_count_40
  · refine lv_tableIn (tgt := 41) hx hb dC_count_1 (by rw [iI_toInt (by omega)]; omega) (by rw [iI_toInt (by omega)]; omega) (by rw [iI_toInt (by omega), hz_1]; rfl) (by decide) ?_
    refine lv_aload_n hx hb dC_count_41 rfl (lv_at hl 0 rfl) ?_
    refine va_get (D := (dC, dI)) (ci := 2) (v := .int (iI np)) (C := RC) (T := TC) (N := 10) hx hb hts (fun w9 h9 => List.mem_cons_of_mem _ (inC w9 h9)) hown hK hP 0 rfl rfl 7 (by decide) (hts _ (List.mem_cons_of_mem _ flC_40)) (fun _ h9 => h9) rfl dC_count_42 ?_
    subst hQ
    exact W.iret (v := (iI np)) hx hb hr (fun t9 ht9 hW9 => ⟨⟨_, (Wd, pw, pf, pu, ps), rfl, (⟨by rw [if_neg (by omega), if_pos hz_1], trivial⟩), by rw [ht9]; exact hP, va_K.moved hW9.alike hK, hD⟩, hS.F ht9⟩) hS.2.2 dC_count_45
  · refine lv_tableIn (tgt := 46) hx hb dC_count_1 (by rw [iI_toInt (by omega)]; omega) (by rw [iI_toInt (by omega)]; omega) (by rw [iI_toInt (by omega), hz_2]; rfl) (by decide) ?_
    refine lv_aload_n hx hb dC_count_46 rfl (lv_at hl 0 rfl) ?_
    refine xi_iconst hx hb dC_count_47 ?_
    refine vp_callSi (W.runV (As := [.int (iI (bz true))]) (rest := []) ⟨hx, hb, hml, hown, hts⟩ (k_countPieces l dC dI ad cs LP G nc np op par X Y O PQ Wd pw pf pu ps true hop hG) (cwV 1 hts (tb_V mlC_80 imC_countPieces seC_countPieces iniC coC_countPieces) rfl rfl rfl (by decide +kernel) (by subst hR; exact ⟨Nat.le_of_ble_eq_true rfl, Nat.le_of_ble_eq_true rfl⟩)) ⟨fun a9 U9 g9 mk9 q9 => by obtain ⟨q0, qP, qK⟩ := q9; exact ⟨q0, qP, va_K.moved (u := U9) (U := U9.calling g9 mk9 a9) (Vm.Alike.refl U9.vm) qK⟩, va_recv hK hP (ci := 2) (q0 := 0) rfl rfl, fun U hU hW => ⟨rfl, by rw [hU]; exact hP, va_K.moved hW.alike hK⟩⟩ rfl rfl hl.1 rfl (lv_room (Nat.le_of_ble_eq_true rfl)) dC_count_48 ⟨by subst hR; exact Nat.zero_le _, by subst hR; exact Nat.zero_le _⟩) (fun r_48 hw_48 => ?_)
    subst hw_48
    subst hQ
    exact W.iret (v := (iI (isum (lnP PQ G true) op.toNat))) hx hb hr (fun t9 ht9 hW9 => ⟨⟨_, (Wd, pw, pf, pu, ps), rfl, (⟨by rw [if_neg (by omega), if_neg (by omega), if_pos hz_2], trivial⟩), by rw [ht9]; exact hP, va_K.moved hW9.alike hK, hD⟩, hS.F ht9⟩) hS.2.2 dC_count_51
  · refine lv_tableIn (tgt := 52) hx hb dC_count_1 (by rw [iI_toInt (by omega)]; omega) (by rw [iI_toInt (by omega)]; omega) (by rw [iI_toInt (by omega), hz_3]; rfl) (by decide) ?_
    refine lv_aload_n hx hb dC_count_52 rfl (lv_at hl 0 rfl) ?_
    refine xi_iconst hx hb dC_count_53 ?_
    refine vp_callSi (W.runV (As := [.int (iI (bz false))]) (rest := []) ⟨hx, hb, hml, hown, hts⟩ (k_countPieces l dC dI ad cs LP G nc np op par X Y O PQ Wd pw pf pu ps false hop hG) (cwV 1 hts (tb_V mlC_80 imC_countPieces seC_countPieces iniC coC_countPieces) rfl rfl rfl (by decide +kernel) (by subst hR; exact ⟨Nat.le_of_ble_eq_true rfl, Nat.le_of_ble_eq_true rfl⟩)) ⟨fun a9 U9 g9 mk9 q9 => by obtain ⟨q0, qP, qK⟩ := q9; exact ⟨q0, qP, va_K.moved (u := U9) (U := U9.calling g9 mk9 a9) (Vm.Alike.refl U9.vm) qK⟩, va_recv hK hP (ci := 2) (q0 := 0) rfl rfl, fun U hU hW => ⟨rfl, by rw [hU]; exact hP, va_K.moved hW.alike hK⟩⟩ rfl rfl hl.1 rfl (lv_room (Nat.le_of_ble_eq_true rfl)) dC_count_54 ⟨by subst hR; exact Nat.zero_le _, by subst hR; exact Nat.zero_le _⟩) (fun r_54 hw_54 => ?_)
    subst hw_54
    subst hQ
    exact W.iret (v := (iI (isum (lnP PQ G false) op.toNat))) hx hb hr (fun t9 ht9 hW9 => ⟨⟨_, (Wd, pw, pf, pu, ps), rfl, (⟨by rw [if_neg (by omega), if_neg (by omega), if_neg (by omega), if_pos hz_3], trivial⟩), by rw [ht9]; exact hP, va_K.moved hW9.alike hK, hD⟩, hS.F ht9⟩) hS.2.2 dC_count_57
  · refine lv_tableIn (tgt := 58) hx hb dC_count_1 (by rw [iI_toInt (by omega)]; omega) (by rw [iI_toInt (by omega)]; omega) (by rw [iI_toInt (by omega), hz_4]; rfl) (by decide) ?_
    refine lv_aload_n hx hb dC_count_58 rfl (lv_at hl 0 rfl) ?_
    have hFc := xw_free hD hS hA
    refine va_calli (va_runV (As := []) (rest := []) ⟨hx, hb, hml, hown, hts⟩ (k_countSet l dC dI ad cs H.size LP G nc np op par X Y O PQ Wd pw pf pu ps hop hG) (cwV 0 hts (tb_V mlC_84 imC_countSet seC_countSet iniC coC_countSet) rfl rfl rfl (by decide +kernel) (by subst hR; exact ⟨Nat.le_of_ble_eq_true rfl, Nat.le_of_ble_eq_true rfl⟩)) ⟨fun a9 U9 g9 mk9 q9 => by obtain ⟨q0, q1, qP, qK, qD⟩ := q9; exact ⟨q0, q1, qP, va_K.moved (u := U9) (U := U9.calling g9 mk9 a9) (Vm.Alike.refl U9.vm) qK, qD⟩, va_recv hK hP (ci := 2) (q0 := 0) rfl rfl, fun U hU hW => ⟨rfl, by rw [hU], by rw [hU]; exact hP, va_K.moved hW.alike hK, hD.weaken (fun _ _ _ _ => trivial)⟩⟩ rfl rfl hl.1 rfl (lv_room (Nat.le_of_ble_eq_true rfl)) dC_count_59 ⟨by subst hR; exact Nat.le_of_ble_eq_true rfl, by subst hR; exact Nat.le_of_ble_eq_true rfl⟩) hS (fun q9 _ h9 => hFc q9 h9) hFc (fun r_59 u_59 t9 H1 locs1 ht9 hvm9 hw_59 hB9 hz9 hk9 hS1 => ?_)
    obtain ⟨hP1, hK1, hD1⟩ := hB9
    rw [ht9] at hP1
    have hP : va_P (dC, dI) vwCl ((cW ad cs nc np op par X Y O PQ u_59.1 u_59.2.1 u_59.2.2.1 u_59.2.2.2.1 u_59.2.2.2.2) ++ va_pl LP (pG G)) H1 := hP1
    have hD : va_D A ((cW ad cs nc np op par X Y O PQ u_59.1 u_59.2.1 u_59.2.2.1 u_59.2.2.2.1 u_59.2.2.2.2) ++ va_pl LP (pG G)) := hD1.weaken (fun _ _ _ h9 => hFc _ h9)
    clear hP1 hD1 hK1 hFc
    have hS := hS1
    clear hS1 hz9 hk9 ht9 hvm9
    revert hP hD hS; generalize H1 = H; generalize locs1 = locs; intro hP hD hS
    obtain ⟨hr_59, hw_59⟩ := hw_59; subst hr_59
    subst hQ
    exact W.iret (v := (iI (isum (fun q => isum (fun x => bz (pxC PQ G op par q x)) 64) 64))) hx hb hr (fun t9 ht9 hW9 => ⟨⟨_, (u_59.1, u_59.2.1, u_59.2.2.1, u_59.2.2.2.1, u_59.2.2.2.2), rfl, (⟨by rw [if_neg (by omega), if_neg (by omega), if_neg (by omega), if_neg (by omega), if_pos hz_4], trivial⟩), by rw [ht9]; exact hP, va_K.moved hW9.alike hK, hD⟩, hS.F ht9⟩) hS.2.2 dC_count_62
  · refine lv_tableOut (tgt := 63) hx hb dC_count_1 (by rw [iI_toInt (by omega)]; omega) (by decide) ?_
    refine xi_iconst hx hb dC_count_63 ?_
    subst hQ
    exact W.iret (v := (iI (-1))) hx hb hr (fun t9 ht9 hW9 => ⟨⟨_, (Wd, pw, pf, pu, ps), rfl, (⟨by rw [if_neg (by omega), if_neg (by omega), if_neg (by omega), if_neg (by omega), if_neg (by omega)], trivial⟩), by rw [ht9]; exact hP, va_K.moved hW9.alike hK, hD⟩, hS.F ht9⟩) hS.2.2 dC_count_64
