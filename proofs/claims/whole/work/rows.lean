section
-- ===== PART A: goes FIRST, ahead of the names: the tables' words, and 'selects' of the private methods out of them =====
/-- a private method of a class that the tables say can be made, by its rows of tables_1 -/
def lw_okq (q : MethodName × Nat) : Prop := (q.1.cls ≠ "java/lang/invoke/MethodHandle" ∧ q.1.cls ≠ "java/lang/invoke/VarHandle") ∧ Cond.instantiable q.1.cls q.2 ∈ tables_1 ∧ Cond.privateMethod q.1 ∈ tables_1 ∧ Cond.instanceMethod q.1 ∈ tables_1
theorem lw_p0 : lw_okq (⟨"CurveRaster", "countPieces", "(Z)I"⟩, 10) := ⟨⟨by decide +kernel, by decide +kernel⟩, List.mem_of_getElem? (i := 15) (by decide +kernel), List.mem_of_getElem? (i := 93) (by decide +kernel), List.mem_of_getElem? (i := 94) (by decide +kernel)⟩
theorem lw_p1 : lw_okq (⟨"CurveRaster", "countSet", "()I"⟩, 10) := ⟨⟨by decide +kernel, by decide +kernel⟩, List.mem_of_getElem? (i := 15) (by decide +kernel), List.mem_of_getElem? (i := 97) (by decide +kernel), List.mem_of_getElem? (i := 98) (by decide +kernel)⟩
theorem lw_p2 : lw_okq (⟨"CurveRaster", "rowBits", "(I)J"⟩, 10) := ⟨⟨by decide +kernel, by decide +kernel⟩, List.mem_of_getElem? (i := 15) (by decide +kernel), List.mem_of_getElem? (i := 101) (by decide +kernel), List.mem_of_getElem? (i := 102) (by decide +kernel)⟩
theorem lw_p3 : lw_okq (⟨"CurveRaster", "wind", "(IIII)V"⟩, 10) := ⟨⟨by decide +kernel, by decide +kernel⟩, List.mem_of_getElem? (i := 15) (by decide +kernel), List.mem_of_getElem? (i := 108) (by decide +kernel), List.mem_of_getElem? (i := 109) (by decide +kernel)⟩
theorem lw_p4 : lw_okq (⟨"CurveRaster$Place", "isRightOf", "(I)Z"⟩, 4) := ⟨⟨by decide +kernel, by decide +kernel⟩, List.mem_of_getElem? (i := 25) (by decide +kernel), List.mem_of_getElem? (i := 134) (by decide +kernel), List.mem_of_getElem? (i := 135) (by decide +kernel)⟩
theorem lw_p5 : lw_okq (⟨"CurveRaster$Place", "compareToRoot", "(JJ)J"⟩, 4) := ⟨⟨by decide +kernel, by decide +kernel⟩, List.mem_of_getElem? (i := 25) (by decide +kernel), List.mem_of_getElem? (i := 138) (by decide +kernel), List.mem_of_getElem? (i := 139) (by decide +kernel)⟩
theorem lw_p6 : lw_okq (⟨"CurveRaster", "isIn", "(I)Z"⟩, 10) := ⟨⟨by decide +kernel, by decide +kernel⟩, List.mem_of_getElem? (i := 15) (by decide +kernel), List.mem_of_getElem? (i := 144) (by decide +kernel), List.mem_of_getElem? (i := 145) (by decide +kernel)⟩
theorem lw_p7 : lw_okq (⟨"java/lang/Throwable", "fillInStackTrace", "(I)Ljava/lang/Throwable;"⟩, 6) := ⟨⟨by decide +kernel, by decide +kernel⟩, List.mem_of_getElem? (i := 206) (by decide +kernel), List.mem_of_getElem? (i := 204) (by decide +kernel), List.mem_of_getElem? (i := 205) (by decide +kernel)⟩
theorem lw_p8 : lw_okq (⟨"CurveRaster", "pieceOf", "(I)LCurveRaster$Piece;"⟩, 10) := ⟨⟨by decide +kernel, by decide +kernel⟩, List.mem_of_getElem? (i := 15) (by decide +kernel), List.mem_of_getElem? (i := 261) (by decide +kernel), List.mem_of_getElem? (i := 262) (by decide +kernel)⟩
theorem lw_p9 : lw_okq (⟨"CurveRaster", "curveEnd", "([III)I"⟩, 10) := ⟨⟨by decide +kernel, by decide +kernel⟩, List.mem_of_getElem? (i := 15) (by decide +kernel), List.mem_of_getElem? (i := 266) (by decide +kernel), List.mem_of_getElem? (i := 267) (by decide +kernel)⟩
theorem lw_p10 : lw_okq (⟨"CurveRasterModel", "refused", "(I)Z"⟩, 17) := ⟨⟨by decide +kernel, by decide +kernel⟩, List.mem_of_getElem? (i := 424) (by decide +kernel), List.mem_of_getElem? (i := 495) (by decide +kernel), List.mem_of_getElem? (i := 496) (by decide +kernel)⟩
theorem lw_p11 : lw_okq (⟨"CurveRasterModel", "open", "()I"⟩, 17) := ⟨⟨by decide +kernel, by decide +kernel⟩, List.mem_of_getElem? (i := 424) (by decide +kernel), List.mem_of_getElem? (i := 499) (by decide +kernel), List.mem_of_getElem? (i := 500) (by decide +kernel)⟩
theorem lw_p12 : lw_okq (⟨"CurveRasterModel", "closed", "()I"⟩, 17) := ⟨⟨by decide +kernel, by decide +kernel⟩, List.mem_of_getElem? (i := 424) (by decide +kernel), List.mem_of_getElem? (i := 503) (by decide +kernel), List.mem_of_getElem? (i := 504) (by decide +kernel)⟩
theorem lw_p13 : lw_okq (⟨"CurveRasterModel", "countOf", "(Z)I"⟩, 17) := ⟨⟨by decide +kernel, by decide +kernel⟩, List.mem_of_getElem? (i := 424) (by decide +kernel), List.mem_of_getElem? (i := 531) (by decide +kernel), List.mem_of_getElem? (i := 532) (by decide +kernel)⟩
theorem lw_p14 : lw_okq (⟨"CurveRasterModel", "makePieces", "()V"⟩, 17) := ⟨⟨by decide +kernel, by decide +kernel⟩, List.mem_of_getElem? (i := 424) (by decide +kernel), List.mem_of_getElem? (i := 535) (by decide +kernel), List.mem_of_getElem? (i := 536) (by decide +kernel)⟩
theorem lw_p15 : lw_okq (⟨"CurveRasterModel", "makeRing", "(II)V"⟩, 17) := ⟨⟨by decide +kernel, by decide +kernel⟩, List.mem_of_getElem? (i := 424) (by decide +kernel), List.mem_of_getElem? (i := 539) (by decide +kernel), List.mem_of_getElem? (i := 540) (by decide +kernel)⟩
def lw_privs_1 : List (MethodName × Nat) := [(⟨"CurveRaster", "countPieces", "(Z)I"⟩, 10), (⟨"CurveRaster", "countSet", "()I"⟩, 10), (⟨"CurveRaster", "rowBits", "(I)J"⟩, 10), (⟨"CurveRaster", "wind", "(IIII)V"⟩, 10), (⟨"CurveRaster$Place", "isRightOf", "(I)Z"⟩, 4), (⟨"CurveRaster$Place", "compareToRoot", "(JJ)J"⟩, 4), (⟨"CurveRaster", "isIn", "(I)Z"⟩, 10), (⟨"java/lang/Throwable", "fillInStackTrace", "(I)Ljava/lang/Throwable;"⟩, 6), (⟨"CurveRaster", "pieceOf", "(I)LCurveRaster$Piece;"⟩, 10), (⟨"CurveRaster", "curveEnd", "([III)I"⟩, 10), (⟨"CurveRasterModel", "refused", "(I)Z"⟩, 17), (⟨"CurveRasterModel", "open", "()I"⟩, 17), (⟨"CurveRasterModel", "closed", "()I"⟩, 17), (⟨"CurveRasterModel", "countOf", "(Z)I"⟩, 17), (⟨"CurveRasterModel", "makePieces", "()V"⟩, 17), (⟨"CurveRasterModel", "makeRing", "(II)V"⟩, 17)]
theorem lw_r1 : ∀ q ∈ lw_privs_1, lw_okq q := List.forall_mem_cons.mpr ⟨lw_p0, List.forall_mem_cons.mpr ⟨lw_p1, List.forall_mem_cons.mpr ⟨lw_p2, List.forall_mem_cons.mpr ⟨lw_p3, List.forall_mem_cons.mpr ⟨lw_p4, List.forall_mem_cons.mpr ⟨lw_p5, List.forall_mem_cons.mpr ⟨lw_p6, List.forall_mem_cons.mpr ⟨lw_p7, List.forall_mem_cons.mpr ⟨lw_p8, List.forall_mem_cons.mpr ⟨lw_p9, List.forall_mem_cons.mpr ⟨lw_p10, List.forall_mem_cons.mpr ⟨lw_p11, List.forall_mem_cons.mpr ⟨lw_p12, List.forall_mem_cons.mpr ⟨lw_p13, List.forall_mem_cons.mpr ⟨lw_p14, List.forall_mem_cons.mpr ⟨lw_p15, fun _ h => absurd h List.not_mem_nil⟩⟩⟩⟩⟩⟩⟩⟩⟩⟩⟩⟩⟩⟩⟩⟩
theorem lw_p16 : lw_okq (⟨"CurveRasterModel", "putRing", "(IIZ)V"⟩, 17) := ⟨⟨by decide +kernel, by decide +kernel⟩, List.mem_of_getElem? (i := 424) (by decide +kernel), List.mem_of_getElem? (i := 543) (by decide +kernel), List.mem_of_getElem? (i := 544) (by decide +kernel)⟩
theorem lw_p17 : lw_okq (⟨"CurveRasterModel", "putPiece", "(IIIZ)V"⟩, 17) := ⟨⟨by decide +kernel, by decide +kernel⟩, List.mem_of_getElem? (i := 424) (by decide +kernel), List.mem_of_getElem? (i := 547) (by decide +kernel), List.mem_of_getElem? (i := 548) (by decide +kernel)⟩
theorem lw_p18 : lw_okq (⟨"CurveRasterModel", "setPixels", "()I"⟩, 17) := ⟨⟨by decide +kernel, by decide +kernel⟩, List.mem_of_getElem? (i := 424) (by decide +kernel), List.mem_of_getElem? (i := 551) (by decide +kernel), List.mem_of_getElem? (i := 552) (by decide +kernel)⟩
theorem lw_p19 : lw_okq (⟨"CurveRasterModel", "isSet", "(II)Z"⟩, 17) := ⟨⟨by decide +kernel, by decide +kernel⟩, List.mem_of_getElem? (i := 424) (by decide +kernel), List.mem_of_getElem? (i := 555) (by decide +kernel), List.mem_of_getElem? (i := 556) (by decide +kernel)⟩
theorem lw_p20 : lw_okq (⟨"CurveRasterModel", "isIn", "(II)Z"⟩, 17) := ⟨⟨by decide +kernel, by decide +kernel⟩, List.mem_of_getElem? (i := 424) (by decide +kernel), List.mem_of_getElem? (i := 559) (by decide +kernel), List.mem_of_getElem? (i := 560) (by decide +kernel)⟩
theorem lw_p21 : lw_okq (⟨"CurveRasterModel", "windingOf", "(II)I"⟩, 17) := ⟨⟨by decide +kernel, by decide +kernel⟩, List.mem_of_getElem? (i := 424) (by decide +kernel), List.mem_of_getElem? (i := 563) (by decide +kernel), List.mem_of_getElem? (i := 564) (by decide +kernel)⟩
theorem lw_p22 : lw_okq (⟨"CurveRasterModel", "curveCount", "(III)I"⟩, 17) := ⟨⟨by decide +kernel, by decide +kernel⟩, List.mem_of_getElem? (i := 424) (by decide +kernel), List.mem_of_getElem? (i := 567) (by decide +kernel), List.mem_of_getElem? (i := 568) (by decide +kernel)⟩
theorem lw_p23 : lw_okq (⟨"CurveRasterModel", "isLeft", "(JJJZJJJ)Z"⟩, 17) := ⟨⟨by decide +kernel, by decide +kernel⟩, List.mem_of_getElem? (i := 424) (by decide +kernel), List.mem_of_getElem? (i := 572) (by decide +kernel), List.mem_of_getElem? (i := 573) (by decide +kernel)⟩
theorem lw_p24 : lw_okq (⟨"CurveRasterModel", "compareRoot", "(JJJZJJ)I"⟩, 17) := ⟨⟨by decide +kernel, by decide +kernel⟩, List.mem_of_getElem? (i := 424) (by decide +kernel), List.mem_of_getElem? (i := 579) (by decide +kernel), List.mem_of_getElem? (i := 580) (by decide +kernel)⟩
theorem lw_p25 : lw_okq (⟨"CurveRasterModel", "signAt", "(JJJJJ)I"⟩, 17) := ⟨⟨by decide +kernel, by decide +kernel⟩, List.mem_of_getElem? (i := 424) (by decide +kernel), List.mem_of_getElem? (i := 583) (by decide +kernel), List.mem_of_getElem? (i := 584) (by decide +kernel)⟩
theorem lw_p26 : lw_okq (⟨"CurveRasterModel", "addProduct", "(JJ)V"⟩, 17) := ⟨⟨by decide +kernel, by decide +kernel⟩, List.mem_of_getElem? (i := 424) (by decide +kernel), List.mem_of_getElem? (i := 587) (by decide +kernel), List.mem_of_getElem? (i := 588) (by decide +kernel)⟩
theorem lw_p27 : lw_okq (⟨"CurveRasterModel", "lineCount", "(III)I"⟩, 17) := ⟨⟨by decide +kernel, by decide +kernel⟩, List.mem_of_getElem? (i := 424) (by decide +kernel), List.mem_of_getElem? (i := 594) (by decide +kernel), List.mem_of_getElem? (i := 595) (by decide +kernel)⟩
theorem lw_p28 : lw_okq (⟨"CurveRasterModel", "bound", "(IZZ)J"⟩, 17) := ⟨⟨by decide +kernel, by decide +kernel⟩, List.mem_of_getElem? (i := 424) (by decide +kernel), List.mem_of_getElem? (i := 628) (by decide +kernel), List.mem_of_getElem? (i := 629) (by decide +kernel)⟩
def lw_privs_2 : List (MethodName × Nat) := [(⟨"CurveRasterModel", "putRing", "(IIZ)V"⟩, 17), (⟨"CurveRasterModel", "putPiece", "(IIIZ)V"⟩, 17), (⟨"CurveRasterModel", "setPixels", "()I"⟩, 17), (⟨"CurveRasterModel", "isSet", "(II)Z"⟩, 17), (⟨"CurveRasterModel", "isIn", "(II)Z"⟩, 17), (⟨"CurveRasterModel", "windingOf", "(II)I"⟩, 17), (⟨"CurveRasterModel", "curveCount", "(III)I"⟩, 17), (⟨"CurveRasterModel", "isLeft", "(JJJZJJJ)Z"⟩, 17), (⟨"CurveRasterModel", "compareRoot", "(JJJZJJ)I"⟩, 17), (⟨"CurveRasterModel", "signAt", "(JJJJJ)I"⟩, 17), (⟨"CurveRasterModel", "addProduct", "(JJ)V"⟩, 17), (⟨"CurveRasterModel", "lineCount", "(III)I"⟩, 17), (⟨"CurveRasterModel", "bound", "(IZZ)J"⟩, 17)]
theorem lw_r2 : ∀ q ∈ lw_privs_2, lw_okq q := List.forall_mem_cons.mpr ⟨lw_p16, List.forall_mem_cons.mpr ⟨lw_p17, List.forall_mem_cons.mpr ⟨lw_p18, List.forall_mem_cons.mpr ⟨lw_p19, List.forall_mem_cons.mpr ⟨lw_p20, List.forall_mem_cons.mpr ⟨lw_p21, List.forall_mem_cons.mpr ⟨lw_p22, List.forall_mem_cons.mpr ⟨lw_p23, List.forall_mem_cons.mpr ⟨lw_p24, List.forall_mem_cons.mpr ⟨lw_p25, List.forall_mem_cons.mpr ⟨lw_p26, List.forall_mem_cons.mpr ⟨lw_p27, List.forall_mem_cons.mpr ⟨lw_p28, fun _ h => absurd h List.not_mem_nil⟩⟩⟩⟩⟩⟩⟩⟩⟩⟩⟩⟩⟩
def lw_privs : List (MethodName × Nat) := lw_privs_1 ++ (lw_privs_2)
def lw_tbl : List Cond := k2_sels lw_privs ++ tables_1
theorem lw_privs_ok : ∀ q ∈ lw_privs, lw_okq q := by
  show ∀ q ∈ lw_privs_1 ++ (lw_privs_2), lw_okq q
  exact List.forall_mem_append.mpr ⟨lw_r1, lw_r2⟩
/-! ===== BEGIN words of one list among another's, by their places ===== -/
theorem goodIn_r {big : List Cond} (ws : List Cond) (ps : List Nat) (hp : ws = ps.filterMap (fun i => big[i]?)) (h : ws.all goodWord = true) : GoodIn big ws := by
  intro w hw
  have h1 := List.all_eq_true.mp h w hw
  rw [hp] at hw
  obtain ⟨i, -, hi⟩ := List.mem_filterMap.mp hw
  have hm : w ∈ big := by first | exact List.mem_of_getElem? hi | exact List.getElem?_mem hi
  exact ⟨hm, good_of_word h1⟩
theorem goodIn_app {big a b : List Cond} (ha : GoodIn big a) (hb : GoodIn big b) : GoodIn big (a ++ b) := fun w h => (List.mem_append.mp h).elim (ha w) (hb w)
theorem goodIn_ca {big a b : List Cond} {c : Cond} (ha : GoodIn big (c :: a)) (hb : GoodIn big b) : GoodIn big (c :: (a ++ b)) := fun w h => (List.mem_cons.mp h).elim (fun e => ha w (List.mem_cons.mpr (Or.inl e))) (fun h => (List.mem_append.mp h).elim (fun h => ha w (List.mem_cons.mpr (Or.inr h))) (hb w))
theorem goodIn_sub {big ws : List Cond} (hm : ∀ w ∈ ws, w ∈ big) (h : ws.all goodWord = true) : GoodIn big ws := fun w hw => ⟨hm w hw, good_of_word (List.all_eq_true.mp h w hw)⟩
/-! ===== END ===== -/

/-! ===== BEGIN exceptions that leave a method, and their catching by the caller (launches without stack traces) ===== -/
section VXA
/-! The laws vx_back, vx_callV, vx_callS, vx_callSW, vx_throw0, vx_throwS follow proofs of the library, with one case more: JvmDerived/Free/Laws.lean (Back.of_free), Shelf42/LK1.lean (callV, callS), Shelf/KitTraced.lean (throwNew0V, throwNewS). -/
/-- where a method has thrown q: the class by its name, the cell, what was written, the world -/
def vx_T (XC : String → State → State → Prop) (st : State) (q : Addr) (t : State) (mc ms : Nat) (free : Addr → Prop) : Prop :=
  ∃ (E : String) (ce : Cell) (L : List Loc), XC E st t ∧ t.heap[q]? = some ce ∧ ce.vm = .none ∧ st.vm.findClass E = some ce.cls ∧ st.WarmedH t.vm ∧ st.sameButNew ({ t with vm := st.vm } : State) L mc ms ∧ ∀ z ∈ L, free z.base
def vx_Q (Qc : Array Value → State → Outcome → State → Prop) (XC : String → State → State → Prop) (mc ms : Nat) (free : Addr → Prop) : Array Value → State → Outcome → State → Prop := fun a st o t =>
  (Qc a st o t ∧ ∃ L, FrameEnd st o t L mc ms ∧ ∀ q ∈ L, free q.base) ∨ ∃ q, o = .threw q ∧ vx_T XC st q t mc ms free
/-- a callee that returns or throws -/
def vx_Met (l : Launch) (y : MethodName) (ws : List Cond) (rm : Room) (Pc : Array Value → State → Prop) (Qc : Array Value → State → Outcome → State → Prop) (XC : String → State → State → Prop) (mc ms : Nat) (free : Addr → Prop) : Prop :=
  MetFree l y (headSpec ws rm) Pc (fun _ _ _ _ _ => True) (vx_Q Qc XC mc ms free)
def vx_Post (XC : String → State → State → Prop) (mc ms : Nat) (free : Addr → Prop) : Pt → Array Value → Addr → Pt → Prop := fun A a q B =>
  ∃ (g : JFrame) (mk : MethodId) (t : State) (L : List Loc) (E : String) (ce : Cell), B.U.heap = t.heap ∧ B.U.vm = t.vm ∧ XC E (A.U.calling g mk a) t ∧ t.heap[q]? = some ce ∧ ce.vm = .none ∧ A.U.vm.findClass E = some ce.cls ∧ B.locs = A.locs ++ L ∧ (∀ z ∈ L, free z.base) ∧ B.cells = A.cells + mc ∧ B.slots = A.slots + ms
def vx_Back (l : Launch) (R : Room) (p : Program) (e : Env) (below : List Frame) (s : State) (sargs : Array Value) (y : MethodName) (len W9 : Nat)
    (Pre : Pt → Array Value → Prop) (Post : Pt → Array Value → Option Value → Pt → Prop) (PostX : Pt → Array Value → Addr → Pt → Prop) : Prop :=
  ∀ (m : MethodId) (meth : Method) (c : Code) (A : Pt) (g : JFrame) (ig : Instr) (mk : MethodId) (a : Array Value),
    Stand p l e R s m sargs below meth c A.U A.locs A.cells A.slots → g.method = m → g.locals.size = c.maxLocals → decode c.code g.pc = .ok (ig, len) →
    2 * g.monitorRoom + (g.stack.map fun v => v.category).sum ≤ W9 → A.U.methodNamed? y = some mk → Pre A a →
    (∃ (v : Option Value) (B : Pt), Stand p l e R s m sargs below meth c B.U B.locs B.cells B.slots ∧ Post A a v B ∧
      Steps p.tables e below (doInvoke e (A.U.setTop g) [] mk a).1 (B.U.setTop { g with pc := g.pc + len, stack := v.toList ++ g.stack })) ∨
    (∃ (q : Addr) (B : Pt), Stand p l e R s m sargs below meth c B.U B.locs B.cells B.slots ∧ PostX A a q B ∧
      Steps p.tables e below (doInvoke e (A.U.setTop g) [] mk a).1 ((B.U.setTop g).pushFrame (.throwing q)))
section Payer
variable {l : Launch} {R : Room} {p : Program} {e : Env} {below : List Frame} {s : State} {sargs : Array Value} {y : MethodName} {len W9 : Nat}
theorem vx_back {ws : List Cond} {rm : Room} {Pc : Array Value → State → Prop} {Qc : Array Value → State → Outcome → State → Prop} {XC : String → State → State → Prop} {mc ms : Nat} {free : Addr → Prop} {bytes : ByteArray} {maxL : Nat} {ret : Option FieldType}
    (hM : vx_Met l y ws rm Pc Qc XC mc ms free) (hblind : FrameBlind Pc) (hrc : rm.cells = mc) (hrs : rm.slots = ms)
    (hframes : rm.frames + 1 ≤ R.frames) (hlocals : W9 + (maxL + 11) + rm.locals ≤ R.locals)
    (hws : ∀ w ∈ ws, ∀ a' U, s.WarmedH U.vm → w.before a' U = true) (hcode : Cond.code y bytes maxL ret ∈ ws) (hinit : ∀ a' U, s.WarmedH U.vm → (Cond.initialized y.cls).before a' U = true) :
    vx_Back l R p e below s sargs y len W9 (PreOf R mc ms Pc) (PostOf Qc mc ms free) (vx_Post XC mc ms free) := by
  intro m meth c A g ig mk a X hg hsize hdg hW hn hp
  have h1 : (headSpec ws rm).pre.before a A.U = true := atoms_intro fun w hw => hws w hw _ _ X.warmed
  have h2 : (Cond.code y bytes maxL ret).before a A.U = true := hws _ hcode _ _ X.warmed
  have h3 : (Cond.initialized y.cls).before a A.U = true := hinit _ _ X.warmed
  have h4 : A.cells + (headSpec ws rm).room.cells ≤ R.cells := by rw [show (headSpec ws rm).room.cells = mc from hrc]; exact hp.1
  have h5 : A.slots + (headSpec ws rm).room.slots ≤ R.slots := by rw [show (headSpec ws rm).room.slots = ms from hrs]; exact hp.2.1
  have hPc : Pc a (A.U.calling g mk a) := hblind _ _ _ _ hp.2.2
  obtain ⟨U, Ls, c0, s0⟩ := A
  dsimp only [Pt.U, Pt.locs, Pt.cells, Pt.slots] at h1 h2 h3 h4 h5 X hn hPc ⊢
  obtain ⟨methY, cY, hmY, hcY, -, hlY, -, -, -, -⟩ := Cond.code_spec hn h2
  obtain ⟨kY, hkY, -⟩ := className_of_methodNamed hn
  have hinitY : kY.init = .initialized := Cond.initialized_spec (findClass_of_methodNamed hn) hkY h3
  have h : At U g.method c below := by rw [hg]; exact X.here
  have hlocals9 : W9 + (maxL + 11) + (headSpec ws rm).room.locals ≤ R.locals := hlocals
  have happ : (headSpec ws rm).appliesLoose y e.platform (U.calling g mk a) = true :=
    Spec.appliesLoose_calling (g := g) h hdg hn hkY hinitY
      (X.room_calling (g := g) (R' := (headSpec ws rm).room) hsize hmY hcY hframes (by rw [hlY]; omega) h4 h5) h1
  obtain ⟨mid, hmid⟩ := h.above
  have hfr : (U.setTop g).frames = (.java g :: mid) ++ below := by rw [State.frames_setTop' g h.top, hmid]; rfl
  obtain ⟨o, s₂, hsteps, -, hend, hq⟩ := Steps.callFree hM p X.admits X.cas X.clock (acts := []) hfr happ hPc trivial
  have hq' : vx_Q Qc XC mc ms free a (U.calling g mk a) o s₂ := hq
  rw [State.frames_setTop' g h.top] at hend
  obtain ⟨g₀, hg0⟩ := Option.isSome_iff_exists.mp h.top
  obtain ⟨r, hr⟩ := State.topJava?_eq_some.mp hg0
  have hr' : (({ U with heap := s₂.heap, slotsUsed := s₂.slotsUsed } : State).setVm s₂.vm).frames = .java g₀ :: r := hr
  rcases hq' with ⟨hqc, L, hfe, hL⟩ | ⟨q, rfl, E, ce, L, hx, hce, hcv, hcl, hW₂, hsm, hL⟩
  · obtain ⟨⟨v, rfl⟩, hW₂, e2, q2, q3, q4, q5, q6⟩ := id hfe
    have e3 : s₂ = ({ (U.calling g mk a).setFrames s₂.frames with heap := s₂.heap, slotsUsed := s₂.slotsUsed } : State).setVm s₂.vm := by
      have : s₂ = ({ s₂ with vm := (U.calling g mk a).vm } : State).setVm s₂.vm := rfl
      rw [e2] at this
      exact this
    obtain ⟨c₂, i₂, len₂, hc₂, hd₂, hf₂⟩ := hend
    have hW' : U.WarmedH s₂.vm := hW₂
    have hcc : c₂ = c := by
      have h1 : s₂.code? g.method = U.code? g.method := by
        rw [State.code?_eq, State.code?_eq, hW'.alike.method?]
      exact Option.some.inj (hc₂.symm.trans (h1.trans h.code))
    subst hcc
    have hlen : len₂ = len := by rw [hdg] at hd₂; cases hd₂; rfl
    subst hlen
    have hs₂ : s₂ = (({ U with heap := s₂.heap, slotsUsed := s₂.slotsUsed } : State).setVm s₂.vm).setTop { g with pc := g.pc + len₂, stack := v.toList ++ g.stack } := by
      refine e3.trans ?_
      rw [hf₂, State.calling_eq h.top, State.setFrames_setFrames, State.setTop_of_frames _ hr', hr]
      rfl
    have hsame : U.sameButNew ({ U with heap := s₂.heap, slotsUsed := s₂.slotsUsed } : State) L mc ms := by
      refine ⟨?_, q2, q3, q4, q5, q6⟩
      obtain ⟨t, ht, -⟩ := State.frames_cons hr
      show ({ U with heap := s₂.heap, slotsUsed := s₂.slotsUsed } : State) = { U.setFrames U.frames with heap := s₂.heap, slotsUsed := s₂.slotsUsed }
      rw [State.setFrames_self ht]
    subst hg
    refine Or.inl ⟨v, ⟨(({ U with heap := s₂.heap, slotsUsed := s₂.slotsUsed } : State).setVm s₂.vm), Ls ++ L, c0 + mc, s0 + ms⟩,
      ⟨X.admits, X.cas, X.clock, X.frames, X.room, X.hears, X.method, X.code, (X.here.setHeapUsed s₂.heap s₂.slotsUsed).setVm hW'.alike, X.tail, State.WarmedH.trans X.warmed hW', X.limits, X.bytes, X.same.trans (hsame.setVm s.vm)⟩,
      ⟨g, mk, s₂, L, rfl, rfl, hqc, rfl, hL, rfl, rfl⟩, ?_⟩
    show Steps p.tables e below _ ((({ U with heap := s₂.heap, slotsUsed := s₂.slotsUsed } : State).setVm s₂.vm).setTop { g with pc := g.pc + len₂, stack := v.toList ++ g.stack })
    rw [← hs₂]
    exact hsteps
  · obtain ⟨e2, q2, q3, q4, q5, q6⟩ := id hsm
    have e3 : s₂ = ({ (U.calling g mk a).setFrames s₂.frames with heap := s₂.heap, slotsUsed := s₂.slotsUsed } : State).setVm s₂.vm := by
      have : s₂ = ({ s₂ with vm := (U.calling g mk a).vm } : State).setVm s₂.vm := rfl
      rw [e2] at this
      exact this
    have hf₂ : s₂.frames = .throwing q :: .java g :: U.frames.tail := hend
    have hW' : U.WarmedH s₂.vm := hW₂
    have hs₂ : s₂ = ((({ U with heap := s₂.heap, slotsUsed := s₂.slotsUsed } : State).setVm s₂.vm).setTop g).pushFrame (.throwing q) := by
      refine e3.trans ?_
      rw [hf₂, State.calling_eq h.top, State.setFrames_setFrames, State.pushFrame, State.frames_setTop _ hr', State.setTop_of_frames _ hr', State.setFrames_setFrames, hr]
      rfl
    have hsame : U.sameButNew ({ U with heap := s₂.heap, slotsUsed := s₂.slotsUsed } : State) L mc ms := by
      refine ⟨?_, q2, q3, q4, q5, q6⟩
      obtain ⟨t, ht, -⟩ := State.frames_cons hr
      show ({ U with heap := s₂.heap, slotsUsed := s₂.slotsUsed } : State) = { U.setFrames U.frames with heap := s₂.heap, slotsUsed := s₂.slotsUsed }
      rw [State.setFrames_self ht]
    subst hg
    refine Or.inr ⟨q, ⟨(({ U with heap := s₂.heap, slotsUsed := s₂.slotsUsed } : State).setVm s₂.vm), Ls ++ L, c0 + mc, s0 + ms⟩,
      ⟨X.admits, X.cas, X.clock, X.frames, X.room, X.hears, X.method, X.code, (X.here.setHeapUsed s₂.heap s₂.slotsUsed).setVm hW'.alike, X.tail, State.WarmedH.trans X.warmed hW', X.limits, X.bytes, X.same.trans (hsame.setVm s.vm)⟩,
      ⟨g, mk, s₂, L, E, ce, rfl, rfl, hx, hce, hcv, hcl, rfl, hL, rfl, rfl⟩, ?_⟩
    show Steps p.tables e below _ (((({ U with heap := s₂.heap, slotsUsed := s₂.slotsUsed } : State).setVm s₂.vm).setTop g).pushFrame (.throwing q))
    rw [← hs₂]
    exact hsteps
end Payer
section Calls
variable {p : Program} {l : Launch} {e : Env} {R : Room} {s : State} {m : MethodId} {args : Array Value} {below : List Frame} {meth : Method} {c : Code} {T : State} {locs : List Loc} {cells slots : Nat}
theorem vx_callV (X : Stand p l e R s m args below meth c T locs cells slots) (hexec : p.tables.exec = Jvm.exec) {own C : String} {index : Nat} {y : MethodName} {bytes : ByteArray} {maxL : Nat} {ret : Option FieldType}
    (hown : s.vm.findClass own = some m.cls) (hlink : (Cond.methodLink own index y).before args s = true) (hinst : (Cond.instanceMethod y).before args s = true) (hsel : (Cond.selects C y y).before args s = true)
    (hcode : (Cond.code y bytes maxL ret).before args s = true) (hy : y.cls ≠ "java/lang/invoke/MethodHandle" ∧ y.cls ≠ "java/lang/invoke/VarHandle")
    {W9 : Nat} {Pre : Pt → Array Value → Prop} {Post : Pt → Array Value → Option Value → Pt → Prop} {PostX : Pt → Array Value → Addr → Pt → Prop} (hK : vx_Back l R p e below s args y 3 W9 Pre Post PostX)
    {b : Addr} {cellB : Cell} (hcell : T.heap[b]? = some cellB) (hobj : cellB.vm.isStatics = false) (hcls : s.vm.findClass C = some cellB.cls)
    {g : JFrame} (hg : g.method = m) (hsize : g.locals.size = c.maxLocals) {argsL rest : List Value} (hlen : ∀ sig, parseMethodDescriptor y.desc = some sig → argsL.length = sig.parameters.length)
    (hstack : g.stack = argsL.reverse ++ .ref b :: rest) (hW : 2 * g.monitorRoom + (rest.map fun v => v.category).sum ≤ W9) (hdg : decode c.code g.pc = .ok (.invokevirtual index, 3))
    (hpre : ∀ vm₁, s.WarmedH vm₁ → Pre ⟨T.setVm vm₁, locs, cells, slots⟩ (Value.ref b :: argsL).toArray) :
    (∃ (v : Option Value) (vm₁ : Vm) (B : Pt), s.WarmedH vm₁ ∧ Stand p l e R s m args below meth c B.U B.locs B.cells B.slots ∧ Post ⟨T.setVm vm₁, locs, cells, slots⟩ (Value.ref b :: argsL).toArray v B ∧
      ∀ target, Steps p.tables e below (B.U.setTop { g with pc := g.pc + 3, stack := v.toList ++ rest }) target → Steps p.tables e below (T.setTop g) target) ∨
    (∃ (q : Addr) (vm₁ : Vm) (B : Pt), s.WarmedH vm₁ ∧ Stand p l e R s m args below meth c B.U B.locs B.cells B.slots ∧ PostX ⟨T.setVm vm₁, locs, cells, slots⟩ (Value.ref b :: argsL).toArray q B ∧
      Steps p.tables e below (T.setTop g) ((B.U.setTop { g with stack := rest }).pushFrame (.throwing q))) := by
  obtain ⟨mk, methM, hnamed, hmethM, hstM, habM⟩ := Cond.instanceMethod_spec hinst
  obtain ⟨methM', cM, hmethM', -, -, -, -, -, -, hsigM⟩ := Cond.code_spec hnamed hcode
  cases hmethM.symm.trans hmethM'
  obtain ⟨c2, r2, m2, q1, q2, q3, q4, kP, hkP, hkPi⟩ := Cond.selects_spec hsel
  cases hcls.symm.trans q1
  cases (State.methodFound?_of_named hnamed hy).symm.trans q2
  cases hnamed.symm.trans q3
  have hselP : selectMethod e.platform s.vm cellB.cls mk = .method mk := by rw [Launch.admits_selectMethod X.admits]; exact q4
  obtain ⟨vm₁, X₁, hstep₁⟩ := X.invokevirtual hexec hown hlink hnamed hmethM hstM hkP hkPi hy (a := b) (cell := cellB) hcell
    (fun z h => by rw [h] at hobj; cases hobj) hselP hmethM habM hkP hkPi (g := g) hg (argsL := argsL) (rest := rest) (hlen _ hsigM) hstack hdg
  rcases hK m meth c ⟨T.setVm vm₁, locs, cells, slots⟩ { g with stack := rest } (.invokevirtual index) mk (Value.ref b :: argsL).toArray X₁ hg hsize hdg hW (X₁.named hnamed) (hpre vm₁ X₁.warmed) with ⟨v, B, X', hpost, hsteps⟩ | ⟨q, B, X', hpost, hsteps⟩
  · exact Or.inl ⟨v, vm₁, B, X₁.warmed, X', hpost, fun target h => hstep₁ _ fun acts => by rw [doInvoke_state]; exact hsteps.trans h⟩
  · exact Or.inr ⟨q, vm₁, B, X₁.warmed, X', hpost, hstep₁ _ fun acts => by rw [doInvoke_state]; exact hsteps⟩
theorem vx_callS (X : Stand p l e R s m args below meth c T locs cells slots) (hexec : p.tables.exec = Jvm.exec) {own : String} {index : Nat} {y : MethodName} {bytes : ByteArray} {maxL : Nat} {ret : Option FieldType}
    (hown : s.vm.findClass own = some m.cls) (hlink : (Cond.methodLink own index y).before args s = true) (hstat : (Cond.static y).before args s = true) (hinit : (Cond.initialized y.cls).before args s = true)
    (hcode : (Cond.code y bytes maxL ret).before args s = true) (hy : y.cls ≠ "java/lang/invoke/MethodHandle" ∧ y.cls ≠ "java/lang/invoke/VarHandle")
    {W9 : Nat} {Pre : Pt → Array Value → Prop} {Post : Pt → Array Value → Option Value → Pt → Prop} {PostX : Pt → Array Value → Addr → Pt → Prop} (hK : vx_Back l R p e below s args y 3 W9 Pre Post PostX)
    {g : JFrame} (hg : g.method = m) (hsize : g.locals.size = c.maxLocals) {argsL rest : List Value} (hlen : ∀ sig, parseMethodDescriptor y.desc = some sig → argsL.length = sig.parameters.length)
    (hstack : g.stack = argsL.reverse ++ rest) (hW : 2 * g.monitorRoom + (rest.map fun v => v.category).sum ≤ W9) (hdg : decode c.code g.pc = .ok (.invokestatic index, 3))
    (hpre : ∀ vm₁, s.WarmedH vm₁ → Pre ⟨T.setVm vm₁, locs, cells, slots⟩ argsL.toArray) :
    (∃ (v : Option Value) (vm₁ : Vm) (B : Pt), s.WarmedH vm₁ ∧ Stand p l e R s m args below meth c B.U B.locs B.cells B.slots ∧ Post ⟨T.setVm vm₁, locs, cells, slots⟩ argsL.toArray v B ∧
      ∀ target, Steps p.tables e below (B.U.setTop { g with pc := g.pc + 3, stack := v.toList ++ rest }) target → Steps p.tables e below (T.setTop g) target) ∨
    (∃ (q : Addr) (vm₁ : Vm) (B : Pt), s.WarmedH vm₁ ∧ Stand p l e R s m args below meth c B.U B.locs B.cells B.slots ∧ PostX ⟨T.setVm vm₁, locs, cells, slots⟩ argsL.toArray q B ∧
      Steps p.tables e below (T.setTop g) ((B.U.setTop { g with stack := rest }).pushFrame (.throwing q))) := by
  obtain ⟨mk, hnamed⟩ := Cond.code_named hcode
  obtain ⟨methM, cM, hmethM, -, -, -, -, -, -, hsigM⟩ := Cond.code_spec hnamed hcode
  have hstatic : methM.isStatic = true := Cond.static_spec hnamed hmethM hstat
  obtain ⟨kP, hkP, -⟩ := className_of_methodNamed hnamed
  have hinitP : kP.init = .initialized := Cond.initialized_spec (findClass_of_methodNamed hnamed) hkP hinit
  obtain ⟨vm₁, X₁, hstep₁⟩ := X.invokestatic hexec hown hlink hnamed hmethM hstatic hkP hinitP hy (g := g) hg (argsL := argsL) (rest := rest) (hlen _ hsigM) hstack hdg
  rcases hK m meth c ⟨T.setVm vm₁, locs, cells, slots⟩ { g with stack := rest } (.invokestatic index) mk argsL.toArray X₁ hg hsize hdg hW (X₁.named hnamed) (hpre vm₁ X₁.warmed) with ⟨v, B, X', hpost, hsteps⟩ | ⟨q, B, X', hpost, hsteps⟩
  · exact Or.inl ⟨v, vm₁, B, X₁.warmed, X', hpost, fun target h => hstep₁ _ fun acts => by rw [doInvoke_state]; exact hsteps.trans h⟩
  · exact Or.inr ⟨q, vm₁, B, X₁.warmed, X', hpost, hstep₁ _ fun acts => by rw [doInvoke_state]; exact hsteps⟩
end Calls
theorem vx_cls {s : State} {T : State} {vm₁ : Vm} {E : String} {k : ClassId} (hW : s.WarmedH vm₁) (h : (T.setVm vm₁).vm.findClass E = some k) : s.vm.findClass E = some k := by
  have h1 : vm₁.findClass E = some k := h
  rw [hW.alike.findClass] at h1
  exact h1
/-- the method's frame g, with q thrown over it -/
def vx_W (p : Program) (l : Launch) (e : Env) (R : Room) (s : State) (m : MethodId) (args : Array Value) (below : List Frame) (meth : Method) (c : Code) (H : Heap) (locs : List Loc) (cells slots : Nat) (Q : State → Prop) (g : JFrame) (q : Addr) : Prop :=
  ∀ T : State, T.heap = H → Stand p l e R s m args below meth c T locs cells slots → ∃ t, Steps p.tables e below ((T.setTop g).pushFrame (.throwing q)) t ∧ Q t
def vx_Run (p : Program) (l : Launch) (e : Env) (R : Room) (s : State) (m : MethodId) (args : Array Value) (below : List Frame) (meth : Method) (c : Code) (H : Heap) (locs : List Loc) (cells slots mc ms : Nat) (g : JFrame) (rest : List Value) (Qa : State → Outcome → State → Prop) (XC : String → State → State → Prop) (free : Addr → Prop) : Prop :=
  ∀ T : State, T.heap = H → Stand p l e R s m args below meth c T locs cells slots →
    (∃ (v : Option Value) (st₀ t T' : State) (L : List Loc), st₀.heap = H ∧ Stand p l e R s m args below meth c T' (locs ++ L) (cells + mc) (slots + ms) ∧ (∀ q ∈ L, free q.base) ∧ T'.heap = t.heap ∧ T'.vm = t.vm ∧ Qa st₀ (.returned v) t ∧
      Goes p e below T g T' { g with pc := g.pc + 3, stack := v.toList ++ rest }) ∨
    (∃ (q : Addr) (st₀ t T' : State) (L : List Loc) (E : String) (ce : Cell), st₀.heap = H ∧ Stand p l e R s m args below meth c T' (locs ++ L) (cells + mc) (slots + ms) ∧ (∀ z ∈ L, free z.base) ∧ T'.heap = t.heap ∧ T'.vm = t.vm ∧ XC E st₀ t ∧ t.heap[q]? = some ce ∧ ce.vm = .none ∧ s.vm.findClass E = some ce.cls ∧
      Steps p.tables e below (T.setTop g) ((T'.setTop { g with stack := rest }).pushFrame (.throwing q)))
def vx_X {S : Type} (px : S → Prop) (B : String → S → State → Prop) (A : Nat → Prop) : String → State → State → Prop := fun E st t => ∃ u : S, px u ∧ B E u t ∧ va_F A st t
section Runs
variable {p : Program} {l : Launch} {e : Env} {R : Room} {s : State} {m : MethodId} {args : Array Value} {below : List Frame} {meth : Method} {c : Code} {H : Heap} {locs : List Loc} {cells slots : Nat}
variable {y : MethodName} {bytes cc : ByteArray} {maxL nL mc ms n index : Nat} {ret : Option FieldType} {ws : List Cond} {rm : Room} {Pc : Array Value → State → Prop} {Qc : Array Value → State → Outcome → State → Prop} {XC : String → State → State → Prop} {free : Addr → Prop} {Ts : List Cond} {own C : String} {b : Addr} {As rest : List Value} {g : JFrame}
theorem vx_callBack (cb : CallB R s args own index y bytes maxL ret ws rm mc ms n) (hM : vx_Met l y ws rm Pc Qc XC mc ms free) (hbl : FrameBlind Pc) : vx_Back l R p e below s args y 3 8 (PreOf R mc ms Pc) (PostOf Qc mc ms free) (vx_Post XC mc ms free) := by
  obtain ⟨hrc, hrs, hfr, hlo, hws, hcw, -, hini, -⟩ := cb
  exact vx_back (bytes := bytes) (maxL := maxL) (ret := ret) hM hbl hrc hrs hfr hlo hws hcw (fun a' U hW => word_at hW (Or.inl (by first | rfl | simp [Cond.onTables, Cond.keeps, Cond.steady])) hini)
theorem vx_runV (S : CallFix p m c cc nL s args Ts own) (hM : vx_Met l y ws rm Pc Qc XC mc ms free) (cw : CallW R s args own C index y bytes maxL ret ws rm mc ms n) (hp : PreV s H C b Pc As)
    (hg : g.method = m) (hn : As.length = n) (hsize : g.locals.size = nL) (hstack : g.stack = As.reverse ++ .ref b :: rest) (hW : 2 * g.monitorRoom + (rest.map fun v => v.category).sum ≤ 8) (hdg : decode cc g.pc = .ok (.invokevirtual index, 3)) (hf : cells + mc ≤ R.cells ∧ slots + ms ≤ R.slots) :
    vx_Run p l e R s m args below meth c H locs cells slots mc ms g rest (Qc (Value.ref b :: As).toArray) XC free := by
  have hK : vx_Back l R p e below s args y 3 8 (PreOf R mc ms Pc) (PostOf Qc mc ms free) (vx_Post XC mc ms free) := vx_callBack cw.1 hM hp.1
  obtain ⟨⟨-, -, -, -, -, -, hcode, -, hy, hlen, hl⟩, hin, hse⟩ := cw
  obtain ⟨hx, hb, hml, ho, -⟩ := S
  obtain ⟨-, ⟨cellB, hcB, hoB, hclB⟩, hPc⟩ := hp
  intro T hT X
  rcases vx_callV X hx (C := C) (bytes := bytes) (maxL := maxL) (ret := ret) ho hl hin hse hcode hy hK (by rw [hT]; exact hcB) hoB hclB hg (hsize.trans hml.symm) (argsL := As) (rest := rest) (fun sig h => hn.trans (hlen sig h)) hstack hW (by rw [hb]; exact hdg)
    (fun vm₁ hW₁ => ⟨hf.1, hf.2, hPc (T.setVm vm₁) hT hW₁⟩) with ⟨v, vm₁, ⟨U', l2, c2, s2⟩, hW₁, X', ⟨g', mk, t, L, e1, e2, hq, h1, hL, h2, h3⟩, st⟩ | ⟨q, vm₁, ⟨U', l2, c2, s2⟩, hW₁, X', ⟨g', mk, t, L, E, ce, e1, e2, hq, hce, hcv, hcl, h1, hL, h2, h3⟩, st⟩
  · dsimp only [Pt.U, Pt.locs, Pt.cells, Pt.slots] at X' e1 e2 h1 h2 h3 st
    subst h1; subst h2; subst h3
    exact Or.inl ⟨v, (T.setVm vm₁).calling g' mk (Value.ref b :: As).toArray, t, U', L, hT, X', hL, e1, e2, hq, st⟩
  · dsimp only [Pt.U, Pt.locs, Pt.cells, Pt.slots] at X' e1 e2 h1 h2 h3 st hcl
    subst h1; subst h2; subst h3
    exact Or.inr ⟨q, (T.setVm vm₁).calling g' mk (Value.ref b :: As).toArray, t, U', L, E, ce, hT, X', hL, e1, e2, hq, hce, hcv, vx_cls hW₁ hcl, st⟩
theorem vx_runS (S : CallFix p m c cc nL s args Ts own) (hM : vx_Met l y ws rm Pc Qc XC mc ms free) (cw : CallB R s args own index y bytes maxL ret ws rm mc ms n ∧ (Cond.static y).before args s = true) (hp : PreS s H Pc As)
    (hg : g.method = m) (hn : As.length = n) (hsize : g.locals.size = nL) (hstack : g.stack = As.reverse ++ rest) (hW : 2 * g.monitorRoom + (rest.map fun v => v.category).sum ≤ 8) (hdg : decode cc g.pc = .ok (.invokestatic index, 3)) (hf : cells + mc ≤ R.cells ∧ slots + ms ≤ R.slots) :
    vx_Run p l e R s m args below meth c H locs cells slots mc ms g rest (Qc As.toArray) XC free := by
  have hK : vx_Back l R p e below s args y 3 8 (PreOf R mc ms Pc) (PostOf Qc mc ms free) (vx_Post XC mc ms free) := vx_callBack cw.1 hM hp.1
  obtain ⟨⟨-, -, -, -, -, -, hcode, hini, hy, hlen, hl⟩, hstt⟩ := cw
  obtain ⟨hx, hb, hml, ho, -⟩ := S
  intro T hT X
  rcases vx_callS X hx (bytes := bytes) (maxL := maxL) (ret := ret) ho hl hstt hini hcode hy hK hg (hsize.trans hml.symm) (argsL := As) (rest := rest) (fun sig h => hn.trans (hlen sig h)) hstack hW (by rw [hb]; exact hdg)
    (fun vm₁ hW₁ => ⟨hf.1, hf.2, hp.2 (T.setVm vm₁) hT hW₁⟩) with ⟨v, vm₁, ⟨U', l2, c2, s2⟩, hW₁, X', ⟨g', mk, t, L, e1, e2, hq, h1, hL, h2, h3⟩, st⟩ | ⟨q, vm₁, ⟨U', l2, c2, s2⟩, hW₁, X', ⟨g', mk, t, L, E, ce, e1, e2, hq, hce, hcv, hcl, h1, hL, h2, h3⟩, st⟩
  · dsimp only [Pt.U, Pt.locs, Pt.cells, Pt.slots] at X' e1 e2 h1 h2 h3 st
    subst h1; subst h2; subst h3
    exact Or.inl ⟨v, (T.setVm vm₁).calling g' mk As.toArray, t, U', L, hT, X', hL, e1, e2, hq, st⟩
  · dsimp only [Pt.U, Pt.locs, Pt.cells, Pt.slots] at X' e1 e2 h1 h2 h3 st hcl
    subst h1; subst h2; subst h3
    exact Or.inr ⟨q, (T.setVm vm₁).calling g' mk As.toArray, t, U', L, E, ce, hT, X', hL, e1, e2, hq, hce, hcv, vx_cls hW₁ hcl, st⟩
end Runs
section Rows
variable {p : Program} {l : Launch} {e : Env} {R : Room} {s : State} {m : MethodId} {args : Array Value} {below : List Frame} {meth : Method} {c : Code} {H : Heap} {locs : List Loc} {cells slots : Nat} {Q : State → Prop}
variable {mc ms : Nat} {free : Addr → Prop} {A0 A1 : Nat → Prop} {H0 : Heap} {a : Array Value} {pc : Nat} {ls : Array Slot} {st0 rest : List Value}
theorem vx_keep {st₀ t T' : State} {L : List Loc} (h0 : st₀.heap = H) (e1 : T'.heap = t.heap) (hS : va_S A0 H0 H locs) (hA : ∀ q, q < H.size → A1 q → A0 q) (hf : ∀ q, free q → A0 q) (hL : ∀ q ∈ L, free q.base) (hF : va_F A1 st₀ t) :
    H.size ≤ T'.heap.size ∧ (∀ q : Nat, q < H.size → ¬ A1 q → T'.heap[q]? = H[q]?) ∧ va_S A0 H0 T'.heap (locs ++ L) := by
  obtain ⟨hz, hk⟩ := hF
  rw [h0] at hz hk
  exact ⟨by rw [e1]; exact hz, fun q h1 h2 => by rw [e1]; exact hk q h1 h2,
    ⟨Nat.le_trans hS.1 (by rw [e1]; exact hz), fun q h1 h2 => by rw [e1, hk q (Nat.lt_of_lt_of_le h1 hS.1) (fun z => h2 (hA q (Nat.lt_of_lt_of_le h1 hS.1) z))]; exact hS.2.1 q h1 h2, fun q hq => by
      rcases List.mem_append.mp hq with h | h
      · exact hS.2.2 q h
      · exact hf _ (hL q h)⟩⟩
theorem vx_calli {S SX : Type} {post : Int32 → S → Prop} {px : SX → Prop} {B : S → State → Prop} {BX : String → SX → State → Prop} {AX : Nat → Prop} (hr : vx_Run p l e R s m args below meth c H locs cells slots mc ms (F0 m pc ls st0) rest (va_Qi post B A1 a) (vx_X px BX AX) free) (hS : va_S A0 H0 H locs) (hA : ∀ q, q < H.size → A1 q → A0 q) (hf : ∀ q, free q → A0 q) (hAX : ∀ q, q < H.size → AX q → A0 q)
    (kx : ∀ (E : String) (ce : Cell) (q9 : Addr) (u : SX) (t : State) (H1 : Heap) (locs1 : List Loc), t.heap = H1 → s.vm.Alike t.vm → px u → BX E u t → H.size ≤ H1.size → (∀ q : Nat, q < H.size → ¬ AX q → H1[q]? = H[q]?) → va_S A0 H0 H1 locs1 → H1[q9]? = some ce → ce.vm = .none → s.vm.findClass E = some ce.cls → vx_W p l e R s m args below meth c H1 locs1 (cells + mc) (slots + ms) Q (F0 m pc ls rest) q9)
    (kk : ∀ (r : Int32) (u : S) (t : State) (H1 : Heap) (locs1 : List Loc), t.heap = H1 → s.vm.Alike t.vm → post r u → B u t → H.size ≤ H1.size → (∀ q : Nat, q < H.size → ¬ A1 q → H1[q]? = H[q]?) → va_S A0 H0 H1 locs1 → W p l e R s m args below meth c H1 locs1 (cells + mc) (slots + ms) Q (F0 m (pc + 3) ls (.int r :: rest))) : W p l e R s m args below meth c H locs cells slots Q (F0 m pc ls st0) := by
  intro T hT X
  rcases hr T hT X with ⟨v, st₀, t, T', L, h0, X', hL, e1, e2, ⟨⟨r, u, hv, hp, hb⟩, hF⟩, st⟩ | ⟨q, st₀, t, T', L, E, ce, h0, X', hL, e1, e2, ⟨u, hp, hb, hF⟩, hce, hcv, hcl, st⟩
  · cases hv
    obtain ⟨k1, k2, k3⟩ := vx_keep h0 e1 hS hA hf hL hF
    obtain ⟨t2, a1, b1⟩ := kk r u t T'.heap (locs ++ L) e1.symm (by rw [← e2]; exact X'.warmed.alike) hp hb k1 k2 k3 T' rfl X'
    exact ⟨t2, st t2 a1, b1⟩
  · obtain ⟨k1, k2, k3⟩ := vx_keep h0 e1 hS hAX hf hL hF
    obtain ⟨t2, a1, b1⟩ := kx E ce q u t T'.heap (locs ++ L) e1.symm (by rw [← e2]; exact X'.warmed.alike) hp hb k1 k2 k3 (by rw [e1]; exact hce) hcv hcl T' rfl X'
    exact ⟨t2, st.trans a1, b1⟩
theorem vx_calll {S SX : Type} {post : Int64 → S → Prop} {px : SX → Prop} {B : S → State → Prop} {BX : String → SX → State → Prop} {AX : Nat → Prop} (hr : vx_Run p l e R s m args below meth c H locs cells slots mc ms (F0 m pc ls st0) rest (va_Ql post B A1 a) (vx_X px BX AX) free) (hS : va_S A0 H0 H locs) (hA : ∀ q, q < H.size → A1 q → A0 q) (hf : ∀ q, free q → A0 q) (hAX : ∀ q, q < H.size → AX q → A0 q)
    (kx : ∀ (E : String) (ce : Cell) (q9 : Addr) (u : SX) (t : State) (H1 : Heap) (locs1 : List Loc), t.heap = H1 → s.vm.Alike t.vm → px u → BX E u t → H.size ≤ H1.size → (∀ q : Nat, q < H.size → ¬ AX q → H1[q]? = H[q]?) → va_S A0 H0 H1 locs1 → H1[q9]? = some ce → ce.vm = .none → s.vm.findClass E = some ce.cls → vx_W p l e R s m args below meth c H1 locs1 (cells + mc) (slots + ms) Q (F0 m pc ls rest) q9)
    (kk : ∀ (r : Int64) (u : S) (t : State) (H1 : Heap) (locs1 : List Loc), t.heap = H1 → s.vm.Alike t.vm → post r u → B u t → H.size ≤ H1.size → (∀ q : Nat, q < H.size → ¬ A1 q → H1[q]? = H[q]?) → va_S A0 H0 H1 locs1 → W p l e R s m args below meth c H1 locs1 (cells + mc) (slots + ms) Q (F0 m (pc + 3) ls (.long r :: rest))) : W p l e R s m args below meth c H locs cells slots Q (F0 m pc ls st0) := by
  intro T hT X
  rcases hr T hT X with ⟨v, st₀, t, T', L, h0, X', hL, e1, e2, ⟨⟨r, u, hv, hp, hb⟩, hF⟩, st⟩ | ⟨q, st₀, t, T', L, E, ce, h0, X', hL, e1, e2, ⟨u, hp, hb, hF⟩, hce, hcv, hcl, st⟩
  · cases hv
    obtain ⟨k1, k2, k3⟩ := vx_keep h0 e1 hS hA hf hL hF
    obtain ⟨t2, a1, b1⟩ := kk r u t T'.heap (locs ++ L) e1.symm (by rw [← e2]; exact X'.warmed.alike) hp hb k1 k2 k3 T' rfl X'
    exact ⟨t2, st t2 a1, b1⟩
  · obtain ⟨k1, k2, k3⟩ := vx_keep h0 e1 hS hAX hf hL hF
    obtain ⟨t2, a1, b1⟩ := kx E ce q u t T'.heap (locs ++ L) e1.symm (by rw [← e2]; exact X'.warmed.alike) hp hb k1 k2 k3 (by rw [e1]; exact hce) hcv hcl T' rfl X'
    exact ⟨t2, st.trans a1, b1⟩
theorem vx_callf {S SX : Type} {post : UInt32 → S → Prop} {px : SX → Prop} {B : S → State → Prop} {BX : String → SX → State → Prop} {AX : Nat → Prop} (hr : vx_Run p l e R s m args below meth c H locs cells slots mc ms (F0 m pc ls st0) rest (va_Qf post B A1 a) (vx_X px BX AX) free) (hS : va_S A0 H0 H locs) (hA : ∀ q, q < H.size → A1 q → A0 q) (hf : ∀ q, free q → A0 q) (hAX : ∀ q, q < H.size → AX q → A0 q)
    (kx : ∀ (E : String) (ce : Cell) (q9 : Addr) (u : SX) (t : State) (H1 : Heap) (locs1 : List Loc), t.heap = H1 → s.vm.Alike t.vm → px u → BX E u t → H.size ≤ H1.size → (∀ q : Nat, q < H.size → ¬ AX q → H1[q]? = H[q]?) → va_S A0 H0 H1 locs1 → H1[q9]? = some ce → ce.vm = .none → s.vm.findClass E = some ce.cls → vx_W p l e R s m args below meth c H1 locs1 (cells + mc) (slots + ms) Q (F0 m pc ls rest) q9)
    (kk : ∀ (r : UInt32) (u : S) (t : State) (H1 : Heap) (locs1 : List Loc), t.heap = H1 → s.vm.Alike t.vm → post r u → B u t → H.size ≤ H1.size → (∀ q : Nat, q < H.size → ¬ A1 q → H1[q]? = H[q]?) → va_S A0 H0 H1 locs1 → W p l e R s m args below meth c H1 locs1 (cells + mc) (slots + ms) Q (F0 m (pc + 3) ls (.float r :: rest))) : W p l e R s m args below meth c H locs cells slots Q (F0 m pc ls st0) := by
  intro T hT X
  rcases hr T hT X with ⟨v, st₀, t, T', L, h0, X', hL, e1, e2, ⟨⟨r, u, hv, hp, hb⟩, hF⟩, st⟩ | ⟨q, st₀, t, T', L, E, ce, h0, X', hL, e1, e2, ⟨u, hp, hb, hF⟩, hce, hcv, hcl, st⟩
  · cases hv
    obtain ⟨k1, k2, k3⟩ := vx_keep h0 e1 hS hA hf hL hF
    obtain ⟨t2, a1, b1⟩ := kk r u t T'.heap (locs ++ L) e1.symm (by rw [← e2]; exact X'.warmed.alike) hp hb k1 k2 k3 T' rfl X'
    exact ⟨t2, st t2 a1, b1⟩
  · obtain ⟨k1, k2, k3⟩ := vx_keep h0 e1 hS hAX hf hL hF
    obtain ⟨t2, a1, b1⟩ := kx E ce q u t T'.heap (locs ++ L) e1.symm (by rw [← e2]; exact X'.warmed.alike) hp hb k1 k2 k3 (by rw [e1]; exact hce) hcv hcl T' rfl X'
    exact ⟨t2, st.trans a1, b1⟩
theorem vx_calld {S SX : Type} {post : UInt64 → S → Prop} {px : SX → Prop} {B : S → State → Prop} {BX : String → SX → State → Prop} {AX : Nat → Prop} (hr : vx_Run p l e R s m args below meth c H locs cells slots mc ms (F0 m pc ls st0) rest (va_Qd post B A1 a) (vx_X px BX AX) free) (hS : va_S A0 H0 H locs) (hA : ∀ q, q < H.size → A1 q → A0 q) (hf : ∀ q, free q → A0 q) (hAX : ∀ q, q < H.size → AX q → A0 q)
    (kx : ∀ (E : String) (ce : Cell) (q9 : Addr) (u : SX) (t : State) (H1 : Heap) (locs1 : List Loc), t.heap = H1 → s.vm.Alike t.vm → px u → BX E u t → H.size ≤ H1.size → (∀ q : Nat, q < H.size → ¬ AX q → H1[q]? = H[q]?) → va_S A0 H0 H1 locs1 → H1[q9]? = some ce → ce.vm = .none → s.vm.findClass E = some ce.cls → vx_W p l e R s m args below meth c H1 locs1 (cells + mc) (slots + ms) Q (F0 m pc ls rest) q9)
    (kk : ∀ (r : UInt64) (u : S) (t : State) (H1 : Heap) (locs1 : List Loc), t.heap = H1 → s.vm.Alike t.vm → post r u → B u t → H.size ≤ H1.size → (∀ q : Nat, q < H.size → ¬ A1 q → H1[q]? = H[q]?) → va_S A0 H0 H1 locs1 → W p l e R s m args below meth c H1 locs1 (cells + mc) (slots + ms) Q (F0 m (pc + 3) ls (.double r :: rest))) : W p l e R s m args below meth c H locs cells slots Q (F0 m pc ls st0) := by
  intro T hT X
  rcases hr T hT X with ⟨v, st₀, t, T', L, h0, X', hL, e1, e2, ⟨⟨r, u, hv, hp, hb⟩, hF⟩, st⟩ | ⟨q, st₀, t, T', L, E, ce, h0, X', hL, e1, e2, ⟨u, hp, hb, hF⟩, hce, hcv, hcl, st⟩
  · cases hv
    obtain ⟨k1, k2, k3⟩ := vx_keep h0 e1 hS hA hf hL hF
    obtain ⟨t2, a1, b1⟩ := kk r u t T'.heap (locs ++ L) e1.symm (by rw [← e2]; exact X'.warmed.alike) hp hb k1 k2 k3 T' rfl X'
    exact ⟨t2, st t2 a1, b1⟩
  · obtain ⟨k1, k2, k3⟩ := vx_keep h0 e1 hS hAX hf hL hF
    obtain ⟨t2, a1, b1⟩ := kx E ce q u t T'.heap (locs ++ L) e1.symm (by rw [← e2]; exact X'.warmed.alike) hp hb k1 k2 k3 (by rw [e1]; exact hce) hcv hcl T' rfl X'
    exact ⟨t2, st.trans a1, b1⟩
theorem vx_callv {S SX : Type} {post : S → Prop} {px : SX → Prop} {B : S → State → Prop} {BX : String → SX → State → Prop} {AX : Nat → Prop} (hr : vx_Run p l e R s m args below meth c H locs cells slots mc ms (F0 m pc ls st0) rest (va_Qv post B A1 a) (vx_X px BX AX) free) (hS : va_S A0 H0 H locs) (hA : ∀ q, q < H.size → A1 q → A0 q) (hf : ∀ q, free q → A0 q) (hAX : ∀ q, q < H.size → AX q → A0 q)
    (kx : ∀ (E : String) (ce : Cell) (q9 : Addr) (u : SX) (t : State) (H1 : Heap) (locs1 : List Loc), t.heap = H1 → s.vm.Alike t.vm → px u → BX E u t → H.size ≤ H1.size → (∀ q : Nat, q < H.size → ¬ AX q → H1[q]? = H[q]?) → va_S A0 H0 H1 locs1 → H1[q9]? = some ce → ce.vm = .none → s.vm.findClass E = some ce.cls → vx_W p l e R s m args below meth c H1 locs1 (cells + mc) (slots + ms) Q (F0 m pc ls rest) q9)
    (kk : ∀ (u : S) (t : State) (H1 : Heap) (locs1 : List Loc), t.heap = H1 → s.vm.Alike t.vm → post u → B u t → H.size ≤ H1.size → (∀ q : Nat, q < H.size → ¬ A1 q → H1[q]? = H[q]?) → va_S A0 H0 H1 locs1 → W p l e R s m args below meth c H1 locs1 (cells + mc) (slots + ms) Q (F0 m (pc + 3) ls (rest))) : W p l e R s m args below meth c H locs cells slots Q (F0 m pc ls st0) := by
  intro T hT X
  rcases hr T hT X with ⟨v, st₀, t, T', L, h0, X', hL, e1, e2, ⟨⟨u, hv, hp, hb⟩, hF⟩, st⟩ | ⟨q, st₀, t, T', L, E, ce, h0, X', hL, e1, e2, ⟨u, hp, hb, hF⟩, hce, hcv, hcl, st⟩
  · cases hv
    obtain ⟨k1, k2, k3⟩ := vx_keep h0 e1 hS hA hf hL hF
    obtain ⟨t2, a1, b1⟩ := kk u t T'.heap (locs ++ L) e1.symm (by rw [← e2]; exact X'.warmed.alike) hp hb k1 k2 k3 T' rfl X'
    exact ⟨t2, st t2 a1, b1⟩
  · obtain ⟨k1, k2, k3⟩ := vx_keep h0 e1 hS hAX hf hL hF
    obtain ⟨t2, a1, b1⟩ := kx E ce q u t T'.heap (locs ++ L) e1.symm (by rw [← e2]; exact X'.warmed.alike) hp hb k1 k2 k3 (by rw [e1]; exact hce) hcv hcl T' rfl X'
    exact ⟨t2, st.trans a1, b1⟩
/-- caught by the row x of this method's table; the rows ahead don't take it -/
theorem vx_catch {own name : String} {E : String} {ce : Cell} {q : Addr} (hown : s.vm.findClass own = some m.cls) (pre : List ExceptionTableEntry) (x : ExceptionTableEntry) (suf : List ExceptionTableEntry) (hsplit : c.exceptionTable.toList = pre ++ x :: suf)
    (hpass : ∀ z ∈ pre, covers z pc = false ∨ (z.catchType ≠ 0 ∧ ∃ nm : String, (Cond.classLink own z.catchType nm).before args s = true ∧ va_Nc E nm s)) (hx : covers x pc = true) (h0 : x.catchType ≠ 0)
    (hlink : (Cond.classLink own x.catchType name).before args s = true) (hcast : (Cond.castable E name).before args s = true) (hcell : H[q]? = some ce) (hv : ce.vm = .none) (hcl : s.vm.findClass E = some ce.cls)
    (kk : W p l e R s m args below meth c H locs cells slots Q (F0 m x.handlerPc ls [.ref q])) : vx_W p l e R s m args below meth c H locs cells slots Q (F0 m pc ls rest) q := by
  intro T hT X
  have hpl : e.platform.magicAccessors = ({} : Platform).magicAccessors := by rw [X.admits.platform]
  obtain ⟨c3, c4, hc3, hc4, hasg⟩ := Cond.castable_spec hcast
  cases Option.some.inj (hc3.symm.trans hcl)
  obtain ⟨c5, hc5, hcl5⟩ := Cond.classLink_spec hown hlink e.platform hpl
  cases Option.some.inj (hc4.symm.trans hc5)
  obtain ⟨vm', X', st⟩ := X.thenCaughtThrough q (g := F0 m pc ls rest) rfl (Steps.refl _) (by rw [hT]; exact hcell) (by rw [hv]; rfl) (by obtain ⟨k9, h9, -⟩ := Vm.findClass_spec hcl; exact ⟨k9, h9⟩) pre x suf hsplit
    (fun z hz => by
      rcases hpass z hz with h | ⟨hz0, nm, hl1, hn1⟩
      · exact Or.inl h
      · obtain ⟨c6, hc6, hcl6⟩ := Cond.classLink_spec hown hl1 e.platform hpl
        obtain ⟨a8, b8, h1, h2, h3⟩ := hn1
        cases Option.some.inj (h1.symm.trans hcl)
        cases Option.some.inj (h2.symm.trans hc6)
        exact Or.inr ⟨hz0, _, hcl6, h3⟩) hx (Or.inr ⟨h0, c4, hcl5, hasg⟩)
  obtain ⟨t, a1, b1⟩ := kk (T.setVm vm') hT X'
  exact ⟨t, st.trans a1, b1⟩
end Rows
section Ends
variable {p : Program} {l : Launch} {e : Env} {R : Room} {s : State} {m : MethodId} {args : Array Value} {below : List Frame} {meth : Method} {c : Code} {H : Heap} {locs : List Loc} {cells slots : Nat} {Q : State → Prop}
variable {mc ms : Nat} {free : Addr → Prop} {A0 A1 : Nat → Prop} {H0 : Heap} {a : Array Value} {ls : Array Slot} {st0 rest : List Value}
variable {Qc : Array Value → State → Outcome → State → Prop} {XC : String → State → State → Prop}
/-- what a body that may throw owes at its end -/
def vx_MQ (below : List Frame) (Qc : Array Value → State → Outcome → State → Prop) (XC : String → State → State → Prop) (a : Array Value) (s : State) (mc ms : Nat) (free : Addr → Prop) : State → Prop := fun t =>
  ∃ o, t.status = .running ∧ Ended t below o ∧ vx_Q Qc XC mc ms free a s o t
theorem vx_ret {g : JFrame} {mc ms : Nat} (k : W p l e R s m args below meth c H locs cells slots (MQ below Qc args s mc ms free) g) : W p l e R s m args below meth c H locs cells slots (vx_MQ below Qc XC args s mc ms free) g := by
  intro T hT X
  obtain ⟨t, a1, o, b1, b2, b3, b4⟩ := k T hT X
  exact ⟨t, a1, o, b1, b2, Or.inl ⟨b3, b4⟩⟩
/-- not caught here: it goes on to the caller -/
theorem vx_widen {g : JFrame} {q : Addr} {k n : Nat} (h1 : cells ≤ k) (h2 : slots ≤ n) (kk : vx_W p l e R s m args below meth c H locs k n Q g q) : vx_W p l e R s m args below meth c H locs cells slots Q g q := fun T hT X => kk T hT (stand_widen X h1 h2)
theorem vx_out {pc : Nat} {E : String} {ce : Cell} {q : Addr} {mc ms : Nat} (hout : ∀ x ∈ c.exceptionTable.toList, covers x pc = false) (hlocks : meth.locks = false) (hcell : H[q]? = some ce) (hv : ce.vm = .none) (hcl : s.vm.findClass E = some ce.cls)
    (hx : ∀ t : State, t.heap = H → s.vm.Alike t.vm → XC E s t) (hf : ∀ z ∈ locs, free z.base) (hc : cells ≤ mc) (hs : slots ≤ ms) :
    vx_W p l e R s m args below meth c H locs cells slots (vx_MQ below Qc XC args s mc ms free) (F0 m pc ls rest) q := by
  intro T hT X
  obtain ⟨st1, hrun, hend, hW, hsm⟩ := X.leaveThrown q (g := F0 m pc ls rest) rfl rfl rfl hout hlocks
  have hcell9 : (T.setFrames (.throwing q :: below)).heap[q]? = some ce := by
    show T.heap[q]? = some ce
    rw [hT]; exact hcell
  exact ⟨_, st1, .threw q, hrun, hend, Or.inr ⟨q, rfl, E, ce, locs, hx _ hT hW.alike, hcell9, hv, hcl, hW, hsm.mono hc hs, hf⟩⟩
theorem vx_frame {U : State} {k n : Nat} (h : s.sameButNew ({ U with vm := s.vm } : State) locs k n) : s.heap.size ≤ U.heap.size ∧ ∀ q : Nat, q < s.heap.size → (∀ z ∈ locs, z.base ≠ q) → U.heap[q]? = s.heap[q]? := by
  obtain ⟨-, h2, -, -, -, h6⟩ := h
  refine ⟨h2, fun q hq hz => ?_⟩
  obtain ⟨c9, e1, e2, e3, e4⟩ := h6 q _ (Array.getElem?_eq_getElem hq)
  have hs : c9.slots = (s.heap[q]).slots := Array.ext_getElem? fun i => e4 i fun hm => hz _ hm rfl
  have h9 : c9 = s.heap[q] := by
    rw [hs] at e2
    exact e2
  have e5 : U.heap[q]? = some c9 := e1
  rw [e5, h9, Array.getElem?_eq_getElem hq]
/-- the words of a throw but the four that speak of the heap -/
def vx_no (w : Cond) : Bool := decide (w ≠ .isRef (.static Bundle.tN "UNASSIGNED_STACK" Bundle.steD)) && decide (w ≠ .isRef (.static Bundle.tN "SUPPRESSED_SENTINEL" Bundle.listD)) && decide (w ≠ .laysStatic Bundle.tN "UNASSIGNED_STACK" Bundle.steD) && decide (w ≠ .laysStatic Bundle.tN "SUPPRESSED_SENTINEL" Bundle.listD)
def vx_at0 (own : String) (ic : Nat) (X : String) (names : List String) : List Cond := (Bundle.ownAtoms0 own ic X names).filter vx_no
def vx_atS (own : String) (ic : Nat) (X : String) (names : List String) : List Cond := (Bundle.ownAtoms own ic X names).filter vx_no
/-- a word that the tables alone decide, or a good one -/
def vx_ot (w : Cond) : Bool := w.onTables || goodWord w
theorem vx_ot_at {args a' : Array Value} {s U : State} {w : Cond} (hW : s.WarmedH U.vm) (hvm : s.vm = U.vm) (hg : vx_ot w = true) (h : w.before args s = true) : w.before a' U = true := by
  simp only [vx_ot, Bool.or_eq_true] at hg
  rcases hg with hg | hg
  · exact va_tabs hg hvm h
  · exact word_at hW (good_of_word hg) h
/-- a list's words: the good ones out of the method's own list, the others by premises of their own -/
theorem vx_hat {args : Array Value} {s : State} {L B : List Cond} (h1 : ∀ w ∈ L.filter goodWord, w.before args s = true) (h2 : ∀ w ∈ L.filter (fun w => !goodWord w), w ∈ B) (h3 : ∀ w ∈ B, w.before args s = true) : ∀ w ∈ L, w.before args s = true := by
  intro w hw
  by_cases g : goodWord w = true
  · exact h1 w (List.mem_filter.mpr ⟨hw, g⟩)
  · refine h3 w (h2 w (List.mem_filter.mpr ⟨hw, ?_⟩))
    show (!goodWord w) = true
    cases hgw : goodWord w
    · rfl
    · exact absurd hgw g
theorem vx_c {args : Array Value} {s : State} {w : Cond} {B : List Cond} (h : w.before args s = true) (t : ∀ w ∈ B, w.before args s = true) : ∀ w' ∈ w :: B, w'.before args s = true := fun w' h' => (List.mem_cons.mp h').elim (fun e => by rw [e]; exact h) (t w')
theorem vx_n {args : Array Value} {s : State} : ∀ w ∈ ([] : List Cond), w.before args s = true := fun _ h => nomatch h
theorem vx_own {args : Array Value} {s : State} {L : List Cond} (h1 : ∀ w ∈ L.filter vx_no, w.before args s = true)
    (hU : (Cond.isRef (.static Bundle.tN "UNASSIGNED_STACK" Bundle.steD)).before args s = true) (hN : (Cond.isRef (.static Bundle.tN "SUPPRESSED_SENTINEL" Bundle.listD)).before args s = true)
    (lU : (Cond.laysStatic Bundle.tN "UNASSIGNED_STACK" Bundle.steD).before args s = true) (lN : (Cond.laysStatic Bundle.tN "SUPPRESSED_SENTINEL" Bundle.listD).before args s = true) : ∀ w ∈ L, w.before args s = true := by
  intro w hw
  by_cases e1 : w = .isRef (.static Bundle.tN "UNASSIGNED_STACK" Bundle.steD)
  · rw [e1]; exact hU
  · by_cases e2 : w = .isRef (.static Bundle.tN "SUPPRESSED_SENTINEL" Bundle.listD)
    · rw [e2]; exact hN
    · by_cases e3 : w = .laysStatic Bundle.tN "UNASSIGNED_STACK" Bundle.steD
      · rw [e3]; exact lU
      · by_cases e4 : w = .laysStatic Bundle.tN "SUPPRESSED_SENTINEL" Bundle.listD
        · rw [e4]; exact lN
        · exact h1 w (List.mem_filter.mpr ⟨hw, by unfold vx_no; rw [decide_eq_true e1, decide_eq_true e2, decide_eq_true e3, decide_eq_true e4]; rfl⟩)
/-- where a static field lies, its class's statics cell in H -/
def vx_L (C n d : String) (A : Nat → Prop) (U : State) (H : Heap) : Prop := ∃ (c : ClassId) (k : Class) (i : Nat) (f : Field) (a : Nat) (cell : Cell), U.vm.findClass C = some c ∧ U.fieldFound? C n d = some (c, k, i, f) ∧ f.isStatic = true ∧ k.statics = some a ∧ H[a]? = some cell ∧ cell.vm.isStatics = true ∧ cell.cls = c ∧ f.slot < cell.slots.size ∧ k.staticTypes[f.slot]? = some f.type ∧ ¬ A a
theorem vx_L.moved {C n d : String} {A : Nat → Prop} {u U : State} {H : Heap} (hvm : u.vm.Alike U.vm) (h : vx_L C n d A u H) : vx_L C n d A U H := by
  obtain ⟨c, k, i, f, a, cell, h1, h2, h3, h4, h5, h6, h7, h8, h9, h10⟩ := h
  obtain ⟨k', hi', he⟩ := State.fieldFound?_setVm hvm h2
  exact ⟨c, k', i, f, a, cell, by rw [hvm.findClass]; exact h1, hi', h3, by rw [he]; exact h4, h5, h6, h7, h8, by rw [he]; exact h9, h10⟩
theorem vx_L.kept {C n d : String} {A : Nat → Prop} {U : State} {H H1 : Heap} (h : vx_L C n d A U H) (hq : ∀ a : Nat, a < H.size → ¬ A a → H1[a]? = H[a]?) : vx_L C n d A U H1 := by
  obtain ⟨c, k, i, f, a, cell, h1, h2, h3, h4, h5, h6, h7, h8, h9, h10⟩ := h
  exact ⟨c, k, i, f, a, cell, h1, h2, h3, h4, by rw [hq a (Array.getElem?_eq_some_iff.mp h5).1 h10]; exact h5, h6, h7, h8, h9, h10⟩
theorem vx_L.narrow {C n d : String} {A B : Nat → Prop} {U : State} {H : Heap} (h : vx_L C n d A U H) (hAB : ∀ q, B q → A q) : vx_L C n d B U H := by
  obtain ⟨c, k, i, f, a, cell, h1, h2, h3, h4, h5, h6, h7, h8, h9, h10⟩ := h
  exact ⟨c, k, i, f, a, cell, h1, h2, h3, h4, h5, h6, h7, h8, h9, fun z => h10 (hAB _ z)⟩
theorem vx_L.word {C n d : String} {A : Nat → Prop} {s : State} {args : Array Value} (h : vx_L C n d A s s.heap) : (Cond.laysStatic C n d).before args s = true := by
  obtain ⟨c, k, i, f, a, cell, h1, h2, h3, h4, h5, h6, h7, h8, h9, -⟩ := h
  show (Cond.laysStatic C n d).holds args s none s [] = true
  exact Cond.laysStatic_of h1 h2 h3 h4 h5 h6 h7 h8 h9
/-- .. and what it holds: null or some reference -/
def vx_Zq (C n d : String) (A : Nat → Prop) (U : State) (H : Heap) : Prop := va_Zq C n d A U H ∧ vx_L C n d A U H
theorem vx_Zq.moved {C n d : String} {A : Nat → Prop} {u U : State} {H : Heap} (hvm : u.vm.Alike U.vm) (h : vx_Zq C n d A u H) : vx_Zq C n d A U H := ⟨va_Zq.moved hvm h.1, vx_L.moved hvm h.2⟩
theorem vx_Zq.kept {C n d : String} {A : Nat → Prop} {U : State} {H H1 : Heap} (h : vx_Zq C n d A U H) (hq : ∀ a : Nat, a < H.size → ¬ A a → H1[a]? = H[a]?) : vx_Zq C n d A U H1 := ⟨va_Zq.kept h.1 hq, vx_L.kept h.2 hq⟩
theorem vx_Zq.narrow {C n d : String} {A B : Nat → Prop} {U : State} {H : Heap} (h : vx_Zq C n d A U H) (hAB : ∀ q, B q → A q) : vx_Zq C n d B U H := ⟨va_Zq.narrow h.1 hAB, vx_L.narrow h.2 hAB⟩
theorem vx_Zqof {args : Array Value} {s : State} {C n d : String} {A : Nat → Prop} (hl : (Cond.laysStatic C n d).before args s = true) (hini : (Cond.initialized C).before args s = true) (h : (Cond.isRef (.static C n d)).before args s = true) (hA : ∀ a : Nat, a < s.heap.size → ¬ A a) : vx_Zq C n d A s s.heap := by
  refine ⟨va_Zqof hl hini h hA, ?_⟩
  obtain ⟨c, k, i, f, a, cell, h1, h2, h3, h4, h5, h6, h7, h8, h9⟩ := Cond.laysStatic_spec hl
  exact ⟨c, k, i, f, a, cell, h1, h2, h3, h4, h5, h6, h7, h8, h9, hA a (Array.getElem?_eq_some_iff.mp h5).1⟩
theorem vx_isRef {C n d : String} {v : Value} {A : Nat → Prop} {s : State} {args : Array Value} (h : va_Z C n d v A s s.heap) (hv : v.isRef = true) : (Cond.isRef (.static C n d)).before args s = true := by
  obtain ⟨cf, kf, fi, f, a, cell, h1, h2, h3, h4, h5, h6, h7, -⟩ := h
  have he : (Term.static C n d).eval args s none [] s = some v := by
    simp [Term.eval, State.fieldNamed?, h1, h2, h4, h5, h6, h7]
  simp only [Cond.before, Cond.holds, Cond.value, he]
  cases v <;> simp_all [Value.isRef]
theorem vx_isRefq {C n d : String} {A : Nat → Prop} {s : State} {args : Array Value} (h : va_Zq C n d A s s.heap) : (Cond.isRef (.static C n d)).before args s = true := by
  rcases h with h | ⟨t, h⟩
  · exact vx_isRef h rfl
  · exact vx_isRef h rfl
/-- the same frame, seen from here: as if the method were called anew in this heap -/
theorem vx_rebase {T : State} (X : Stand p l e R s m args below meth c T locs cells slots) {R' : Room} (hf : R'.frames ≤ R.frames) (hl : R'.locals ≤ R.locals) (hc : cells + R'.cells ≤ R.cells) (hs : slots + R'.slots ≤ R.slots) :
    Stand p l e R' ((T.setVm s.vm).setFrames (.invoking m args :: below)) m args below meth c T [] 0 0 := by
  have htop : (T.setVm s.vm).topJava?.isSome := X.here.top
  have hF : ((T.setVm s.vm).setFrames (.invoking m args :: below)).frames = .invoking m args :: below := State.frames_setFrames _ (State.cur_lt_of_top htop)
  obtain ⟨g₀, hg0⟩ := Option.isSome_iff_exists.mp htop
  obtain ⟨r, hr⟩ := State.topJava?_eq_some.mp hg0
  have hl9 : e.platform.stackLimits (T.setVm s.vm).me = e.platform.stackLimits s.me := X.limits
  have hb9 : (T.setVm s.vm).me.stackBytes = s.me.stackBytes := X.bytes
  refine ⟨X.admits, X.cas, X.clock, hF, ?_, X.hears, X.method, X.code, X.here, X.tail, X.warmed, ?_, ?_, ?_⟩
  · have h := X.room
    have hU : ((T.setVm s.vm).setFrames (.invoking m args :: below)).localsInUse = s.localsInUse := by
      rw [State.localsInUse_invoking hF (meth := meth) (c := c) X.method X.code, State.localsInUse_invoking X.frames X.method X.code]
    simp only [State.hasRoom, Bool.and_eq_true, decide_eq_true_eq] at h ⊢
    obtain ⟨⟨⟨⟨h1, h2, h3, h4, h5, h6⟩, h7⟩, h8⟩, h9⟩ := h
    rw [X.frames, List.length_cons] at h2 h3
    have q1 := X.heapSize
    have q2 := X.used
    simp only [hF, hU, List.length_cons, State.stackLimits_setFrames, State.stackBytes_setFrames, hl9, hb9]
    refine ⟨⟨⟨⟨by omega, by omega, by omega, by omega, by omega, h6⟩, ?_⟩, ?_⟩, X.book⟩
    · show T.heap.size + R'.cells ≤ e.platform.maxCells
      omega
    · show T.slotsUsed + R'.slots ≤ e.platform.maxSlots
      omega
  · rw [State.stackLimits_setFrames]; rfl
  · rw [State.stackBytes_setFrames]; rfl
  · refine ⟨?_, Nat.le_refl _, Nat.le_refl _, ?_, ?_, fun a c9 h9 => ⟨c9, h9, rfl, rfl, fun _ _ => rfl⟩⟩
    · obtain ⟨t, ht, -⟩ := State.frames_cons hr
      show T.setVm s.vm = { ((T.setVm s.vm).setFrames (.invoking m args :: below)).setFrames (T.setVm s.vm).frames with heap := T.heap, slotsUsed := T.slotsUsed }
      rw [State.setFrames_setFrames, State.setFrames_self ht]
      rfl
    · show T.slotsUsed = T.slotsUsed + ((T.heap.toList.drop T.heap.size).map (·.slots.size)).sum
      rw [List.drop_eq_nil_of_le (Nat.le_of_eq Array.length_toList)]
      rfl
    · show ((T.heap.toList.drop T.heap.size).map (·.slots.size)).sum ≤ 0
      rw [List.drop_eq_nil_of_le (Nat.le_of_eq Array.length_toList)]
      exact Nat.le_refl _
/-- 'throw new E()': new; dup; invokespecial; athrow -/
theorem vx_throw0 {cc : ByteArray} {pc : Nat} (hexec : p.tables.exec = Jvm.exec) (hb : c.code = cc) (hl : l.stackTraces = false) {own cls : String} {names : List String} {ik ic mc ms : Nat} {A : Nat → Prop}
    (hown : s.vm.findClass own = some m.cls) (hcls : Bundle.fit cls = true) (hnames : ∀ n ∈ names, Bundle.fit n = true)
    (hk : (Cond.classLink own ik cls).before args s = true) (hini : (Cond.initialized cls).before args s = true) (hat : ∀ w ∈ vx_at0 own ic cls names, w.before args s = true)
    (hgood : ∀ w ∈ Cond.classLink own ik cls :: Cond.initialized cls :: vx_at0 own ic cls names, vx_ot w = true)
    (hU : vx_Zq Bundle.tN "UNASSIGNED_STACK" Bundle.steD A s s.heap) (hN : vx_Zq Bundle.tN "SUPPRESSED_SENTINEL" Bundle.listD A s s.heap) (hS : va_S A s.heap H locs) (hsize : ls.size = c.maxLocals)
    (d0 : decode cc pc = .ok (.new ik, 3)) (d3 : decode cc (pc + 3) = .ok (.dup, 1)) (d4 : decode cc (pc + 4) = .ok (.invokespecial ic, 3)) (d7 : decode cc (pc + 7) = .ok (.athrow, 1))
    (hout : ∀ x ∈ c.exceptionTable.toList, covers x (pc + 7) = false)
    (hRframes : names.length + 3 < R.frames) (hRlocals : (rest.map fun v => v.category).sum + (13 * (names.length + 1) + 42) ≤ R.locals) (hRcells : cells + 1 ≤ R.cells) (hRslots : slots + 6 ≤ R.slots) (hlocks : meth.locks = false)
    (hx : ∀ t : State, s.vm.Alike t.vm → H.size ≤ t.heap.size → (∀ q : Nat, q < H.size → t.heap[q]? = H[q]?) → XC cls s t)
    (hf : ∀ z ∈ locs, free z.base) (hc : cells + 1 ≤ mc) (hs : slots + 6 ≤ ms) :
    W p l e R s m args below meth c H locs cells slots (vx_MQ below Qc XC args s mc ms free) (F0 m pc ls rest) := by
  intro T hT X
  have htr : e.platform.stackTraces = false := (show e.platform.stackTraces = l.stackTraces by rw [X.admits.platform]).trans hl
  have Y := vx_rebase X (R' := { frames := R.frames, locals := R.locals, cells := 1, slots := 6 }) (Nat.le_refl _) (Nat.le_refl _) hRcells hRslots
  obtain ⟨s', hA⟩ : ∃ z, z = (T.setVm s.vm).setFrames (.invoking m args :: below) := ⟨_, rfl⟩
  rw [← hA] at Y
  have hvm : s'.vm = s.vm := by rw [hA]; rfl
  have hhp : s'.heap = H := by rw [hA]; exact hT
  have hW0 : s.WarmedH s'.vm := by rw [hvm]; exact State.WarmedH.refl s
  have hat' : ∀ w ∈ vx_at0 own ic cls names, w.before args s' = true := fun w hw => vx_ot_at hW0 hvm.symm (hgood w (List.mem_cons_of_mem _ (List.mem_cons_of_mem _ hw))) (hat w hw)
  have hk' : (Cond.classLink own ik cls).before args s' = true := vx_ot_at hW0 hvm.symm (hgood _ List.mem_cons_self) hk
  have hini' : (Cond.initialized cls).before args s' = true := vx_ot_at hW0 hvm.symm (hgood _ (List.mem_cons_of_mem _ List.mem_cons_self)) hini
  have hU' : vx_Zq Bundle.tN "UNASSIGNED_STACK" Bundle.steD A s' s'.heap := by rw [hhp]; exact vx_Zq.moved hW0.alike (hU.kept hS.2.1)
  have hN' : vx_Zq Bundle.tN "SUPPRESSED_SENTINEL" Bundle.listD A s' s'.heap := by rw [hhp]; exact vx_Zq.moved hW0.alike (hN.kept hS.2.1)
  have h : ∀ w ∈ Bundle.ownAtoms0 own ic cls names, w.before args s' = true := vx_own hat' (vx_isRefq hU'.1) (vx_isRefq hN'.1) hU'.2.word hN'.2.word
  have hown' : s'.vm.findClass own = some m.cls := by rw [hvm]; exact hown
  have hins : (Cond.instantiable cls 6).before args s' = true := h _ (by simp [Bundle.ownAtoms0])
  obtain ⟨vm₁, cX, kX, hfX, hkX, -, -, X₁, st1⟩ := Y.newCold hexec (own := own) (C := cls) (index := ik) (n := 6) hown' hk' hins hini'
    (g := F0 m pc ls rest) rfl (by rw [hb]; exact d0) (Nat.le_refl _) (Nat.le_refl _)
  generalize hT1 : (T.setVm vm₁).pushCell { cls := cX, slots := kX.instanceTypes.map defaultValue, vm := .none } = T1 at X₁ st1
  have hcat : (Value.ref T.heap.size).category = 1 := rfl
  have hcellA : T1.heap[T.heap.size]? = some (freshCell cX kX) := by rw [← hT1]; exact State.heap_pushCell_size _ _
  have d3' : decode c.code (pc + 3) = .ok (.dup, 1) := by rw [hb]; exact d3
  obtain ⟨U, hsteps, hrun, hend, hW, hsame, ce, hce, hO⟩ := X₁.ctorThrow0 hexec htr (own := own) (cls := cls) (names := names) (ic := ic) hown' hcls hnames h (fun x hx => nomatch hx) hfX hkX hcellA (by rw [hhp, hT]; exact Nat.le_refl _)
    (g := { method := m, pc := pc + 4, locals := ls, stack := .ref T.heap.size :: .ref T.heap.size :: rest, locked := none }) rfl hsize rfl rfl (rest := rest) rfl
    (by rw [hb]; exact d4) (by rw [hb]; exact d7) hout hRframes (by simp only [List.map_cons, List.sum_cons, hcat]; omega) hlocks
  obtain ⟨f1, f2⟩ := vx_frame hsame
  rw [hhp] at f1 f2
  have hWs : s.WarmedH U.vm := State.WarmedH.trans hW0 hW
  have hcl : s.vm.findClass cls = some ce.cls := by
    have h9 := hO.cls
    rw [hvm] at h9
    exact h9
  have hall : s.sameButNew ({ U with vm := s.vm } : State) locs mc ms := by
    subst hA
    obtain ⟨e1, e2⟩ := hsame
    rw [State.setFrames_setFrames] at e1
    have h2 : (T.setVm s.vm).sameButNew ({ U with vm := s.vm } : State) [] (0 + 1) (0 + 6) := ⟨e1, e2⟩
    have h3 := X.same.trans h2
    rw [List.append_nil] at h3
    exact h3.mono hc hs
  refine ⟨U, ?_, .threw T.heap.size, hrun, hend, Or.inr ⟨T.heap.size, rfl, cls, ce, locs, hx U hWs.alike f1 (fun q hq => f2 q hq (fun z hz => nomatch hz)), hce, hO.vm, hcl, hWs, hall, hf⟩⟩
  refine st1 _ ?_
  show Steps p.tables e below (T1.setTop { method := m, pc := pc + 3, locals := ls, stack := .ref T.heap.size :: rest, locked := none }) _
  jvm_step X₁.here [X₁.here.top, hexec, d3', Value.category]
  exact hsteps
/-- 'throw new E("text")': new; dup; ldc; invokespecial; athrow -/
theorem vx_throwS {cc : ByteArray} {pc : Nat} (hexec : p.tables.exec = Jvm.exec) (hb : c.code = cc) (hl : l.stackTraces = false) {own cls text : String} {names : List String} {ik is ic mc ms sa : Nat} {A : Nat → Prop}
    (hown : s.vm.findClass own = some m.cls) (hcls : Bundle.fit cls = true) (hnames : ∀ n ∈ names, Bundle.fit n = true)
    (hk : (Cond.classLink own ik cls).before args s = true) (hini : (Cond.initialized cls).before args s = true) (hstr : vk_R own is text sa s) (hat : ∀ w ∈ vx_atS own ic cls names, w.before args s = true)
    (hgood : ∀ w ∈ Cond.classLink own ik cls :: Cond.initialized cls :: vx_atS own ic cls names, vx_ot w = true)
    (hU : vx_Zq Bundle.tN "UNASSIGNED_STACK" Bundle.steD A s s.heap) (hN : vx_Zq Bundle.tN "SUPPRESSED_SENTINEL" Bundle.listD A s s.heap) (hS : va_S A s.heap H locs) (hsize : ls.size = c.maxLocals)
    (d0 : decode cc pc = .ok (.new ik, 3)) (d3 : decode cc (pc + 3) = .ok (.dup, 1)) (d4 : decode cc (pc + 4) = .ok (.ldc is, 2)) (d6 : decode cc (pc + 6) = .ok (.invokespecial ic, 3)) (d9 : decode cc (pc + 9) = .ok (.athrow, 1))
    (hout : ∀ x ∈ c.exceptionTable.toList, covers x (pc + 9) = false)
    (hRframes : names.length + 3 < R.frames) (hRlocals : (rest.map fun v => v.category).sum + (13 * (names.length + 1) + 43) ≤ R.locals) (hRcells : cells + 1 ≤ R.cells) (hRslots : slots + 6 ≤ R.slots) (hlocks : meth.locks = false)
    (hx : ∀ t : State, s.vm.Alike t.vm → H.size ≤ t.heap.size → (∀ q : Nat, q < H.size → t.heap[q]? = H[q]?) → XC cls s t)
    (hf : ∀ z ∈ locs, free z.base) (hc : cells + 1 ≤ mc) (hs : slots + 6 ≤ ms) :
    W p l e R s m args below meth c H locs cells slots (vx_MQ below Qc XC args s mc ms free) (F0 m pc ls rest) := by
  intro T hT X
  have htr : e.platform.stackTraces = false := (show e.platform.stackTraces = l.stackTraces by rw [X.admits.platform]).trans hl
  have Y := vx_rebase X (R' := { frames := R.frames, locals := R.locals, cells := 1, slots := 6 }) (Nat.le_refl _) (Nat.le_refl _) hRcells hRslots
  obtain ⟨s', hA⟩ : ∃ z, z = (T.setVm s.vm).setFrames (.invoking m args :: below) := ⟨_, rfl⟩
  rw [← hA] at Y
  have hvm : s'.vm = s.vm := by rw [hA]; rfl
  have hhp : s'.heap = H := by rw [hA]; exact hT
  have hW0 : s.WarmedH s'.vm := by rw [hvm]; exact State.WarmedH.refl s
  have hat' : ∀ w ∈ vx_atS own ic cls names, w.before args s' = true := fun w hw => vx_ot_at hW0 hvm.symm (hgood w (List.mem_cons_of_mem _ (List.mem_cons_of_mem _ hw))) (hat w hw)
  have hk' : (Cond.classLink own ik cls).before args s' = true := vx_ot_at hW0 hvm.symm (hgood _ List.mem_cons_self) hk
  have hini' : (Cond.initialized cls).before args s' = true := vx_ot_at hW0 hvm.symm (hgood _ (List.mem_cons_of_mem _ List.mem_cons_self)) hini
  have hU' : vx_Zq Bundle.tN "UNASSIGNED_STACK" Bundle.steD A s' s'.heap := by rw [hhp]; exact vx_Zq.moved hW0.alike (hU.kept hS.2.1)
  have hN' : vx_Zq Bundle.tN "SUPPRESSED_SENTINEL" Bundle.listD A s' s'.heap := by rw [hhp]; exact vx_Zq.moved hW0.alike (hN.kept hS.2.1)
  have h : ∀ w ∈ Bundle.ownAtoms own ic cls names, w.before args s' = true := vx_own hat' (vx_isRefq hU'.1) (vx_isRefq hN'.1) hU'.2.word hN'.2.word
  have hown' : s'.vm.findClass own = some m.cls := by rw [hvm]; exact hown
  have hins : (Cond.instantiable cls 6).before args s' = true := h _ (by simp [Bundle.ownAtoms])
  obtain ⟨vm₁, cX, kX, hfX, hkX, -, -, X₁, st1⟩ := Y.newCold hexec (own := own) (C := cls) (index := ik) (n := 6) hown' hk' hins hini'
    (g := F0 m pc ls rest) rfl (by rw [hb]; exact d0) (Nat.le_refl _) (Nat.le_refl _)
  generalize hT1 : (T.setVm vm₁).pushCell { cls := cX, slots := kX.instanceTypes.map defaultValue, vm := .none } = T1 at X₁ st1
  have hcat : (Value.ref T.heap.size).category = 1 := rfl
  have hcellA : T1.heap[T.heap.size]? = some (freshCell cX kX) := by rw [← hT1]; exact State.heap_pushCell_size _ _
  have d3' : decode c.code (pc + 3) = .ok (.dup, 1) := by rw [hb]; exact d3
  have d4' : decode c.code (pc + 4) = .ok (.ldc is, 2) := by rw [hb]; exact d4
  have hstr' : vk_R own is text sa s' := vk_R.warm hW0 hstr
  obtain ⟨U, hsteps, hrun, hend, hW, hsame, ce, hce, hO⟩ := X₁.ctorThrowS hexec htr (own := own) (cls := cls) (names := names) (ic := ic) hown' hcls hnames h (fun x hx => nomatch hx) hfX hkX hcellA (by rw [hhp, hT]; exact Nat.le_refl _) (msg := .ref sa) rfl
    (g := { method := m, pc := pc + 6, locals := ls, stack := .ref sa :: .ref T.heap.size :: .ref T.heap.size :: rest, locked := none }) rfl hsize rfl rfl (rest := rest) rfl
    (by rw [hb]; exact d6) (by rw [hb]; exact d9) hout hRframes (by simp only [List.map_cons, List.sum_cons, hcat]; omega) hlocks
  obtain ⟨f1, f2⟩ := vx_frame hsame
  rw [hhp] at f1 f2
  have hWs : s.WarmedH U.vm := State.WarmedH.trans hW0 hW
  have hcl : s.vm.findClass cls = some ce.cls := by
    have h9 := hO.cls
    rw [hvm] at h9
    exact h9
  have hall : s.sameButNew ({ U with vm := s.vm } : State) locs mc ms := by
    subst hA
    obtain ⟨e1, e2⟩ := hsame
    rw [State.setFrames_setFrames] at e1
    have h2 : (T.setVm s.vm).sameButNew ({ U with vm := s.vm } : State) [] (0 + 1) (0 + 6) := ⟨e1, e2⟩
    have h3 := X.same.trans h2
    rw [List.append_nil] at h3
    exact h3.mono hc hs
  refine ⟨U, ?_, .threw T.heap.size, hrun, hend, Or.inr ⟨T.heap.size, rfl, cls, ce, locs, hx U hWs.alike f1 (fun q hq => f2 q hq (fun z hz => nomatch hz)), hce, hO.vm, hcl, hWs, hall, hf⟩⟩
  refine st1 _ ?_
  show Steps p.tables e below (T1.setTop { method := m, pc := pc + 3, locals := ls, stack := .ref T.heap.size :: rest, locked := none }) _
  jvm_step X₁.here [X₁.here.top, hexec, d3', Value.category]
  exact X₁.ldcString hexec (own := own) (text := text) (index := is) (a := sa) hown' hstr'.1 hstr'.2
    (g := { method := m, pc := pc + 4, locals := ls, stack := .ref T.heap.size :: .ref T.heap.size :: rest, locked := none }) rfl d4' _ hsteps
/-- 'throw new E("text")', the text by a wide index -/
theorem vx_throwSW {cc : ByteArray} {pc : Nat} (hexec : p.tables.exec = Jvm.exec) (hb : c.code = cc) (hl : l.stackTraces = false) {own cls text : String} {names : List String} {ik is ic mc ms sa : Nat} {A : Nat → Prop}
    (hown : s.vm.findClass own = some m.cls) (hcls : Bundle.fit cls = true) (hnames : ∀ n ∈ names, Bundle.fit n = true)
    (hk : (Cond.classLink own ik cls).before args s = true) (hini : (Cond.initialized cls).before args s = true) (hstr : vk_R own is text sa s) (hat : ∀ w ∈ vx_atS own ic cls names, w.before args s = true)
    (hgood : ∀ w ∈ Cond.classLink own ik cls :: Cond.initialized cls :: vx_atS own ic cls names, vx_ot w = true)
    (hU : vx_Zq Bundle.tN "UNASSIGNED_STACK" Bundle.steD A s s.heap) (hN : vx_Zq Bundle.tN "SUPPRESSED_SENTINEL" Bundle.listD A s s.heap) (hS : va_S A s.heap H locs) (hsize : ls.size = c.maxLocals)
    (d0 : decode cc pc = .ok (.new ik, 3)) (d3 : decode cc (pc + 3) = .ok (.dup, 1)) (d4 : decode cc (pc + 4) = .ok (.ldc_w is, 3)) (d7 : decode cc (pc + 7) = .ok (.invokespecial ic, 3)) (d10 : decode cc (pc + 10) = .ok (.athrow, 1))
    (hout : ∀ x ∈ c.exceptionTable.toList, covers x (pc + 10) = false)
    (hRframes : names.length + 3 < R.frames) (hRlocals : (rest.map fun v => v.category).sum + (13 * (names.length + 1) + 43) ≤ R.locals) (hRcells : cells + 1 ≤ R.cells) (hRslots : slots + 6 ≤ R.slots) (hlocks : meth.locks = false)
    (hx : ∀ t : State, s.vm.Alike t.vm → H.size ≤ t.heap.size → (∀ q : Nat, q < H.size → t.heap[q]? = H[q]?) → XC cls s t)
    (hf : ∀ z ∈ locs, free z.base) (hc : cells + 1 ≤ mc) (hs : slots + 6 ≤ ms) :
    W p l e R s m args below meth c H locs cells slots (vx_MQ below Qc XC args s mc ms free) (F0 m pc ls rest) := by
  intro T hT X
  have htr : e.platform.stackTraces = false := (show e.platform.stackTraces = l.stackTraces by rw [X.admits.platform]).trans hl
  have Y := vx_rebase X (R' := { frames := R.frames, locals := R.locals, cells := 1, slots := 6 }) (Nat.le_refl _) (Nat.le_refl _) hRcells hRslots
  obtain ⟨s', hA⟩ : ∃ z, z = (T.setVm s.vm).setFrames (.invoking m args :: below) := ⟨_, rfl⟩
  rw [← hA] at Y
  have hvm : s'.vm = s.vm := by rw [hA]; rfl
  have hhp : s'.heap = H := by rw [hA]; exact hT
  have hW0 : s.WarmedH s'.vm := by rw [hvm]; exact State.WarmedH.refl s
  have hat' : ∀ w ∈ vx_atS own ic cls names, w.before args s' = true := fun w hw => vx_ot_at hW0 hvm.symm (hgood w (List.mem_cons_of_mem _ (List.mem_cons_of_mem _ hw))) (hat w hw)
  have hk' : (Cond.classLink own ik cls).before args s' = true := vx_ot_at hW0 hvm.symm (hgood _ List.mem_cons_self) hk
  have hini' : (Cond.initialized cls).before args s' = true := vx_ot_at hW0 hvm.symm (hgood _ (List.mem_cons_of_mem _ List.mem_cons_self)) hini
  have hU' : vx_Zq Bundle.tN "UNASSIGNED_STACK" Bundle.steD A s' s'.heap := by rw [hhp]; exact vx_Zq.moved hW0.alike (hU.kept hS.2.1)
  have hN' : vx_Zq Bundle.tN "SUPPRESSED_SENTINEL" Bundle.listD A s' s'.heap := by rw [hhp]; exact vx_Zq.moved hW0.alike (hN.kept hS.2.1)
  have h : ∀ w ∈ Bundle.ownAtoms own ic cls names, w.before args s' = true := vx_own hat' (vx_isRefq hU'.1) (vx_isRefq hN'.1) hU'.2.word hN'.2.word
  have hown' : s'.vm.findClass own = some m.cls := by rw [hvm]; exact hown
  have hins : (Cond.instantiable cls 6).before args s' = true := h _ (by simp [Bundle.ownAtoms])
  obtain ⟨vm₁, cX, kX, hfX, hkX, -, -, X₁, st1⟩ := Y.newCold hexec (own := own) (C := cls) (index := ik) (n := 6) hown' hk' hins hini'
    (g := F0 m pc ls rest) rfl (by rw [hb]; exact d0) (Nat.le_refl _) (Nat.le_refl _)
  generalize hT1 : (T.setVm vm₁).pushCell { cls := cX, slots := kX.instanceTypes.map defaultValue, vm := .none } = T1 at X₁ st1
  have hcat : (Value.ref T.heap.size).category = 1 := rfl
  have hcellA : T1.heap[T.heap.size]? = some (freshCell cX kX) := by rw [← hT1]; exact State.heap_pushCell_size _ _
  have d3' : decode c.code (pc + 3) = .ok (.dup, 1) := by rw [hb]; exact d3
  have d4' : decode c.code (pc + 4) = .ok (.ldc_w is, 3) := by rw [hb]; exact d4
  have hstr' : vk_R own is text sa s' := vk_R.warm hW0 hstr
  obtain ⟨U, hsteps, hrun, hend, hW, hsame, ce, hce, hO⟩ := X₁.ctorThrowS hexec htr (own := own) (cls := cls) (names := names) (ic := ic) hown' hcls hnames h (fun x hx => nomatch hx) hfX hkX hcellA (by rw [hhp, hT]; exact Nat.le_refl _) (msg := .ref sa) rfl
    (g := { method := m, pc := pc + 7, locals := ls, stack := .ref sa :: .ref T.heap.size :: .ref T.heap.size :: rest, locked := none }) rfl hsize rfl rfl (rest := rest) rfl
    (by rw [hb]; exact d7) (by rw [hb]; exact d10) hout hRframes (by simp only [List.map_cons, List.sum_cons, hcat]; omega) hlocks
  obtain ⟨f1, f2⟩ := vx_frame hsame
  rw [hhp] at f1 f2
  have hWs : s.WarmedH U.vm := State.WarmedH.trans hW0 hW
  have hcl : s.vm.findClass cls = some ce.cls := by
    have h9 := hO.cls
    rw [hvm] at h9
    exact h9
  have hall : s.sameButNew ({ U with vm := s.vm } : State) locs mc ms := by
    subst hA
    obtain ⟨e1, e2⟩ := hsame
    rw [State.setFrames_setFrames] at e1
    have h2 : (T.setVm s.vm).sameButNew ({ U with vm := s.vm } : State) [] (0 + 1) (0 + 6) := ⟨e1, e2⟩
    have h3 := X.same.trans h2
    rw [List.append_nil] at h3
    exact h3.mono hc hs
  refine ⟨U, ?_, .threw T.heap.size, hrun, hend, Or.inr ⟨T.heap.size, rfl, cls, ce, locs, hx U hWs.alike f1 (fun q hq => f2 q hq (fun z hz => nomatch hz)), hce, hO.vm, hcl, hWs, hall, hf⟩⟩
  refine st1 _ ?_
  show Steps p.tables e below (T1.setTop { method := m, pc := pc + 3, locals := ls, stack := .ref T.heap.size :: rest, locked := none }) _
  jvm_step X₁.here [X₁.here.top, hexec, d3', Value.category]
  exact X₁.ldcStringW hexec (own := own) (text := text) (index := is) (a := sa) hown' hstr'.1 hstr'.2
    (g := { method := m, pc := pc + 4, locals := ls, stack := .ref T.heap.size :: .ref T.heap.size :: rest, locked := none }) rfl d4' _ hsteps
end Ends
section Bodies
variable {l : Launch}
theorem vx_ofW {y : MethodName} {ws ws' : List Cond} {rm : Room} {Pc : Array Value → State → Prop} {Qc : Array Value → State → Outcome → State → Prop} {XC : String → State → State → Prop} {mc ms : Nat} {free : Addr → Prop} {cc : ByteArray} {maxL : Nat} {ret : Option FieldType}
    (hy : plainName y.cls = true) (hw : ws = Cond.code y cc maxL ret :: ws')
    (body : ∀ p e s m args below meth c s₁, BodyLoose p l y (headSpec ws rm) cc maxL ret e s m args below meth c s₁ → c.maxLocals = maxL → (∀ x ∈ c.exceptionTable.toList, False) → Pc args s →
      W p l e (headSpec ws rm).room s m args below meth c s.heap [] 0 0 (vx_MQ below Qc XC args s mc ms free) (entryFrame m args maxL)) : vx_Met l y ws rm Pc Qc XC mc ms free := by
  refine MetFree.of_bodyS (code := cc) (maxLocals := maxL) (ret := ret) hy ?_ ?_
  · intro args s m h hn
    obtain ⟨meth, c, h1, h2, h3, h4, h5, h6, -, -⟩ := Cond.code_spec hn (atoms_spec (ws := ws) h _ (by rw [hw]; exact List.mem_cons_self))
    exact ⟨meth, c, h1, h2, h3, h4, h5, h6⟩
  · intro p e s m args below meth c s₁ B hml hP _
    have hh0 : s₁.heap = s.heap := by rw [B.state]; rfl
    have ht : ∀ x ∈ c.exceptionTable.toList, False := by
      obtain ⟨meth9, c9, h1, h2, -, -, -, -, h7, -⟩ := Cond.code_spec B.named (atoms_spec (ws := ws) B.pre _ (by rw [hw]; exact List.mem_cons_self))
      cases Option.some.inj (h1.symm.trans B.method)
      cases Option.some.inj (h2.symm.trans (Stand.of_body B).code)
      intro x hx
      rw [Array.isEmpty_iff.mp h7] at hx
      cases hx
    obtain ⟨t, a1, o, b1, b2, b3⟩ := body p e s m args below meth c s₁ B hml ht hP s₁ hh0 (Stand.of_body B)
    exact ⟨t, o, a1, b1, b2, b3⟩
/-- the table of a body with handlers -/
theorem vx_table {p : Program} {x y : MethodName} {S : Spec} {cc bytes : ByteArray} {maxL maxL' : Nat} {ret ret' : Option FieldType} {e : Env} {s s₁ : State} {m : MethodId} {args : Array Value} {below : List Frame} {meth : Method} {c : Code} {hh : List (Nat × Nat × Nat × Nat)}
    (B : BodyLoose p l y S cc maxL ret e s m args below meth c s₁) (h : (Cond.codeWith y bytes maxL' ret' hh).before args s = true) : c.exceptionTable.toList = tableOf hh := by
  obtain ⟨m9, meth9, c9, hn9, h1, h2, -, -, h6, -⟩ := Cond.codeWith_spec h
  cases Option.some.inj (hn9.symm.trans B.named)
  cases Option.some.inj (h1.symm.trans B.method)
  cases Option.some.inj (h2.symm.trans (Stand.of_body B).code)
  rw [← h6, table_eq]
end Bodies
end VXA
/-! ===== END ===== -/
/-! ===== BEGIN a static call of a method with an exception table ===== -/
section VXS
variable {p : Program} {l : Launch} {e : Env} {R : Room} {s : State} {m : MethodId} {args : Array Value} {below : List Frame} {meth : Method} {c : Code} {T : State} {H : Heap} {locs : List Loc} {cells slots : Nat}
abbrev vx_CSW (R : Room) (s : State) (args : Array Value) (own : String) (index : Nat) (y : MethodName) (bytes : ByteArray) (maxL : Nat) (ret : Option FieldType) (hh : List (Nat × Nat × Nat × Nat)) (ws : List Cond) (rm : Room) (mc ms n : Nat) : Prop :=
  (rm.cells = mc ∧ rm.slots = ms ∧ rm.frames + 1 ≤ R.frames ∧ 8 + (maxL + 11) + rm.locals ≤ R.locals ∧ (∀ w ∈ ws, ∀ (a' : Array Value) (U : State), s.WarmedH U.vm → w.before a' U = true) ∧ Cond.codeWith y bytes maxL ret hh ∈ ws) ∧
  (Cond.codeWith y bytes maxL ret hh).before args s = true ∧ (Cond.initialized y.cls).before args s = true ∧ (y.cls ≠ "java/lang/invoke/MethodHandle" ∧ y.cls ≠ "java/lang/invoke/VarHandle") ∧
  (∀ sig, parseMethodDescriptor y.desc = some sig → n = sig.parameters.length) ∧ (Cond.methodLink own index y).before args s = true ∧ (Cond.static y).before args s = true
theorem vx_cwSW {own : String} {index maxL mc ms : Nat} {y : MethodName} {bytes : ByteArray} {ret : Option FieldType} {hh : List (Nat × Nat × Nat × Nat)} {Ts ws ws' : List Cond} {rm : Room} (n : Nat) (ht : ∀ w ∈ Ts, w.before args s = true) (hT : GoodIn Ts (va_wsS own index y ws)) (hw : ws = Cond.codeWith y bytes maxL ret hh :: ws') (hrc : rm.cells = mc) (hrs : rm.slots = ms)
    (hd : y.cls ≠ "java/lang/invoke/MethodHandle" ∧ y.cls ≠ "java/lang/invoke/VarHandle" ∧ (parseMethodDescriptor y.desc).map (fun d => d.parameters.length) = some n) (hR : rm.frames + 1 ≤ R.frames ∧ 8 + (maxL + 11) + rm.locals ≤ R.locals) :
    vx_CSW R s args own index y bytes maxL ret hh ws rm mc ms n := by
  have ok : ∀ w ∈ va_wsS own index y ws, w.before args s = true := fun w h => ht w (hT w h).1
  have hG : GoodIn Ts ws := fun w h => hT w (by unfold va_wsS; exact List.mem_append_right _ h)
  have hc : Cond.codeWith y bytes maxL ret hh ∈ ws := by rw [hw]; exact List.mem_cons_self
  refine ⟨⟨hrc, hrs, hR.1, hR.2, pay_in ht hG, hc⟩, ht _ (hG _ hc).1, ok _ (by simp [va_wsS]), ⟨hd.1, hd.2.1⟩, fun sig h => ?_, ok _ (by simp [va_wsS]), ok _ (by simp [va_wsS])⟩
  have h2 := hd.2.2
  rw [h] at h2
  exact (Option.some.inj h2).symm
theorem vx_callSW (X : Stand p l e R s m args below meth c T locs cells slots) (hexec : p.tables.exec = Jvm.exec) {own : String} {index : Nat} {y : MethodName} {bytes : ByteArray} {maxL : Nat} {ret : Option FieldType} {hh : List (Nat × Nat × Nat × Nat)}
    (hown : s.vm.findClass own = some m.cls) (hlink : (Cond.methodLink own index y).before args s = true) (hstat : (Cond.static y).before args s = true) (hinit : (Cond.initialized y.cls).before args s = true)
    (hcode : (Cond.codeWith y bytes maxL ret hh).before args s = true) (hy : y.cls ≠ "java/lang/invoke/MethodHandle" ∧ y.cls ≠ "java/lang/invoke/VarHandle")
    {W9 : Nat} {Pre : Pt → Array Value → Prop} {Post : Pt → Array Value → Option Value → Pt → Prop} (hK : Back l R p e below s args y 3 W9 Pre Post)
    {g : JFrame} (hg : g.method = m) (hsize : g.locals.size = c.maxLocals) {argsL rest : List Value} (hlen : ∀ sig, parseMethodDescriptor y.desc = some sig → argsL.length = sig.parameters.length)
    (hstack : g.stack = argsL.reverse ++ rest) (hW : 2 * g.monitorRoom + (rest.map fun v => v.category).sum ≤ W9) (hdg : decode c.code g.pc = .ok (.invokestatic index, 3))
    (hpre : ∀ vm₁, s.WarmedH vm₁ → Pre ⟨T.setVm vm₁, locs, cells, slots⟩ argsL.toArray) :
    ∃ (v : Option Value) (vm₁ : Vm) (B : Pt), s.WarmedH vm₁ ∧ Stand p l e R s m args below meth c B.U B.locs B.cells B.slots ∧ Post ⟨T.setVm vm₁, locs, cells, slots⟩ argsL.toArray v B ∧
      ∀ target, Steps p.tables e below (B.U.setTop { g with pc := g.pc + 3, stack := v.toList ++ rest }) target → Steps p.tables e below (T.setTop g) target := by
  obtain ⟨mk, methM, cM, hnamed, hmethM, -, -, -, -, -, -, hsigM⟩ := Cond.codeWith_spec hcode
  have hstatic : methM.isStatic = true := Cond.static_spec hnamed hmethM hstat
  obtain ⟨kP, hkP, -⟩ := className_of_methodNamed hnamed
  have hinitP : kP.init = .initialized := Cond.initialized_spec (findClass_of_methodNamed hnamed) hkP hinit
  obtain ⟨vm₁, X₁, hstep₁⟩ := X.invokestatic hexec hown hlink hnamed hmethM hstatic hkP hinitP hy (g := g) hg (argsL := argsL) (rest := rest) (hlen _ hsigM) hstack hdg
  obtain ⟨v, B, X', hpost, hsteps⟩ := hK m meth c ⟨T.setVm vm₁, locs, cells, slots⟩ { g with stack := rest } (.invokestatic index) mk argsL.toArray X₁ hg hsize hdg hW (X₁.named hnamed) (hpre vm₁ X₁.warmed)
  exact ⟨v, vm₁, B, X₁.warmed, X', hpost, fun target h => hstep₁ _ fun acts => by rw [doInvoke_state]; exact hsteps.trans h⟩
theorem vx_runSW {y : MethodName} {bytes cc : ByteArray} {maxL nL mc ms n index : Nat} {ret : Option FieldType} {hh : List (Nat × Nat × Nat × Nat)} {ws : List Cond} {rm : Room} {Pc : Array Value → State → Prop} {Qc : Array Value → State → Outcome → State → Prop} {free : Addr → Prop} {Ts : List Cond} {own : String} {As rest : List Value} {g : JFrame}
    (S : CallFix p m c cc nL s args Ts own) (hM : Met l y ws rm Pc Qc mc ms free) (cw : vx_CSW R s args own index y bytes maxL ret hh ws rm mc ms n) (hp : PreS s H Pc As)
    (hg : g.method = m) (hn : As.length = n) (hsize : g.locals.size = nL) (hstack : g.stack = As.reverse ++ rest) (hW : 2 * g.monitorRoom + (rest.map fun v => v.category).sum ≤ 8) (hdg : decode cc g.pc = .ok (.invokestatic index, 3)) (hf : cells + mc ≤ R.cells ∧ slots + ms ≤ R.slots) :
    va_Run p l e R s m args below meth c H locs cells slots mc ms g rest (Qc As.toArray) (free) := by
  obtain ⟨⟨hrc, hrs, hfr, hlo, hws, hcw⟩, hcode, hini, hy, hlen, hl, hstt⟩ := cw
  have hK : Back l R p e below s args y 3 8 (PreOf R mc ms Pc) (PostOf Qc mc ms free) := va_backW (hh := hh) (bytes := bytes) (maxL := maxL) (ret := ret) hM hp.1 hrc hrs hfr hlo hws hcw (fun a' U hW => word_at hW (Or.inl (by first | rfl | simp [Cond.onTables, Cond.keeps, Cond.steady])) hini)
  obtain ⟨hx, hb, hml, ho, -⟩ := S
  intro T hT X
  obtain ⟨v, vm₁, ⟨U', l2, c2, s2⟩, hW₁, X', ⟨g', mk, t, L, e1, e2, hq, h1, hL, h2, h3⟩, st⟩ := vx_callSW X hx (hh := hh) (bytes := bytes) (maxL := maxL) (ret := ret) ho hl hstt hini hcode hy hK hg (hsize.trans hml.symm) (argsL := As) (rest := rest) (fun sig h => hn.trans (hlen sig h)) hstack hW (by rw [hb]; exact hdg)
    (fun vm₁ hW₁ => ⟨hf.1, hf.2, hp.2 (T.setVm vm₁) hT hW₁⟩)
  dsimp only [Pt.U, Pt.locs, Pt.cells, Pt.slots] at X' e1 e2 h1 h2 h3 st
  subst h1; subst h2; subst h3
  exact ⟨v, (T.setVm vm₁).calling g' mk As.toArray, t, U', L, hT, X', hL, e1, e2, hq, st⟩
/-- not caught here, past rows that name other classes: it goes on to the caller -/
theorem vx_outP {p : Program} {l : Launch} {e : Env} {R : Room} {s : State} {m : MethodId} {args : Array Value} {below : List Frame} {meth : Method} {c : Code} {H : Heap} {locs : List Loc} {cells slots : Nat} {free : Addr → Prop} {ls : Array Slot} {rest : List Value} {Qc : Array Value → State → Outcome → State → Prop} {XC : String → State → State → Prop}
    {pc : Nat} {own E : String} {ce : Cell} {q : Addr} {mc ms : Nat} (hown : s.vm.findClass own = some m.cls) (hlocks : meth.locks = false)
    (hpass : ∀ z ∈ c.exceptionTable.toList, covers z pc = false ∨ (z.catchType ≠ 0 ∧ ∃ nm : String, (Cond.classLink own z.catchType nm).before args s = true ∧ va_Nc E nm s)) (hcell : H[q]? = some ce) (hv : ce.vm = .none) (hcl : s.vm.findClass E = some ce.cls)
    (hx : ∀ t : State, t.heap = H → s.vm.Alike t.vm → XC E s t) (hf : ∀ z ∈ locs, free z.base) (hc : cells ≤ mc) (hs : slots ≤ ms) :
    vx_W p l e R s m args below meth c H locs cells slots (vx_MQ below Qc XC args s mc ms free) (F0 m pc ls rest) q := by
  intro T hT X
  have hpl : e.platform.magicAccessors = ({} : Platform).magicAccessors := by rw [X.admits.platform]
  obtain ⟨vm', hW', X', st⟩ := X.outThrough hlocks q (g := F0 m pc ls rest) rfl rfl rfl (cell := ce) (by rw [hT]; exact hcell) (by rw [hv]; rfl)
    (by obtain ⟨k9, h9, -⟩ := Vm.findClass_spec hcl; exact ⟨k9, h9⟩) (fun z hz => by
      rcases hpass z hz with h | ⟨hz0, nm, hl1, hn1⟩
      · exact Or.inl h
      · obtain ⟨c6, hc6, hcl6⟩ := Cond.classLink_spec hown hl1 e.platform hpl
        obtain ⟨a8, b8, h1, h2, h3⟩ := hn1
        cases Option.some.inj (h1.symm.trans hcl)
        cases Option.some.inj (h2.symm.trans hc6)
        exact Or.inr ⟨hz0, _, hcl6, h3⟩)
  obtain ⟨g₀, hfr⟩ := X'.frames_eq
  have hcell9 : ((T.setVm vm').setFrames (.throwing q :: below)).heap[q]? = some ce := by
    show T.heap[q]? = some ce
    rw [hT]; exact hcell
  have hend : Ended ((T.setVm vm').setFrames (.throwing q :: below)) below (.threw q) := State.frames_setFrames _ (State.cur_lt_of_frames hfr)
  refine ⟨(T.setVm vm').setFrames (.throwing q :: below), ?_, .threw q, X'.here.running, hend, Or.inr ⟨q, rfl, E, ce, locs, hx _ hT (X'.ends _).1.alike, hcell9, hv, hcl, (X'.ends _).1, (X'.ends _).2.mono hc hs, hf⟩⟩
  rw [X.pushThrowing_eq]
  exact st
/-- a thing of a world lies in the heap -/
theorem vx_lt {D : va_G} {cl : List vw_C} {ws : va_W} {H1 : Heap} (h : va_P D cl ws H1) {k : Nat} {q : Nat × va_E} (hk : ws[k]? = some q) : q.1 < H1.size := (h k q hk).lt
end VXS
/-! ===== END ===== -/
/-! ===== BEGIN methods with a table of their own: called by a name, returning or throwing ===== -/
section VXH
/-! vx_backW, vx_callVX, vx_callSX, vx_callVW, vx_runVW, vx_runVX, vx_runSX, vx_ofWH follow the same proofs as their sisters above (Free/Laws.lean, Shelf42/LK1.lean); vx_outP calls Shelf42/NT130.lean (outThrough). -/
section
variable {l : Launch} {R : Room} {p : Program} {e : Env} {below : List Frame} {s : State} {sargs : Array Value} {y : MethodName} {len W9 : Nat}
theorem vx_backW {ws : List Cond} {rm : Room} {Pc : Array Value → State → Prop} {Qc : Array Value → State → Outcome → State → Prop} {XC : String → State → State → Prop} {mc ms : Nat} {free : Addr → Prop} {bytes : ByteArray} {maxL : Nat} {ret : Option FieldType} {hh : List (Nat × Nat × Nat × Nat)}
    (hM : vx_Met l y ws rm Pc Qc XC mc ms free) (hblind : FrameBlind Pc) (hrc : rm.cells = mc) (hrs : rm.slots = ms)
    (hframes : rm.frames + 1 ≤ R.frames) (hlocals : W9 + (maxL + 11) + rm.locals ≤ R.locals)
    (hws : ∀ w ∈ ws, ∀ a' U, s.WarmedH U.vm → w.before a' U = true) (hcode : Cond.codeWith y bytes maxL ret hh ∈ ws) (hinit : ∀ a' U, s.WarmedH U.vm → (Cond.initialized y.cls).before a' U = true) :
    vx_Back l R p e below s sargs y len W9 (PreOf R mc ms Pc) (PostOf Qc mc ms free) (vx_Post XC mc ms free) := by
  intro m meth c A g ig mk a X hg hsize hdg hW hn hp
  have h1 : (headSpec ws rm).pre.before a A.U = true := atoms_intro fun w hw => hws w hw _ _ X.warmed
  have h2 : (Cond.codeWith y bytes maxL ret hh).before a A.U = true := hws _ hcode _ _ X.warmed
  have h3 : (Cond.initialized y.cls).before a A.U = true := hinit _ _ X.warmed
  have h4 : A.cells + (headSpec ws rm).room.cells ≤ R.cells := by rw [show (headSpec ws rm).room.cells = mc from hrc]; exact hp.1
  have h5 : A.slots + (headSpec ws rm).room.slots ≤ R.slots := by rw [show (headSpec ws rm).room.slots = ms from hrs]; exact hp.2.1
  have hPc : Pc a (A.U.calling g mk a) := hblind _ _ _ _ hp.2.2
  obtain ⟨U, Ls, c0, s0⟩ := A
  dsimp only [Pt.U, Pt.locs, Pt.cells, Pt.slots] at h1 h2 h3 h4 h5 X hn hPc ⊢
  obtain ⟨m9, methY, cY, hn9, hmY, hcY, -, hlY, -⟩ := Cond.codeWith_spec h2
  cases Option.some.inj (hn9.symm.trans hn)
  obtain ⟨kY, hkY, -⟩ := className_of_methodNamed hn
  have hinitY : kY.init = .initialized := Cond.initialized_spec (findClass_of_methodNamed hn) hkY h3
  have h : At U g.method c below := by rw [hg]; exact X.here
  have hlocals9 : W9 + (maxL + 11) + (headSpec ws rm).room.locals ≤ R.locals := hlocals
  have happ : (headSpec ws rm).appliesLoose y e.platform (U.calling g mk a) = true :=
    Spec.appliesLoose_calling (g := g) h hdg hn hkY hinitY
      (X.room_calling (g := g) (R' := (headSpec ws rm).room) hsize hmY hcY hframes (by rw [hlY]; omega) h4 h5) h1
  obtain ⟨mid, hmid⟩ := h.above
  have hfr : (U.setTop g).frames = (.java g :: mid) ++ below := by rw [State.frames_setTop' g h.top, hmid]; rfl
  obtain ⟨o, s₂, hsteps, -, hend, hq⟩ := Steps.callFree hM p X.admits X.cas X.clock (acts := []) hfr happ hPc trivial
  have hq' : vx_Q Qc XC mc ms free a (U.calling g mk a) o s₂ := hq
  rw [State.frames_setTop' g h.top] at hend
  obtain ⟨g₀, hg0⟩ := Option.isSome_iff_exists.mp h.top
  obtain ⟨r, hr⟩ := State.topJava?_eq_some.mp hg0
  have hr' : (({ U with heap := s₂.heap, slotsUsed := s₂.slotsUsed } : State).setVm s₂.vm).frames = .java g₀ :: r := hr
  rcases hq' with ⟨hqc, L, hfe, hL⟩ | ⟨q, rfl, E, ce, L, hx, hce, hcv, hcl, hW₂, hsm, hL⟩
  · obtain ⟨⟨v, rfl⟩, hW₂, e2, q2, q3, q4, q5, q6⟩ := id hfe
    have e3 : s₂ = ({ (U.calling g mk a).setFrames s₂.frames with heap := s₂.heap, slotsUsed := s₂.slotsUsed } : State).setVm s₂.vm := by
      have : s₂ = ({ s₂ with vm := (U.calling g mk a).vm } : State).setVm s₂.vm := rfl
      rw [e2] at this
      exact this
    obtain ⟨c₂, i₂, len₂, hc₂, hd₂, hf₂⟩ := hend
    have hW' : U.WarmedH s₂.vm := hW₂
    have hcc : c₂ = c := by
      have h1 : s₂.code? g.method = U.code? g.method := by
        rw [State.code?_eq, State.code?_eq, hW'.alike.method?]
      exact Option.some.inj (hc₂.symm.trans (h1.trans h.code))
    subst hcc
    have hlen : len₂ = len := by rw [hdg] at hd₂; cases hd₂; rfl
    subst hlen
    have hs₂ : s₂ = (({ U with heap := s₂.heap, slotsUsed := s₂.slotsUsed } : State).setVm s₂.vm).setTop { g with pc := g.pc + len₂, stack := v.toList ++ g.stack } := by
      refine e3.trans ?_
      rw [hf₂, State.calling_eq h.top, State.setFrames_setFrames, State.setTop_of_frames _ hr', hr]
      rfl
    have hsame : U.sameButNew ({ U with heap := s₂.heap, slotsUsed := s₂.slotsUsed } : State) L mc ms := by
      refine ⟨?_, q2, q3, q4, q5, q6⟩
      obtain ⟨t, ht, -⟩ := State.frames_cons hr
      show ({ U with heap := s₂.heap, slotsUsed := s₂.slotsUsed } : State) = { U.setFrames U.frames with heap := s₂.heap, slotsUsed := s₂.slotsUsed }
      rw [State.setFrames_self ht]
    subst hg
    refine Or.inl ⟨v, ⟨(({ U with heap := s₂.heap, slotsUsed := s₂.slotsUsed } : State).setVm s₂.vm), Ls ++ L, c0 + mc, s0 + ms⟩,
      ⟨X.admits, X.cas, X.clock, X.frames, X.room, X.hears, X.method, X.code, (X.here.setHeapUsed s₂.heap s₂.slotsUsed).setVm hW'.alike, X.tail, State.WarmedH.trans X.warmed hW', X.limits, X.bytes, X.same.trans (hsame.setVm s.vm)⟩,
      ⟨g, mk, s₂, L, rfl, rfl, hqc, rfl, hL, rfl, rfl⟩, ?_⟩
    show Steps p.tables e below _ ((({ U with heap := s₂.heap, slotsUsed := s₂.slotsUsed } : State).setVm s₂.vm).setTop { g with pc := g.pc + len₂, stack := v.toList ++ g.stack })
    rw [← hs₂]
    exact hsteps
  · obtain ⟨e2, q2, q3, q4, q5, q6⟩ := id hsm
    have e3 : s₂ = ({ (U.calling g mk a).setFrames s₂.frames with heap := s₂.heap, slotsUsed := s₂.slotsUsed } : State).setVm s₂.vm := by
      have : s₂ = ({ s₂ with vm := (U.calling g mk a).vm } : State).setVm s₂.vm := rfl
      rw [e2] at this
      exact this
    have hf₂ : s₂.frames = .throwing q :: .java g :: U.frames.tail := hend
    have hW' : U.WarmedH s₂.vm := hW₂
    have hs₂ : s₂ = ((({ U with heap := s₂.heap, slotsUsed := s₂.slotsUsed } : State).setVm s₂.vm).setTop g).pushFrame (.throwing q) := by
      refine e3.trans ?_
      rw [hf₂, State.calling_eq h.top, State.setFrames_setFrames, State.pushFrame, State.frames_setTop _ hr', State.setTop_of_frames _ hr', State.setFrames_setFrames, hr]
      rfl
    have hsame : U.sameButNew ({ U with heap := s₂.heap, slotsUsed := s₂.slotsUsed } : State) L mc ms := by
      refine ⟨?_, q2, q3, q4, q5, q6⟩
      obtain ⟨t, ht, -⟩ := State.frames_cons hr
      show ({ U with heap := s₂.heap, slotsUsed := s₂.slotsUsed } : State) = { U.setFrames U.frames with heap := s₂.heap, slotsUsed := s₂.slotsUsed }
      rw [State.setFrames_self ht]
    subst hg
    refine Or.inr ⟨q, ⟨(({ U with heap := s₂.heap, slotsUsed := s₂.slotsUsed } : State).setVm s₂.vm), Ls ++ L, c0 + mc, s0 + ms⟩,
      ⟨X.admits, X.cas, X.clock, X.frames, X.room, X.hears, X.method, X.code, (X.here.setHeapUsed s₂.heap s₂.slotsUsed).setVm hW'.alike, X.tail, State.WarmedH.trans X.warmed hW', X.limits, X.bytes, X.same.trans (hsame.setVm s.vm)⟩,
      ⟨g, mk, s₂, L, E, ce, rfl, rfl, hx, hce, hcv, hcl, rfl, hL, rfl, rfl⟩, ?_⟩
    show Steps p.tables e below _ (((({ U with heap := s₂.heap, slotsUsed := s₂.slotsUsed } : State).setVm s₂.vm).setTop g).pushFrame (.throwing q))
    rw [← hs₂]
    exact hsteps
end
variable {p : Program} {l : Launch} {e : Env} {R : Room} {s : State} {m : MethodId} {args : Array Value} {below : List Frame} {meth : Method} {c : Code} {T : State} {H : Heap} {locs : List Loc} {cells slots : Nat}
theorem vx_callVX (X : Stand p l e R s m args below meth c T locs cells slots) (hexec : p.tables.exec = Jvm.exec) {own C : String} {index : Nat} {y : MethodName} {bytes : ByteArray} {maxL : Nat} {ret : Option FieldType} {hh : List (Nat × Nat × Nat × Nat)}
    (hown : s.vm.findClass own = some m.cls) (hlink : (Cond.methodLink own index y).before args s = true) (hinst : (Cond.instanceMethod y).before args s = true) (hsel : (Cond.selects C y y).before args s = true)
    (hcode : (Cond.codeWith y bytes maxL ret hh).before args s = true) (hy : y.cls ≠ "java/lang/invoke/MethodHandle" ∧ y.cls ≠ "java/lang/invoke/VarHandle")
    {W9 : Nat} {Pre : Pt → Array Value → Prop} {Post : Pt → Array Value → Option Value → Pt → Prop} {PostX : Pt → Array Value → Addr → Pt → Prop} (hK : vx_Back l R p e below s args y 3 W9 Pre Post PostX)
    {b : Addr} {cellB : Cell} (hcell : T.heap[b]? = some cellB) (hobj : cellB.vm.isStatics = false) (hcls : s.vm.findClass C = some cellB.cls)
    {g : JFrame} (hg : g.method = m) (hsize : g.locals.size = c.maxLocals) {argsL rest : List Value} (hlen : ∀ sig, parseMethodDescriptor y.desc = some sig → argsL.length = sig.parameters.length)
    (hstack : g.stack = argsL.reverse ++ .ref b :: rest) (hW : 2 * g.monitorRoom + (rest.map fun v => v.category).sum ≤ W9) (hdg : decode c.code g.pc = .ok (.invokevirtual index, 3))
    (hpre : ∀ vm₁, s.WarmedH vm₁ → Pre ⟨T.setVm vm₁, locs, cells, slots⟩ (Value.ref b :: argsL).toArray) :
    (∃ (v : Option Value) (vm₁ : Vm) (B : Pt), s.WarmedH vm₁ ∧ Stand p l e R s m args below meth c B.U B.locs B.cells B.slots ∧ Post ⟨T.setVm vm₁, locs, cells, slots⟩ (Value.ref b :: argsL).toArray v B ∧
      ∀ target, Steps p.tables e below (B.U.setTop { g with pc := g.pc + 3, stack := v.toList ++ rest }) target → Steps p.tables e below (T.setTop g) target) ∨
    (∃ (q : Addr) (vm₁ : Vm) (B : Pt), s.WarmedH vm₁ ∧ Stand p l e R s m args below meth c B.U B.locs B.cells B.slots ∧ PostX ⟨T.setVm vm₁, locs, cells, slots⟩ (Value.ref b :: argsL).toArray q B ∧
      Steps p.tables e below (T.setTop g) ((B.U.setTop { g with stack := rest }).pushFrame (.throwing q))) := by
  obtain ⟨mk, methM, hnamed, hmethM, hstM, habM⟩ := Cond.instanceMethod_spec hinst
  obtain ⟨m8, methM', cM, hn8, hmethM', -, -, -, -, -, -, hsigM⟩ := Cond.codeWith_spec hcode
  cases Option.some.inj (hn8.symm.trans hnamed)
  cases hmethM.symm.trans hmethM'
  obtain ⟨c2, r2, m2, q1, q2, q3, q4, kP, hkP, hkPi⟩ := Cond.selects_spec hsel
  cases hcls.symm.trans q1
  cases (State.methodFound?_of_named hnamed hy).symm.trans q2
  cases hnamed.symm.trans q3
  have hselP : selectMethod e.platform s.vm cellB.cls mk = .method mk := by rw [Launch.admits_selectMethod X.admits]; exact q4
  obtain ⟨vm₁, X₁, hstep₁⟩ := X.invokevirtual hexec hown hlink hnamed hmethM hstM hkP hkPi hy (a := b) (cell := cellB) hcell
    (fun z h => by rw [h] at hobj; cases hobj) hselP hmethM habM hkP hkPi (g := g) hg (argsL := argsL) (rest := rest) (hlen _ hsigM) hstack hdg
  rcases hK m meth c ⟨T.setVm vm₁, locs, cells, slots⟩ { g with stack := rest } (.invokevirtual index) mk (Value.ref b :: argsL).toArray X₁ hg hsize hdg hW (X₁.named hnamed) (hpre vm₁ X₁.warmed) with ⟨v, B, X', hpost, hsteps⟩ | ⟨q, B, X', hpost, hsteps⟩
  · exact Or.inl ⟨v, vm₁, B, X₁.warmed, X', hpost, fun target h => hstep₁ _ fun acts => by rw [doInvoke_state]; exact hsteps.trans h⟩
  · exact Or.inr ⟨q, vm₁, B, X₁.warmed, X', hpost, hstep₁ _ fun acts => by rw [doInvoke_state]; exact hsteps⟩
theorem vx_callSX (X : Stand p l e R s m args below meth c T locs cells slots) (hexec : p.tables.exec = Jvm.exec) {own : String} {index : Nat} {y : MethodName} {bytes : ByteArray} {maxL : Nat} {ret : Option FieldType} {hh : List (Nat × Nat × Nat × Nat)}
    (hown : s.vm.findClass own = some m.cls) (hlink : (Cond.methodLink own index y).before args s = true) (hstat : (Cond.static y).before args s = true) (hinit : (Cond.initialized y.cls).before args s = true)
    (hcode : (Cond.codeWith y bytes maxL ret hh).before args s = true) (hy : y.cls ≠ "java/lang/invoke/MethodHandle" ∧ y.cls ≠ "java/lang/invoke/VarHandle")
    {W9 : Nat} {Pre : Pt → Array Value → Prop} {Post : Pt → Array Value → Option Value → Pt → Prop} {PostX : Pt → Array Value → Addr → Pt → Prop} (hK : vx_Back l R p e below s args y 3 W9 Pre Post PostX)
    {g : JFrame} (hg : g.method = m) (hsize : g.locals.size = c.maxLocals) {argsL rest : List Value} (hlen : ∀ sig, parseMethodDescriptor y.desc = some sig → argsL.length = sig.parameters.length)
    (hstack : g.stack = argsL.reverse ++ rest) (hW : 2 * g.monitorRoom + (rest.map fun v => v.category).sum ≤ W9) (hdg : decode c.code g.pc = .ok (.invokestatic index, 3))
    (hpre : ∀ vm₁, s.WarmedH vm₁ → Pre ⟨T.setVm vm₁, locs, cells, slots⟩ argsL.toArray) :
    (∃ (v : Option Value) (vm₁ : Vm) (B : Pt), s.WarmedH vm₁ ∧ Stand p l e R s m args below meth c B.U B.locs B.cells B.slots ∧ Post ⟨T.setVm vm₁, locs, cells, slots⟩ argsL.toArray v B ∧
      ∀ target, Steps p.tables e below (B.U.setTop { g with pc := g.pc + 3, stack := v.toList ++ rest }) target → Steps p.tables e below (T.setTop g) target) ∨
    (∃ (q : Addr) (vm₁ : Vm) (B : Pt), s.WarmedH vm₁ ∧ Stand p l e R s m args below meth c B.U B.locs B.cells B.slots ∧ PostX ⟨T.setVm vm₁, locs, cells, slots⟩ argsL.toArray q B ∧
      Steps p.tables e below (T.setTop g) ((B.U.setTop { g with stack := rest }).pushFrame (.throwing q))) := by
  obtain ⟨mk, methM, cM, hnamed, hmethM, -, -, -, -, -, -, hsigM⟩ := Cond.codeWith_spec hcode
  have hstatic : methM.isStatic = true := Cond.static_spec hnamed hmethM hstat
  obtain ⟨kP, hkP, -⟩ := className_of_methodNamed hnamed
  have hinitP : kP.init = .initialized := Cond.initialized_spec (findClass_of_methodNamed hnamed) hkP hinit
  obtain ⟨vm₁, X₁, hstep₁⟩ := X.invokestatic hexec hown hlink hnamed hmethM hstatic hkP hinitP hy (g := g) hg (argsL := argsL) (rest := rest) (hlen _ hsigM) hstack hdg
  rcases hK m meth c ⟨T.setVm vm₁, locs, cells, slots⟩ { g with stack := rest } (.invokestatic index) mk argsL.toArray X₁ hg hsize hdg hW (X₁.named hnamed) (hpre vm₁ X₁.warmed) with ⟨v, B, X', hpost, hsteps⟩ | ⟨q, B, X', hpost, hsteps⟩
  · exact Or.inl ⟨v, vm₁, B, X₁.warmed, X', hpost, fun target h => hstep₁ _ fun acts => by rw [doInvoke_state]; exact hsteps.trans h⟩
  · exact Or.inr ⟨q, vm₁, B, X₁.warmed, X', hpost, hstep₁ _ fun acts => by rw [doInvoke_state]; exact hsteps⟩
theorem vx_callVW (X : Stand p l e R s m args below meth c T locs cells slots) (hexec : p.tables.exec = Jvm.exec) {own C : String} {index : Nat} {y : MethodName} {bytes : ByteArray} {maxL : Nat} {ret : Option FieldType} {hh : List (Nat × Nat × Nat × Nat)}
    (hown : s.vm.findClass own = some m.cls) (hlink : (Cond.methodLink own index y).before args s = true) (hinst : (Cond.instanceMethod y).before args s = true) (hsel : (Cond.selects C y y).before args s = true)
    (hcode : (Cond.codeWith y bytes maxL ret hh).before args s = true) (hy : y.cls ≠ "java/lang/invoke/MethodHandle" ∧ y.cls ≠ "java/lang/invoke/VarHandle")
    {W9 : Nat} {Pre : Pt → Array Value → Prop} {Post : Pt → Array Value → Option Value → Pt → Prop} (hK : Back l R p e below s args y 3 W9 Pre Post)
    {b : Addr} {cellB : Cell} (hcell : T.heap[b]? = some cellB) (hobj : cellB.vm.isStatics = false) (hcls : s.vm.findClass C = some cellB.cls)
    {g : JFrame} (hg : g.method = m) (hsize : g.locals.size = c.maxLocals) {argsL rest : List Value} (hlen : ∀ sig, parseMethodDescriptor y.desc = some sig → argsL.length = sig.parameters.length)
    (hstack : g.stack = argsL.reverse ++ .ref b :: rest) (hW : 2 * g.monitorRoom + (rest.map fun v => v.category).sum ≤ W9) (hdg : decode c.code g.pc = .ok (.invokevirtual index, 3))
    (hpre : ∀ vm₁, s.WarmedH vm₁ → Pre ⟨T.setVm vm₁, locs, cells, slots⟩ (Value.ref b :: argsL).toArray) :
    ∃ (v : Option Value) (vm₁ : Vm) (B : Pt), s.WarmedH vm₁ ∧ Stand p l e R s m args below meth c B.U B.locs B.cells B.slots ∧ Post ⟨T.setVm vm₁, locs, cells, slots⟩ (Value.ref b :: argsL).toArray v B ∧
      ∀ target, Steps p.tables e below (B.U.setTop { g with pc := g.pc + 3, stack := v.toList ++ rest }) target → Steps p.tables e below (T.setTop g) target := by
  obtain ⟨mk, methM, hnamed, hmethM, hstM, habM⟩ := Cond.instanceMethod_spec hinst
  obtain ⟨m8, methM', cM, hn8, hmethM', -, -, -, -, -, -, hsigM⟩ := Cond.codeWith_spec hcode
  cases Option.some.inj (hn8.symm.trans hnamed)
  cases hmethM.symm.trans hmethM'
  obtain ⟨c2, r2, m2, q1, q2, q3, q4, kP, hkP, hkPi⟩ := Cond.selects_spec hsel
  cases hcls.symm.trans q1
  cases (State.methodFound?_of_named hnamed hy).symm.trans q2
  cases hnamed.symm.trans q3
  have hselP : selectMethod e.platform s.vm cellB.cls mk = .method mk := by rw [Launch.admits_selectMethod X.admits]; exact q4
  obtain ⟨vm₁, X₁, hstep₁⟩ := X.invokevirtual hexec hown hlink hnamed hmethM hstM hkP hkPi hy (a := b) (cell := cellB) hcell
    (fun z h => by rw [h] at hobj; cases hobj) hselP hmethM habM hkP hkPi (g := g) hg (argsL := argsL) (rest := rest) (hlen _ hsigM) hstack hdg
  obtain ⟨v, B, X', hpost, hsteps⟩ := hK m meth c ⟨T.setVm vm₁, locs, cells, slots⟩ { g with stack := rest } (.invokevirtual index) mk (Value.ref b :: argsL).toArray X₁ hg hsize hdg hW (X₁.named hnamed) (hpre vm₁ X₁.warmed)
  exact ⟨v, vm₁, B, X₁.warmed, X', hpost, fun target h => hstep₁ _ fun acts => by rw [doInvoke_state]; exact hsteps.trans h⟩
abbrev vx_CVW (R : Room) (s : State) (args : Array Value) (own C : String) (index : Nat) (y : MethodName) (bytes : ByteArray) (maxL : Nat) (ret : Option FieldType) (hh : List (Nat × Nat × Nat × Nat)) (ws : List Cond) (rm : Room) (mc ms n : Nat) : Prop :=
  (rm.cells = mc ∧ rm.slots = ms ∧ rm.frames + 1 ≤ R.frames ∧ 8 + (maxL + 11) + rm.locals ≤ R.locals ∧ (∀ w ∈ ws, ∀ (a' : Array Value) (U : State), s.WarmedH U.vm → w.before a' U = true) ∧ Cond.codeWith y bytes maxL ret hh ∈ ws) ∧
  (Cond.codeWith y bytes maxL ret hh).before args s = true ∧ (Cond.initialized y.cls).before args s = true ∧ (y.cls ≠ "java/lang/invoke/MethodHandle" ∧ y.cls ≠ "java/lang/invoke/VarHandle") ∧
  (∀ sig, parseMethodDescriptor y.desc = some sig → n = sig.parameters.length) ∧ (Cond.methodLink own index y).before args s = true ∧ (Cond.instanceMethod y).before args s = true ∧ (Cond.selects C y y).before args s = true
theorem vx_cwVW {own C : String} {index maxL mc ms : Nat} {y : MethodName} {bytes : ByteArray} {ret : Option FieldType} {hh : List (Nat × Nat × Nat × Nat)} {Ts ws ws' : List Cond} {rm : Room} (n : Nat) (ht : ∀ w ∈ Ts, w.before args s = true) (hT : GoodIn Ts (wsV own index C y ws)) (hw : ws = Cond.codeWith y bytes maxL ret hh :: ws') (hrc : rm.cells = mc) (hrs : rm.slots = ms)
    (hd : y.cls = C ∧ y.cls ≠ "java/lang/invoke/MethodHandle" ∧ y.cls ≠ "java/lang/invoke/VarHandle" ∧ (parseMethodDescriptor y.desc).map (fun d => d.parameters.length) = some n) (hR : rm.frames + 1 ≤ R.frames ∧ 8 + (maxL + 11) + rm.locals ≤ R.locals) :
    vx_CVW R s args own C index y bytes maxL ret hh ws rm mc ms n := by
  obtain ⟨hC, hd⟩ := hd
  subst hC
  have ok : ∀ w ∈ wsV own index y.cls y ws, w.before args s = true := fun w h => ht w (hT w h).1
  have hG : GoodIn Ts ws := fun w h => hT w (by unfold wsV; exact List.mem_append_right _ h)
  have hc : Cond.codeWith y bytes maxL ret hh ∈ ws := by rw [hw]; exact List.mem_cons_self
  refine ⟨⟨hrc, hrs, hR.1, hR.2, pay_in ht hG, hc⟩, ht _ (hG _ hc).1, ok _ (by simp [wsV]), ⟨hd.1, hd.2.1⟩, fun sig h => ?_, ok _ (by simp [wsV]), ok _ (by simp [wsV]), ok _ (by simp [wsV])⟩
  have h2 := hd.2.2
  rw [h] at h2
  exact (Option.some.inj h2).symm
theorem vx_runVW {y : MethodName} {bytes cc : ByteArray} {maxL nL mc ms n index : Nat} {ret : Option FieldType} {hh : List (Nat × Nat × Nat × Nat)} {ws : List Cond} {rm : Room} {Pc : Array Value → State → Prop} {Qc : Array Value → State → Outcome → State → Prop} {free : Addr → Prop} {Ts : List Cond} {own C : String} {b : Addr} {As rest : List Value} {g : JFrame}
    (S : CallFix p m c cc nL s args Ts own) (hM : Met l y ws rm Pc Qc mc ms free) (cw : vx_CVW R s args own C index y bytes maxL ret hh ws rm mc ms n) (hp : PreV s H C b Pc As)
    (hg : g.method = m) (hn : As.length = n) (hsize : g.locals.size = nL) (hstack : g.stack = As.reverse ++ .ref b :: rest) (hW : 2 * g.monitorRoom + (rest.map fun v => v.category).sum ≤ 8) (hdg : decode cc g.pc = .ok (.invokevirtual index, 3)) (hf : cells + mc ≤ R.cells ∧ slots + ms ≤ R.slots) :
    va_Run p l e R s m args below meth c H locs cells slots mc ms g rest (Qc (Value.ref b :: As).toArray) free := by
  obtain ⟨⟨hrc, hrs, hfr, hlo, hws, hcw⟩, hcode, hini, hy, hlen, hl, hin, hse⟩ := cw
  have hK : Back l R p e below s args y 3 8 (PreOf R mc ms Pc) (PostOf Qc mc ms free) := va_backW (hh := hh) (bytes := bytes) (maxL := maxL) (ret := ret) hM hp.1 hrc hrs hfr hlo hws hcw (fun a' U hW => word_at hW (Or.inl (by first | rfl | simp [Cond.onTables, Cond.keeps, Cond.steady])) hini)
  obtain ⟨hx, hb, hml, ho, -⟩ := S
  obtain ⟨-, ⟨cellB, hcB, hoB, hclB⟩, hPc⟩ := hp
  intro T hT X
  obtain ⟨v, vm₁, ⟨U', l2, c2, s2⟩, hW₁, X', ⟨g', mk, t, L, e1, e2, hq, h1, hL, h2, h3⟩, st⟩ := vx_callVW X hx (C := C) (hh := hh) (bytes := bytes) (maxL := maxL) (ret := ret) ho hl hin hse hcode hy hK (by rw [hT]; exact hcB) hoB hclB hg (hsize.trans hml.symm) (argsL := As) (rest := rest) (fun sig h => hn.trans (hlen sig h)) hstack hW (by rw [hb]; exact hdg)
    (fun vm₁ hW₁ => ⟨hf.1, hf.2, hPc (T.setVm vm₁) hT hW₁⟩)
  dsimp only [Pt.U, Pt.locs, Pt.cells, Pt.slots] at X' e1 e2 h1 h2 h3 st
  subst h1; subst h2; subst h3
  exact ⟨v, (T.setVm vm₁).calling g' mk (Value.ref b :: As).toArray, t, U', L, hT, X', hL, e1, e2, hq, st⟩
section
variable {y : MethodName} {bytes cc : ByteArray} {maxL nL mc ms n index : Nat} {ret : Option FieldType} {ws : List Cond} {rm : Room} {Pc : Array Value → State → Prop} {Qc : Array Value → State → Outcome → State → Prop} {XC : String → State → State → Prop} {free : Addr → Prop} {Ts : List Cond} {own C : String} {b : Addr} {As rest : List Value} {g : JFrame}
theorem vx_runVX {hh : List (Nat × Nat × Nat × Nat)} (S : CallFix p m c cc nL s args Ts own) (hM : vx_Met l y ws rm Pc Qc XC mc ms free) (cw : vx_CVW R s args own C index y bytes maxL ret hh ws rm mc ms n) (hp : PreV s H C b Pc As)
    (hg : g.method = m) (hn : As.length = n) (hsize : g.locals.size = nL) (hstack : g.stack = As.reverse ++ .ref b :: rest) (hW : 2 * g.monitorRoom + (rest.map fun v => v.category).sum ≤ 8) (hdg : decode cc g.pc = .ok (.invokevirtual index, 3)) (hf : cells + mc ≤ R.cells ∧ slots + ms ≤ R.slots) :
    vx_Run p l e R s m args below meth c H locs cells slots mc ms g rest (Qc (Value.ref b :: As).toArray) XC free := by
  obtain ⟨⟨hrc, hrs, hfr, hlo, hws, hcw⟩, hcode, hini, hy, hlen, hl, hin, hse⟩ := cw
  have hK : vx_Back l R p e below s args y 3 8 (PreOf R mc ms Pc) (PostOf Qc mc ms free) (vx_Post XC mc ms free) := vx_backW (hh := hh) (bytes := bytes) (maxL := maxL) (ret := ret) hM hp.1 hrc hrs hfr hlo hws hcw (fun a' U hW => word_at hW (Or.inl (by first | rfl | simp [Cond.onTables, Cond.keeps, Cond.steady])) hini)
  obtain ⟨hx, hb, hml, ho, -⟩ := S
  obtain ⟨-, ⟨cellB, hcB, hoB, hclB⟩, hPc⟩ := hp
  intro T hT X
  rcases vx_callVX X hx (C := C) (hh := hh) (bytes := bytes) (maxL := maxL) (ret := ret) ho hl hin hse hcode hy hK (by rw [hT]; exact hcB) hoB hclB hg (hsize.trans hml.symm) (argsL := As) (rest := rest) (fun sig h => hn.trans (hlen sig h)) hstack hW (by rw [hb]; exact hdg)
    (fun vm₁ hW₁ => ⟨hf.1, hf.2, hPc (T.setVm vm₁) hT hW₁⟩) with ⟨v, vm₁, ⟨U', l2, c2, s2⟩, hW₁, X', ⟨g', mk, t, L, e1, e2, hq, h1, hL, h2, h3⟩, st⟩ | ⟨q, vm₁, ⟨U', l2, c2, s2⟩, hW₁, X', ⟨g', mk, t, L, E, ce, e1, e2, hq, hce, hcv, hcl, h1, hL, h2, h3⟩, st⟩
  · dsimp only [Pt.U, Pt.locs, Pt.cells, Pt.slots] at X' e1 e2 h1 h2 h3 st
    subst h1; subst h2; subst h3
    exact Or.inl ⟨v, (T.setVm vm₁).calling g' mk (Value.ref b :: As).toArray, t, U', L, hT, X', hL, e1, e2, hq, st⟩
  · dsimp only [Pt.U, Pt.locs, Pt.cells, Pt.slots] at X' e1 e2 h1 h2 h3 st hcl
    subst h1; subst h2; subst h3
    exact Or.inr ⟨q, (T.setVm vm₁).calling g' mk (Value.ref b :: As).toArray, t, U', L, E, ce, hT, X', hL, e1, e2, hq, hce, hcv, vx_cls hW₁ hcl, st⟩
theorem vx_runSX {hh : List (Nat × Nat × Nat × Nat)} (S : CallFix p m c cc nL s args Ts own) (hM : vx_Met l y ws rm Pc Qc XC mc ms free) (cw : vx_CSW R s args own index y bytes maxL ret hh ws rm mc ms n) (hp : PreS s H Pc As)
    (hg : g.method = m) (hn : As.length = n) (hsize : g.locals.size = nL) (hstack : g.stack = As.reverse ++ rest) (hW : 2 * g.monitorRoom + (rest.map fun v => v.category).sum ≤ 8) (hdg : decode cc g.pc = .ok (.invokestatic index, 3)) (hf : cells + mc ≤ R.cells ∧ slots + ms ≤ R.slots) :
    vx_Run p l e R s m args below meth c H locs cells slots mc ms g rest (Qc As.toArray) XC free := by
  obtain ⟨⟨hrc, hrs, hfr, hlo, hws, hcw⟩, hcode, hini, hy, hlen, hl, hstt⟩ := cw
  have hK : vx_Back l R p e below s args y 3 8 (PreOf R mc ms Pc) (PostOf Qc mc ms free) (vx_Post XC mc ms free) := vx_backW (hh := hh) (bytes := bytes) (maxL := maxL) (ret := ret) hM hp.1 hrc hrs hfr hlo hws hcw (fun a' U hW => word_at hW (Or.inl (by first | rfl | simp [Cond.onTables, Cond.keeps, Cond.steady])) hini)
  obtain ⟨hx, hb, hml, ho, -⟩ := S
  intro T hT X
  rcases vx_callSX X hx (hh := hh) (bytes := bytes) (maxL := maxL) (ret := ret) ho hl hstt hini hcode hy hK hg (hsize.trans hml.symm) (argsL := As) (rest := rest) (fun sig h => hn.trans (hlen sig h)) hstack hW (by rw [hb]; exact hdg)
    (fun vm₁ hW₁ => ⟨hf.1, hf.2, hp.2 (T.setVm vm₁) hT hW₁⟩) with ⟨v, vm₁, ⟨U', l2, c2, s2⟩, hW₁, X', ⟨g', mk, t, L, e1, e2, hq, h1, hL, h2, h3⟩, st⟩ | ⟨q, vm₁, ⟨U', l2, c2, s2⟩, hW₁, X', ⟨g', mk, t, L, E, ce, e1, e2, hq, hce, hcv, hcl, h1, hL, h2, h3⟩, st⟩
  · dsimp only [Pt.U, Pt.locs, Pt.cells, Pt.slots] at X' e1 e2 h1 h2 h3 st
    subst h1; subst h2; subst h3
    exact Or.inl ⟨v, (T.setVm vm₁).calling g' mk As.toArray, t, U', L, hT, X', hL, e1, e2, hq, st⟩
  · dsimp only [Pt.U, Pt.locs, Pt.cells, Pt.slots] at X' e1 e2 h1 h2 h3 st hcl
    subst h1; subst h2; subst h3
    exact Or.inr ⟨q, (T.setVm vm₁).calling g' mk As.toArray, t, U', L, E, ce, hT, X', hL, e1, e2, hq, hce, hcv, vx_cls hW₁ hcl, st⟩
end
end VXH
theorem vx_ofWH {l : Launch} {y : MethodName} {ws ws' : List Cond} {rm : Room} {Pc : Array Value → State → Prop} {Qc : Array Value → State → Outcome → State → Prop} {XC : String → State → State → Prop} {mc ms : Nat} {free : Addr → Prop} {cc : ByteArray} {maxL : Nat} {ret : Option FieldType} {hh : List (Nat × Nat × Nat × Nat)}
    (hy : plainName y.cls = true) (hw : ws = Cond.codeWith y cc maxL ret hh :: ws')
    (body : ∀ p e s m args below meth c s₁, BodyLoose p l y (headSpec ws rm) cc maxL ret e s m args below meth c s₁ → c.maxLocals = maxL → Pc args s →
      W p l e (headSpec ws rm).room s m args below meth c s.heap [] 0 0 (vx_MQ below Qc XC args s mc ms free) (entryFrame m args maxL)) : vx_Met l y ws rm Pc Qc XC mc ms free := by
  refine MetFree.of_bodyS (code := cc) (maxLocals := maxL) (ret := ret) hy ?_ ?_
  · intro args s m h hn
    obtain ⟨m9, meth, c, hn9, h1, h2, h3, h4, -, h5, h6, -⟩ := Cond.codeWith_spec (atoms_spec (ws := ws) h _ (by rw [hw]; exact List.mem_cons_self))
    cases hn.symm.trans hn9
    exact ⟨meth, c, h1, h2, h3, h4, h5, h6⟩
  · intro p e s m args below meth c s₁ B hml hP _
    have hh0 : s₁.heap = s.heap := by rw [B.state]; rfl
    obtain ⟨t, a1, o, b1, b2, b3⟩ := body p e s m args below meth c s₁ B hml hP s₁ hh0 (Stand.of_body B)
    exact ⟨t, o, a1, b1, b2, b3⟩
/-! ===== END ===== -/
/-! names, fields, methods; the words of the table, by their places -/
def RP : String := "CurveRaster$Piece"
def RL : String := "CurveRaster$Place"
def RC : String := "CurveRaster"
def RM : String := "CurveRasterModel"
def RW : String := "CurveRasterLaw"
def RJL : String := "java/lang/Long"
def RJM : String := "java/lang/Math"
def RJA : String := "java/util/Arrays"
def TP : u_T := fun k => match k with
  | 0 => ("CurveRaster$Piece", "line", "Z", true)
  | 1 => ("CurveRaster$Piece", "squareX", "I", true)
  | 2 => ("CurveRaster$Piece", "onceX", "I", true)
  | 3 => ("CurveRaster$Piece", "squareY", "I", true)
  | 4 => ("CurveRaster$Piece", "onceY", "I", true)
  | 5 => ("CurveRaster$Piece", "px", "I", false)
  | 6 => ("CurveRaster$Piece", "py", "I", false)
  | 7 => ("CurveRaster$Piece", "qx", "I", false)
  | 8 => ("CurveRaster$Piece", "qy", "I", false)
  | 9 => ("CurveRaster$Piece", "rx", "I", false)
  | _ => ("CurveRaster$Piece", "ry", "I", false)
def tyP : Nat → FieldType := fun k => match k with
  | 0 => .boolean
  | 1 => .int
  | 2 => .int
  | 3 => .int
  | 4 => .int
  | 5 => .int
  | 6 => .int
  | 7 => .int
  | 8 => .int
  | 9 => .int
  | _ => .int
theorem nmP : ∀ a, a < 11 → ∀ b, b < 11 → a ≠ b → (TP a).2.1 ≠ (TP b).2.1 := by decide +kernel
theorem tyP_ok : ∀ k, k < 11 → parseFieldDescriptor (TP k).2.2.1 = some (tyP k) := by decide +kernel
def TL : u_T := fun k => match k with
  | 0 => ("CurveRaster$Place", "whole", "J", false)
  | 1 => ("CurveRaster$Place", "factor", "J", false)
  | 2 => ("CurveRaster$Place", "under", "J", false)
  | _ => ("CurveRaster$Place", "scale", "J", false)
def tyL : Nat → FieldType := fun k => match k with
  | 0 => .long
  | 1 => .long
  | 2 => .long
  | _ => .long
theorem nmL : ∀ a, a < 4 → ∀ b, b < 4 → a ≠ b → (TL a).2.1 ≠ (TL b).2.1 := by decide +kernel
theorem tyL_ok : ∀ k, k < 4 → parseFieldDescriptor (TL k).2.2.1 = some (tyL k) := by decide +kernel
def TC : u_T := fun k => match k with
  | 0 => ("CurveRaster", "xs", "[I", true)
  | 1 => ("CurveRaster", "ys", "[I", true)
  | 2 => ("CurveRaster", "ons", "[Z", true)
  | 3 => ("CurveRaster", "pieces", "[LCurveRaster$Piece;", true)
  | 4 => ("CurveRaster", "windings", "[I", true)
  | 5 => ("CurveRaster", "place", "LCurveRaster$Place;", true)
  | 6 => ("CurveRaster", "contourCount", "I", false)
  | 7 => ("CurveRaster", "pointCount", "I", false)
  | 8 => ("CurveRaster", "openFrom", "I", false)
  | _ => ("CurveRaster", "byParity", "Z", false)
def tyC : Nat → FieldType := fun k => match k with
  | 0 => .array .int
  | 1 => .array .int
  | 2 => .array .boolean
  | 3 => .array (.object "CurveRaster$Piece")
  | 4 => .array .int
  | 5 => .object "CurveRaster$Place"
  | 6 => .int
  | 7 => .int
  | 8 => .int
  | _ => .boolean
theorem nmC : ∀ a, a < 10 → ∀ b, b < 10 → a ≠ b → (TC a).2.1 ≠ (TC b).2.1 := by decide +kernel
theorem tyC_ok : ∀ k, k < 10 → parseFieldDescriptor (TC k).2.2.1 = some (tyC k) := by decide +kernel
def TM : u_T := fun k => match k with
  | 0 => ("CurveRasterModel", "fault", "I", false)
  | 1 => ("CurveRasterModel", "byParity", "Z", false)
  | 2 => ("CurveRasterModel", "points", "I", false)
  | 3 => ("CurveRasterModel", "xs", "[I", true)
  | 4 => ("CurveRasterModel", "ys", "[I", true)
  | 5 => ("CurveRasterModel", "on", "[Z", true)
  | 6 => ("CurveRasterModel", "contours", "I", false)
  | 7 => ("CurveRasterModel", "ends", "[I", true)
  | 8 => ("CurveRasterModel", "ringSize", "I", false)
  | 9 => ("CurveRasterModel", "ringX", "[I", true)
  | 10 => ("CurveRasterModel", "ringY", "[I", true)
  | 11 => ("CurveRasterModel", "ringOn", "[Z", true)
  | 12 => ("CurveRasterModel", "pieces", "I", false)
  | 13 => ("CurveRasterModel", "piece", "[I", true)
  | 14 => ("CurveRasterModel", "isCurve", "[Z", true)
  | 15 => ("CurveRasterModel", "high", "J", false)
  | _ => ("CurveRasterModel", "low", "J", false)
def tyM : Nat → FieldType := fun k => match k with
  | 0 => .int
  | 1 => .boolean
  | 2 => .int
  | 3 => .array .int
  | 4 => .array .int
  | 5 => .array .boolean
  | 6 => .int
  | 7 => .array .int
  | 8 => .int
  | 9 => .array .int
  | 10 => .array .int
  | 11 => .array .boolean
  | 12 => .int
  | 13 => .array .int
  | 14 => .array .boolean
  | 15 => .long
  | _ => .long
theorem nmM : ∀ a, a < 17 → ∀ b, b < 17 → a ≠ b → (TM a).2.1 ≠ (TM b).2.1 := by decide +kernel
theorem tyM_ok : ∀ k, k < 17 → parseFieldDescriptor (TM k).2.2.1 = some (tyM k) := by decide +kernel
abbrev vwCl : List vw_C := [(RP, TP, 11), (RL, TL, 4), (RC, TC, 10), (RM, TM, 17)]
abbrev cC_init : ByteArray := prog_1_method_1_code
def yC_init : MethodName := ⟨RC, "<init>", "()V"⟩
abbrev cL_init : ByteArray := prog_3_method_1_code
def yL_init : MethodName := ⟨RL, "<init>", "()V"⟩
abbrev cC_drop : ByteArray := prog_1_method_4_code
def yC_drop : MethodName := ⟨RC, "drop", "()I"⟩
abbrev cC_clear : ByteArray := prog_1_method_5_code
def yC_clear : MethodName := ⟨RC, "clear", "()I"⟩
abbrev cC_parity : ByteArray := prog_1_method_7_code
def yC_parity : MethodName := ⟨RC, "parity", "(Z)Z"⟩
abbrev cC_count : ByteArray := prog_1_method_8_code
def yC_count : MethodName := ⟨RC, "count", "(I)I"⟩
abbrev cC_countPieces : ByteArray := prog_1_method_21_code
def yC_countPieces : MethodName := ⟨RC, "countPieces", "(Z)I"⟩
abbrev cC_countSet : ByteArray := prog_1_method_22_code
def yC_countSet : MethodName := ⟨RC, "countSet", "()I"⟩
abbrev cC_rowBits : ByteArray := prog_1_method_24_code
def yC_rowBits : MethodName := ⟨RC, "rowBits", "(I)J"⟩
abbrev cC_bottomOf : ByteArray := prog_1_method_18_code
def yC_bottomOf : MethodName := ⟨RC, "bottomOf", "(I)I"⟩
abbrev cC_wind : ByteArray := prog_1_method_28_code
def yC_wind : MethodName := ⟨RC, "wind", "(IIII)V"⟩
abbrev cJA_fill : ByteArray := prog_15_method_103_code
def yJA_fill : MethodName := ⟨RJA, "fill", "([II)V"⟩
abbrev cP_crosses : ByteArray := prog_2_method_3_code
def yP_crosses : MethodName := ⟨RP, "crosses", "(IZ)Z"⟩
abbrev cP_underRoot : ByteArray := prog_2_method_4_code
def yP_underRoot : MethodName := ⟨RP, "underRoot", "(I)J"⟩
abbrev cL_take : ByteArray := prog_3_method_2_code
def yL_take : MethodName := ⟨RL, "take", "(LCurveRaster$Piece;IZ)V"⟩
abbrev cL_pointsLeft : ByteArray := prog_3_method_3_code
def yL_pointsLeft : MethodName := ⟨RL, "pointsLeft", "(III)I"⟩
abbrev cL_isRightOf : ByteArray := prog_3_method_4_code
def yL_isRightOf : MethodName := ⟨RL, "isRightOf", "(I)Z"⟩
abbrev cL_compareToRoot : ByteArray := prog_3_method_5_code
def yL_compareToRoot : MethodName := ⟨RL, "compareToRoot", "(JJ)J"⟩
abbrev cC_isIn : ByteArray := prog_1_method_23_code
def yC_isIn : MethodName := ⟨RC, "isIn", "(I)Z"⟩
abbrev cJL_bitCount : ByteArray := prog_10_method_50_code
def yJL_bitCount : MethodName := ⟨RJL, "bitCount", "(J)I"⟩
abbrev cW_add : ByteArray := method_3_code
def yW_add : MethodName := ⟨RW, "add", "(LCurveRaster;IIZ[J)I"⟩
abbrev cC_add : ByteArray := prog_1_method_2_code
def yC_add : MethodName := ⟨RC, "add", "(IIZ)I"⟩
abbrev cC_canBeTold : ByteArray := prog_1_method_15_code
def yC_canBeTold : MethodName := ⟨RC, "canBeTold", "(J)Z"⟩
abbrev cW_close : ByteArray := method_4_code
def yW_close : MethodName := ⟨RW, "close", "(LCurveRaster;[J)I"⟩
abbrev cC_close : ByteArray := prog_1_method_3_code
def yC_close : MethodName := ⟨RC, "close", "()I"⟩
abbrev cC_pieceOf : ByteArray := prog_1_method_19_code
def yC_pieceOf : MethodName := ⟨RC, "pieceOf", "(I)LCurveRaster$Piece;"⟩
abbrev cC_curveEnd : ByteArray := prog_1_method_20_code
def yC_curveEnd : MethodName := ⟨RC, "curveEnd", "([III)I"⟩
abbrev cJM_floorDiv : ByteArray := prog_11_method_47_code
def yJM_floorDiv : MethodName := ⟨RJM, "floorDiv", "(II)I"⟩
abbrev cP_init : ByteArray := prog_2_method_1_code
def yP_init : MethodName := ⟨RP, "<init>", "(IIIIIIZ)V"⟩
abbrev cW_move : ByteArray := method_5_code
def yW_move : MethodName := ⟨RW, "move", "(LCurveRaster;II)I"⟩
abbrev cC_move : ByteArray := prog_1_method_6_code
def yC_move : MethodName := ⟨RC, "move", "(II)V"⟩
abbrev cP_shift : ByteArray := prog_2_method_2_code
def yP_shift : MethodName := ⟨RP, "shift", "(II)V"⟩
abbrev cW_winding : ByteArray := method_6_code
def yW_winding : MethodName := ⟨RW, "winding", "(LCurveRaster;II[J)I"⟩
abbrev cC_winding : ByteArray := prog_1_method_9_code
def yC_winding : MethodName := ⟨RC, "winding", "(II)I"⟩
abbrev cC_canBeAsked : ByteArray := prog_1_method_16_code
def yC_canBeAsked : MethodName := ⟨RC, "canBeAsked", "(I)Z"⟩
abbrev cW_row : ByteArray := method_7_code
def yW_row : MethodName := ⟨RW, "row", "(LCurveRaster;I[J)I"⟩
abbrev cC_row : ByteArray := prog_1_method_10_code
def yC_row : MethodName := ⟨RC, "row", "(I)J"⟩
abbrev cC_isInPicture : ByteArray := prog_1_method_17_code
def yC_isInPicture : MethodName := ⟨RC, "isInPicture", "(I)Z"⟩
abbrev cW_share : ByteArray := method_8_code
def yW_share : MethodName := ⟨RW, "share", "(LCurveRaster;II[J)I"⟩
abbrev cC_share : ByteArray := prog_1_method_11_code
def yC_share : MethodName := ⟨RC, "share", "(II)I"⟩
abbrev cW_spans : ByteArray := method_9_code
def yW_spans : MethodName := ⟨RW, "spans", "(LCurveRaster;I[J)I"⟩
abbrev cC_spans : ByteArray := prog_1_method_12_code
def yC_spans : MethodName := ⟨RC, "spans", "(I)I"⟩
abbrev cC_firstsOf : ByteArray := prog_1_method_25_code
def yC_firstsOf : MethodName := ⟨RC, "firstsOf", "(J)J"⟩
abbrev cW_span : ByteArray := method_10_code
def yW_span : MethodName := ⟨RW, "span", "(LCurveRaster;IIZ[J)I"⟩
abbrev cC_span : ByteArray := prog_1_method_13_code
def yC_span : MethodName := ⟨RC, "span", "(IIZ)I"⟩
abbrev cC_lastsOf : ByteArray := prog_1_method_26_code
def yC_lastsOf : MethodName := ⟨RC, "lastsOf", "(J)J"⟩
abbrev cC_bitNumber : ByteArray := prog_1_method_27_code
def yC_bitNumber : MethodName := ⟨RC, "bitNumber", "(JI)I"⟩
abbrev cW_extent : ByteArray := method_11_code
def yW_extent : MethodName := ⟨RW, "extent", "(LCurveRaster;I[J)I"⟩
abbrev cC_extent : ByteArray := prog_1_method_14_code
def yC_extent : MethodName := ⟨RC, "extent", "(I)I"⟩
abbrev cP_bound : ByteArray := prog_2_method_5_code
def yP_bound : MethodName := ⟨RP, "bound", "(I)I"⟩
abbrev cP_floorOfLeast : ByteArray := prog_2_method_6_code
def yP_floorOfLeast : MethodName := ⟨RP, "floorOfLeast", "(III)I"⟩
abbrev cJM_min : ByteArray := prog_11_method_69_code
def yJM_min : MethodName := ⟨RJM, "min", "(II)I"⟩
abbrev cJM_max : ByteArray := prog_11_method_65_code
def yJM_max : MethodName := ⟨RJM, "max", "(II)I"⟩
abbrev cM_init : ByteArray := prog_5_method_1_code
def yM_init : MethodName := ⟨RM, "<init>", "()V"⟩
abbrev cM_thrown : ByteArray := prog_5_method_2_code
def yM_thrown : MethodName := ⟨RM, "thrown", "()I"⟩
abbrev cM_add : ByteArray := prog_5_method_7_code
def yM_add : MethodName := ⟨RM, "add", "(IIZ)I"⟩
abbrev cM_isCoordinate : ByteArray := prog_5_method_4_code
def yM_isCoordinate : MethodName := ⟨RM, "isCoordinate", "(J)Z"⟩
abbrev cM_refused : ByteArray := prog_5_method_3_code
def yM_refused : MethodName := ⟨RM, "refused", "(I)Z"⟩
abbrev cM_open : ByteArray := prog_5_method_5_code
def yM_open : MethodName := ⟨RM, "open", "()I"⟩
abbrev cM_closed : ByteArray := prog_5_method_6_code
def yM_closed : MethodName := ⟨RM, "closed", "()I"⟩
abbrev cM_close : ByteArray := prog_5_method_8_code
def yM_close : MethodName := ⟨RM, "close", "()I"⟩
abbrev cM_drop : ByteArray := prog_5_method_9_code
def yM_drop : MethodName := ⟨RM, "drop", "()I"⟩
abbrev cM_clear : ByteArray := prog_5_method_10_code
def yM_clear : MethodName := ⟨RM, "clear", "()I"⟩
abbrev cM_move : ByteArray := prog_5_method_11_code
def yM_move : MethodName := ⟨RM, "move", "(II)V"⟩
abbrev cM_parity : ByteArray := prog_5_method_12_code
def yM_parity : MethodName := ⟨RM, "parity", "(Z)Z"⟩
abbrev cM_count : ByteArray := prog_5_method_29_code
def yM_count : MethodName := ⟨RM, "count", "(I)I"⟩
abbrev cM_countOf : ByteArray := prog_5_method_27_code
def yM_countOf : MethodName := ⟨RM, "countOf", "(Z)I"⟩
abbrev cM_makePieces : ByteArray := prog_5_method_16_code
def yM_makePieces : MethodName := ⟨RM, "makePieces", "()V"⟩
abbrev cM_makeRing : ByteArray := prog_5_method_14_code
def yM_makeRing : MethodName := ⟨RM, "makeRing", "(II)V"⟩
abbrev cM_putRing : ByteArray := prog_5_method_13_code
def yM_putRing : MethodName := ⟨RM, "putRing", "(IIZ)V"⟩
abbrev cM_putPiece : ByteArray := prog_5_method_15_code
def yM_putPiece : MethodName := ⟨RM, "putPiece", "(IIIZ)V"⟩
abbrev cM_setPixels : ByteArray := prog_5_method_28_code
def yM_setPixels : MethodName := ⟨RM, "setPixels", "()I"⟩
abbrev cM_isSet : ByteArray := prog_5_method_26_code
def yM_isSet : MethodName := ⟨RM, "isSet", "(II)Z"⟩
abbrev cM_isIn : ByteArray := prog_5_method_25_code
def yM_isIn : MethodName := ⟨RM, "isIn", "(II)Z"⟩
abbrev cM_windingOf : ByteArray := prog_5_method_24_code
def yM_windingOf : MethodName := ⟨RM, "windingOf", "(II)I"⟩
abbrev cM_curveCount : ByteArray := prog_5_method_23_code
def yM_curveCount : MethodName := ⟨RM, "curveCount", "(III)I"⟩
abbrev cM_isLeft : ByteArray := prog_5_method_21_code
def yM_isLeft : MethodName := ⟨RM, "isLeft", "(JJJZJJJ)Z"⟩
abbrev cM_signOf : ByteArray := prog_5_method_17_code
def yM_signOf : MethodName := ⟨RM, "signOf", "(J)I"⟩
abbrev cM_compareRoot : ByteArray := prog_5_method_20_code
def yM_compareRoot : MethodName := ⟨RM, "compareRoot", "(JJJZJJ)I"⟩
abbrev cM_signAt : ByteArray := prog_5_method_19_code
def yM_signAt : MethodName := ⟨RM, "signAt", "(JJJJJ)I"⟩
abbrev cM_addProduct : ByteArray := prog_5_method_18_code
def yM_addProduct : MethodName := ⟨RM, "addProduct", "(JJ)V"⟩
abbrev cM_lineCount : ByteArray := prog_5_method_22_code
def yM_lineCount : MethodName := ⟨RM, "lineCount", "(III)I"⟩
abbrev cM_winding : ByteArray := prog_5_method_31_code
def yM_winding : MethodName := ⟨RM, "winding", "(II)I"⟩
abbrev cM_isFar : ByteArray := prog_5_method_30_code
def yM_isFar : MethodName := ⟨RM, "isFar", "(I)Z"⟩
abbrev cM_row : ByteArray := prog_5_method_33_code
def yM_row : MethodName := ⟨RM, "row", "(I)J"⟩
abbrev cM_isPlace : ByteArray := prog_5_method_32_code
def yM_isPlace : MethodName := ⟨RM, "isPlace", "(I)Z"⟩
abbrev cM_share : ByteArray := prog_5_method_34_code
def yM_share : MethodName := ⟨RM, "share", "(II)I"⟩
abbrev cM_spans : ByteArray := prog_5_method_35_code
def yM_spans : MethodName := ⟨RM, "spans", "(I)I"⟩
abbrev cM_span : ByteArray := prog_5_method_36_code
def yM_span : MethodName := ⟨RM, "span", "(IIZ)I"⟩
abbrev cM_extent : ByteArray := prog_5_method_39_code
def yM_extent : MethodName := ⟨RM, "extent", "(I)I"⟩
abbrev cM_bound : ByteArray := prog_5_method_38_code
def yM_bound : MethodName := ⟨RM, "bound", "(IZZ)J"⟩
abbrev cM_ceiling : ByteArray := prog_5_method_37_code
def yM_ceiling : MethodName := ⟨RM, "ceiling", "(JJ)J"⟩
abbrev cW_law : ByteArray := code
def yW_law : MethodName := ⟨RW, "law", "([I)Z"⟩
/-- the good words of the table -/
def TB : List Cond := lw_tbl.filter goodWord
theorem tb_in {w : Cond} (i : Nat) (h : lw_tbl[i]? = some w) (hg : goodWord w = true) : w ∈ TB := List.mem_filter.mpr ⟨List.mem_of_getElem? h, hg⟩
theorem iniW : (.initialized RW : Cond) ∈ TB := tb_in 29 (by decide +kernel) (by decide +kernel)
theorem iniC : (.initialized RC : Cond) ∈ TB := tb_in 30 (by decide +kernel) (by decide +kernel)
theorem iniL : (.initialized RL : Cond) ∈ TB := tb_in 31 (by decide +kernel) (by decide +kernel)
theorem iniM : (.initialized RM : Cond) ∈ TB := tb_in 32 (by decide +kernel) (by decide +kernel)
theorem iniThrowable : (.initialized "java/lang/Throwable" : Cond) ∈ TB := tb_in 33 (by decide +kernel) (by decide +kernel)
theorem iniException : (.initialized "java/lang/Exception" : Cond) ∈ TB := tb_in 34 (by decide +kernel) (by decide +kernel)
theorem iniRuntimeException : (.initialized "java/lang/RuntimeException" : Cond) ∈ TB := tb_in 35 (by decide +kernel) (by decide +kernel)
theorem iniIllegalArgumentException : (.initialized "java/lang/IllegalArgumentException" : Cond) ∈ TB := tb_in 36 (by decide +kernel) (by decide +kernel)
theorem iniIllegalStateException : (.initialized "java/lang/IllegalStateException" : Cond) ∈ TB := tb_in 37 (by decide +kernel) (by decide +kernel)
theorem iniP : (.initialized RP : Cond) ∈ TB := tb_in 38 (by decide +kernel) (by decide +kernel)
theorem iniJM : (.initialized RJM : Cond) ∈ TB := tb_in 39 (by decide +kernel) (by decide +kernel)
theorem iniJA : (.initialized RJA : Cond) ∈ TB := tb_in 40 (by decide +kernel) (by decide +kernel)
theorem iniJL : (.initialized RJL : Cond) ∈ TB := tb_in 41 (by decide +kernel) (by decide +kernel)
theorem iniIndexOutOfBoundsException : (.initialized "java/lang/IndexOutOfBoundsException" : Cond) ∈ TB := tb_in 42 (by decide +kernel) (by decide +kernel)
theorem clW_8 : (.classLink RW 8 RC : Cond) ∈ TB := tb_in 43 (by decide +kernel) (by decide +kernel)
theorem insC : (.instantiable RC 10 : Cond) ∈ TB := tb_in 44 (by decide +kernel) (by decide +kernel)
theorem mlW_48 : (.methodLink RW 48 yC_init : Cond) ∈ TB := tb_in 45 (by decide +kernel) (by decide +kernel)
theorem imC_init : (.instanceMethod yC_init : Cond) ∈ TB := tb_in 46 (by decide +kernel) (by decide +kernel)
theorem coC_init : (.code yC_init cC_init 1 none : Cond) ∈ TB := tb_in 47 (by decide +kernel) (by decide +kernel)
theorem mlC_1 : (.methodLink RC 1 objectInit : Cond) ∈ TB := tb_in 48 (by decide +kernel) (by decide +kernel)
theorem imO : (.instanceMethod objectInit : Cond) ∈ TB := tb_in 49 (by decide +kernel) (by decide +kernel)
theorem coO : (.code objectInit ⟨#[0xb1]⟩ 1 none : Cond) ∈ TB := tb_in 50 (by decide +kernel) (by decide +kernel)
theorem clC_20 : (.classLink RC 20 RP : Cond) ∈ TB := tb_in 51 (by decide +kernel) (by decide +kernel)
theorem clC_29 : (.classLink RC 29 RL : Cond) ∈ TB := tb_in 53 (by decide +kernel) (by decide +kernel)
theorem insL : (.instantiable RL 4 : Cond) ∈ TB := tb_in 54 (by decide +kernel) (by decide +kernel)
theorem imL_init : (.instanceMethod yL_init : Cond) ∈ TB := tb_in 56 (by decide +kernel) (by decide +kernel)
theorem coL_init : (.code yL_init cL_init 1 none : Cond) ∈ TB := tb_in 57 (by decide +kernel) (by decide +kernel)
theorem mlL_3 : (.methodLink RL 3 objectInit : Cond) ∈ TB := tb_in 58 (by decide +kernel) (by decide +kernel)
theorem flL_42 : (.fieldLink RL 42 "CurveRaster$Place" "whole" "J" : Cond) ∈ TB := tb_in 59 (by decide +kernel) (by decide +kernel)
theorem flL_27 : (.fieldLink RL 27 "CurveRaster$Place" "factor" "J" : Cond) ∈ TB := tb_in 60 (by decide +kernel) (by decide +kernel)
theorem flL_33 : (.fieldLink RL 33 "CurveRaster$Place" "under" "J" : Cond) ∈ TB := tb_in 61 (by decide +kernel) (by decide +kernel)
theorem flL_36 : (.fieldLink RL 36 "CurveRaster$Place" "scale" "J" : Cond) ∈ TB := tb_in 62 (by decide +kernel) (by decide +kernel)
theorem ac_int : (.arrayClass .int : Cond) ∈ TB := tb_in 72 (by decide +kernel) (by decide +kernel)
theorem ac_boolean : (.arrayClass .boolean : Cond) ∈ TB := tb_in 73 (by decide +kernel) (by decide +kernel)
theorem flC_9 : (.fieldLink RC 9 "CurveRaster" "xs" "[I" : Cond) ∈ TB := tb_in 74 (by decide +kernel) (by decide +kernel)
theorem flC_13 : (.fieldLink RC 13 "CurveRaster" "ys" "[I" : Cond) ∈ TB := tb_in 75 (by decide +kernel) (by decide +kernel)
theorem flC_16 : (.fieldLink RC 16 "CurveRaster" "ons" "[Z" : Cond) ∈ TB := tb_in 76 (by decide +kernel) (by decide +kernel)
theorem flC_22 : (.fieldLink RC 22 "CurveRaster" "pieces" "[LCurveRaster$Piece;" : Cond) ∈ TB := tb_in 77 (by decide +kernel) (by decide +kernel)
theorem flC_26 : (.fieldLink RC 26 "CurveRaster" "windings" "[I" : Cond) ∈ TB := tb_in 78 (by decide +kernel) (by decide +kernel)
theorem flC_32 : (.fieldLink RC 32 "CurveRaster" "place" "LCurveRaster$Place;" : Cond) ∈ TB := tb_in 79 (by decide +kernel) (by decide +kernel)
theorem flC_36 : (.fieldLink RC 36 "CurveRaster" "contourCount" "I" : Cond) ∈ TB := tb_in 80 (by decide +kernel) (by decide +kernel)
theorem flC_40 : (.fieldLink RC 40 "CurveRaster" "pointCount" "I" : Cond) ∈ TB := tb_in 81 (by decide +kernel) (by decide +kernel)
theorem flC_43 : (.fieldLink RC 43 "CurveRaster" "openFrom" "I" : Cond) ∈ TB := tb_in 82 (by decide +kernel) (by decide +kernel)
theorem flC_46 : (.fieldLink RC 46 "CurveRaster" "byParity" "Z" : Cond) ∈ TB := tb_in 83 (by decide +kernel) (by decide +kernel)
theorem mlW_65 : (.methodLink RW 65 yC_drop : Cond) ∈ TB := tb_in 105 (by decide +kernel) (by decide +kernel)
theorem imC_drop : (.instanceMethod yC_drop : Cond) ∈ TB := tb_in 106 (by decide +kernel) (by decide +kernel)
theorem seC_drop : (.selects RC yC_drop yC_drop : Cond) ∈ TB := tb_in 107 (by decide +kernel) (by decide +kernel)
theorem coC_drop : (.code yC_drop cC_drop 2 (some .int) : Cond) ∈ TB := tb_in 108 (by decide +kernel) (by decide +kernel)
theorem mlW_69 : (.methodLink RW 69 yC_clear : Cond) ∈ TB := tb_in 109 (by decide +kernel) (by decide +kernel)
theorem imC_clear : (.instanceMethod yC_clear : Cond) ∈ TB := tb_in 110 (by decide +kernel) (by decide +kernel)
theorem seC_clear : (.selects RC yC_clear yC_clear : Cond) ∈ TB := tb_in 111 (by decide +kernel) (by decide +kernel)
theorem coC_clear : (.code yC_clear cC_clear 2 (some .int) : Cond) ∈ TB := tb_in 112 (by decide +kernel) (by decide +kernel)
theorem mlW_77 : (.methodLink RW 77 yC_parity : Cond) ∈ TB := tb_in 113 (by decide +kernel) (by decide +kernel)
theorem imC_parity : (.instanceMethod yC_parity : Cond) ∈ TB := tb_in 114 (by decide +kernel) (by decide +kernel)
theorem seC_parity : (.selects RC yC_parity yC_parity : Cond) ∈ TB := tb_in 115 (by decide +kernel) (by decide +kernel)
theorem coC_parity : (.code yC_parity cC_parity 3 (some .boolean) : Cond) ∈ TB := tb_in 116 (by decide +kernel) (by decide +kernel)
theorem mlW_82 : (.methodLink RW 82 yC_count : Cond) ∈ TB := tb_in 117 (by decide +kernel) (by decide +kernel)
theorem imC_count : (.instanceMethod yC_count : Cond) ∈ TB := tb_in 118 (by decide +kernel) (by decide +kernel)
theorem seC_count : (.selects RC yC_count yC_count : Cond) ∈ TB := tb_in 119 (by decide +kernel) (by decide +kernel)
theorem coC_count : (.code yC_count cC_count 2 (some .int) : Cond) ∈ TB := tb_in 120 (by decide +kernel) (by decide +kernel)
theorem mlC_80 : (.methodLink RC 80 yC_countPieces : Cond) ∈ TB := tb_in 121 (by decide +kernel) (by decide +kernel)
theorem imC_countPieces : (.instanceMethod yC_countPieces : Cond) ∈ TB := tb_in 123 (by decide +kernel) (by decide +kernel)
theorem coC_countPieces : (.code yC_countPieces cC_countPieces 5 (some .int) : Cond) ∈ TB := tb_in 124 (by decide +kernel) (by decide +kernel)
theorem mlC_84 : (.methodLink RC 84 yC_countSet : Cond) ∈ TB := tb_in 125 (by decide +kernel) (by decide +kernel)
theorem imC_countSet : (.instanceMethod yC_countSet : Cond) ∈ TB := tb_in 127 (by decide +kernel) (by decide +kernel)
theorem coC_countSet : (.code yC_countSet cC_countSet 3 (some .int) : Cond) ∈ TB := tb_in 128 (by decide +kernel) (by decide +kernel)
theorem mlC_106 : (.methodLink RC 106 yC_rowBits : Cond) ∈ TB := tb_in 129 (by decide +kernel) (by decide +kernel)
theorem imC_rowBits : (.instanceMethod yC_rowBits : Cond) ∈ TB := tb_in 131 (by decide +kernel) (by decide +kernel)
theorem coC_rowBits : (.code yC_rowBits cC_rowBits 5 (some .long) : Cond) ∈ TB := tb_in 132 (by decide +kernel) (by decide +kernel)
theorem mlC_112 : (.methodLink RC 112 yC_bottomOf : Cond) ∈ TB := tb_in 133 (by decide +kernel) (by decide +kernel)
theorem smC_bottomOf : (.static yC_bottomOf : Cond) ∈ TB := tb_in 134 (by decide +kernel) (by decide +kernel)
theorem coC_bottomOf : (.code yC_bottomOf cC_bottomOf 1 (some .int) : Cond) ∈ TB := tb_in 135 (by decide +kernel) (by decide +kernel)
theorem mlC_94 : (.methodLink RC 94 yC_wind : Cond) ∈ TB := tb_in 136 (by decide +kernel) (by decide +kernel)
theorem imC_wind : (.instanceMethod yC_wind : Cond) ∈ TB := tb_in 138 (by decide +kernel) (by decide +kernel)
theorem coC_wind : (.code yC_wind cC_wind 7 none : Cond) ∈ TB := tb_in 139 (by decide +kernel) (by decide +kernel)
theorem mlC_171 : (.methodLink RC 171 yJA_fill : Cond) ∈ TB := tb_in 140 (by decide +kernel) (by decide +kernel)
theorem smJA_fill : (.static yJA_fill : Cond) ∈ TB := tb_in 141 (by decide +kernel) (by decide +kernel)
theorem coJA_fill : (.code yJA_fill cJA_fill 4 none : Cond) ∈ TB := tb_in 142 (by decide +kernel) (by decide +kernel)
theorem mlC_177 : (.methodLink RC 177 yP_crosses : Cond) ∈ TB := tb_in 143 (by decide +kernel) (by decide +kernel)
theorem imP_crosses : (.instanceMethod yP_crosses : Cond) ∈ TB := tb_in 144 (by decide +kernel) (by decide +kernel)
theorem seP_crosses : (.selects RP yP_crosses yP_crosses : Cond) ∈ TB := tb_in 145 (by decide +kernel) (by decide +kernel)
theorem coP_crosses : (.code yP_crosses cP_crosses 5 (some .boolean) : Cond) ∈ TB := tb_in 146 (by decide +kernel) (by decide +kernel)
theorem mlP_44 : (.methodLink RP 44 yP_underRoot : Cond) ∈ TB := tb_in 147 (by decide +kernel) (by decide +kernel)
theorem imP_underRoot : (.instanceMethod yP_underRoot : Cond) ∈ TB := tb_in 148 (by decide +kernel) (by decide +kernel)
theorem seP_underRoot : (.selects RP yP_underRoot yP_underRoot : Cond) ∈ TB := tb_in 149 (by decide +kernel) (by decide +kernel)
theorem coP_underRoot : (.code yP_underRoot cP_underRoot 2 (some .long) : Cond) ∈ TB := tb_in 150 (by decide +kernel) (by decide +kernel)
theorem klP_48 : (.constantLong RP 48 (4) : Cond) ∈ TB := tb_in 151 (by decide +kernel) (by decide +kernel)
theorem mlC_181 : (.methodLink RC 181 yL_take : Cond) ∈ TB := tb_in 152 (by decide +kernel) (by decide +kernel)
theorem imL_take : (.instanceMethod yL_take : Cond) ∈ TB := tb_in 153 (by decide +kernel) (by decide +kernel)
theorem seL_take : (.selects RL yL_take yL_take : Cond) ∈ TB := tb_in 154 (by decide +kernel) (by decide +kernel)
theorem coL_take : (.code yL_take cL_take 16 none : Cond) ∈ TB := tb_in 155 (by decide +kernel) (by decide +kernel)
theorem mlL_45 : (.methodLink RL 45 yP_underRoot : Cond) ∈ TB := tb_in 156 (by decide +kernel) (by decide +kernel)
theorem klL_49 : (.constantLong RL 49 (2) : Cond) ∈ TB := tb_in 157 (by decide +kernel) (by decide +kernel)
theorem mlC_185 : (.methodLink RC 185 yL_pointsLeft : Cond) ∈ TB := tb_in 158 (by decide +kernel) (by decide +kernel)
theorem imL_pointsLeft : (.instanceMethod yL_pointsLeft : Cond) ∈ TB := tb_in 159 (by decide +kernel) (by decide +kernel)
theorem seL_pointsLeft : (.selects RL yL_pointsLeft yL_pointsLeft : Cond) ∈ TB := tb_in 160 (by decide +kernel) (by decide +kernel)
theorem coL_pointsLeft : (.code yL_pointsLeft cL_pointsLeft 6 (some .int) : Cond) ∈ TB := tb_in 161 (by decide +kernel) (by decide +kernel)
theorem mlL_51 : (.methodLink RL 51 yL_isRightOf : Cond) ∈ TB := tb_in 162 (by decide +kernel) (by decide +kernel)
theorem imL_isRightOf : (.instanceMethod yL_isRightOf : Cond) ∈ TB := tb_in 164 (by decide +kernel) (by decide +kernel)
theorem coL_isRightOf : (.code yL_isRightOf cL_isRightOf 4 (some .boolean) : Cond) ∈ TB := tb_in 165 (by decide +kernel) (by decide +kernel)
theorem mlL_55 : (.methodLink RL 55 yL_compareToRoot : Cond) ∈ TB := tb_in 166 (by decide +kernel) (by decide +kernel)
theorem imL_compareToRoot : (.instanceMethod yL_compareToRoot : Cond) ∈ TB := tb_in 168 (by decide +kernel) (by decide +kernel)
theorem coL_compareToRoot : (.code yL_compareToRoot cL_compareToRoot 11 (some .long) : Cond) ∈ TB := tb_in 169 (by decide +kernel) (by decide +kernel)
theorem klL_59 : (.constantLong RL 59 (32768) : Cond) ∈ TB := tb_in 170 (by decide +kernel) (by decide +kernel)
theorem klL_61 : (.constantLong RL 61 (-1) : Cond) ∈ TB := tb_in 171 (by decide +kernel) (by decide +kernel)
theorem mlC_116 : (.methodLink RC 116 yC_isIn : Cond) ∈ TB := tb_in 172 (by decide +kernel) (by decide +kernel)
theorem imC_isIn : (.instanceMethod yC_isIn : Cond) ∈ TB := tb_in 174 (by decide +kernel) (by decide +kernel)
theorem coC_isIn : (.code yC_isIn cC_isIn 2 (some .boolean) : Cond) ∈ TB := tb_in 175 (by decide +kernel) (by decide +kernel)
theorem mlC_123 : (.methodLink RC 123 yJL_bitCount : Cond) ∈ TB := tb_in 176 (by decide +kernel) (by decide +kernel)
theorem smJL_bitCount : (.static yJL_bitCount : Cond) ∈ TB := tb_in 177 (by decide +kernel) (by decide +kernel)
theorem coJL_bitCount : (.code yJL_bitCount cJL_bitCount 2 (some .int) : Cond) ∈ TB := tb_in 178 (by decide +kernel) (by decide +kernel)
theorem klJL_314 : (.constantLong RJL 314 (6148914691236517205) : Cond) ∈ TB := tb_in 179 (by decide +kernel) (by decide +kernel)
theorem klJL_316 : (.constantLong RJL 316 (3689348814741910323) : Cond) ∈ TB := tb_in 180 (by decide +kernel) (by decide +kernel)
theorem klJL_318 : (.constantLong RJL 318 (1085102592571150095) : Cond) ∈ TB := tb_in 181 (by decide +kernel) (by decide +kernel)
theorem mlW_52 : (.methodLink RW 52 yW_add : Cond) ∈ TB := tb_in 182 (by decide +kernel) (by decide +kernel)
theorem smW_add : (.static yW_add : Cond) ∈ TB := tb_in 183 (by decide +kernel) (by decide +kernel)
theorem coW_add : (.codeWith yW_add cW_add 6 (some .int) [(0, 12, 15, 13), (0, 12, 19, 15)] : Cond) ∈ TB := tb_in 184 (by decide +kernel) (by decide +kernel)
theorem clW_13 : (.classLink RW 13 "java/lang/IllegalArgumentException" : Cond) ∈ TB := tb_in 185 (by decide +kernel) (by decide +kernel)
theorem clW_15 : (.classLink RW 15 "java/lang/IllegalStateException" : Cond) ∈ TB := tb_in 186 (by decide +kernel) (by decide +kernel)
theorem mlW_7 : (.methodLink RW 7 yC_add : Cond) ∈ TB := tb_in 187 (by decide +kernel) (by decide +kernel)
theorem imC_add : (.instanceMethod yC_add : Cond) ∈ TB := tb_in 188 (by decide +kernel) (by decide +kernel)
theorem seC_add : (.selects RC yC_add yC_add : Cond) ∈ TB := tb_in 189 (by decide +kernel) (by decide +kernel)
theorem coC_add : (.code yC_add cC_add 4 (some .int) : Cond) ∈ TB := tb_in 190 (by decide +kernel) (by decide +kernel)
theorem mlC_50 : (.methodLink RC 50 yC_canBeTold : Cond) ∈ TB := tb_in 191 (by decide +kernel) (by decide +kernel)
theorem smC_canBeTold : (.static yC_canBeTold : Cond) ∈ TB := tb_in 192 (by decide +kernel) (by decide +kernel)
theorem coC_canBeTold : (.code yC_canBeTold cC_canBeTold 2 (some .boolean) : Cond) ∈ TB := tb_in 193 (by decide +kernel) (by decide +kernel)
theorem klC_152 : (.constantLong RC 152 (-8192) : Cond) ∈ TB := tb_in 194 (by decide +kernel) (by decide +kernel)
theorem klC_154 : (.constantLong RC 154 (8191) : Cond) ∈ TB := tb_in 195 (by decide +kernel) (by decide +kernel)
theorem clC_54 : (.classLink RC 54 "java/lang/IllegalArgumentException" : Cond) ∈ TB := tb_in 196 (by decide +kernel) (by decide +kernel)
theorem mlC_58 : (.methodLink RC 58 ⟨"java/lang/IllegalArgumentException", "<init>", "(Ljava/lang/String;)V"⟩ : Cond) ∈ TB := tb_in 238 (by decide +kernel) (by decide +kernel)
theorem ac_byte : (.arrayClass .byte : Cond) ∈ TB := tb_in 263 (by decide +kernel) (by decide +kernel)
theorem clC_61 : (.classLink RC 61 "java/lang/IllegalStateException" : Cond) ∈ TB := tb_in 264 (by decide +kernel) (by decide +kernel)
theorem mlC_65 : (.methodLink RC 65 ⟨"java/lang/IllegalStateException", "<init>", "(Ljava/lang/String;)V"⟩ : Cond) ∈ TB := tb_in 274 (by decide +kernel) (by decide +kernel)
theorem mlW_61 : (.methodLink RW 61 yW_close : Cond) ∈ TB := tb_in 280 (by decide +kernel) (by decide +kernel)
theorem smW_close : (.static yW_close : Cond) ∈ TB := tb_in 281 (by decide +kernel) (by decide +kernel)
theorem coW_close : (.codeWith yW_close cW_close 3 (some .int) [(0, 8, 11, 15)] : Cond) ∈ TB := tb_in 282 (by decide +kernel) (by decide +kernel)
theorem mlW_17 : (.methodLink RW 17 yC_close : Cond) ∈ TB := tb_in 283 (by decide +kernel) (by decide +kernel)
theorem imC_close : (.instanceMethod yC_close : Cond) ∈ TB := tb_in 284 (by decide +kernel) (by decide +kernel)
theorem seC_close : (.selects RC yC_close yC_close : Cond) ∈ TB := tb_in 285 (by decide +kernel) (by decide +kernel)
theorem coC_close : (.code yC_close cC_close 2 (some .int) : Cond) ∈ TB := tb_in 286 (by decide +kernel) (by decide +kernel)
theorem mlC_70 : (.methodLink RC 70 yC_pieceOf : Cond) ∈ TB := tb_in 289 (by decide +kernel) (by decide +kernel)
theorem imC_pieceOf : (.instanceMethod yC_pieceOf : Cond) ∈ TB := tb_in 291 (by decide +kernel) (by decide +kernel)
theorem coC_pieceOf : (.code yC_pieceOf cC_pieceOf 6 (some (.object "CurveRaster$Piece")) : Cond) ∈ TB := tb_in 292 (by decide +kernel) (by decide +kernel)
theorem insP : (.instantiable RP 11 : Cond) ∈ TB := tb_in 293 (by decide +kernel) (by decide +kernel)
theorem mlC_156 : (.methodLink RC 156 yC_curveEnd : Cond) ∈ TB := tb_in 294 (by decide +kernel) (by decide +kernel)
theorem imC_curveEnd : (.instanceMethod yC_curveEnd : Cond) ∈ TB := tb_in 296 (by decide +kernel) (by decide +kernel)
theorem coC_curveEnd : (.code yC_curveEnd cC_curveEnd 4 (some .int) : Cond) ∈ TB := tb_in 297 (by decide +kernel) (by decide +kernel)
theorem mlC_163 : (.methodLink RC 163 yJM_floorDiv : Cond) ∈ TB := tb_in 298 (by decide +kernel) (by decide +kernel)
theorem smJM_floorDiv : (.static yJM_floorDiv : Cond) ∈ TB := tb_in 299 (by decide +kernel) (by decide +kernel)
theorem coJM_floorDiv : (.code yJM_floorDiv cJM_floorDiv 3 (some .int) : Cond) ∈ TB := tb_in 300 (by decide +kernel) (by decide +kernel)
theorem mlC_160 : (.methodLink RC 160 yP_init : Cond) ∈ TB := tb_in 301 (by decide +kernel) (by decide +kernel)
theorem imP_init : (.instanceMethod yP_init : Cond) ∈ TB := tb_in 302 (by decide +kernel) (by decide +kernel)
theorem coP_init : (.code yP_init cP_init 8 none : Cond) ∈ TB := tb_in 303 (by decide +kernel) (by decide +kernel)
theorem mlP_1 : (.methodLink RP 1 objectInit : Cond) ∈ TB := tb_in 304 (by decide +kernel) (by decide +kernel)
theorem flP_7 : (.fieldLink RP 7 "CurveRaster$Piece" "line" "Z" : Cond) ∈ TB := tb_in 305 (by decide +kernel) (by decide +kernel)
theorem flC_166 : (.fieldLink RC 166 "CurveRaster$Piece" "line" "Z" : Cond) ∈ TB := tb_in 306 (by decide +kernel) (by decide +kernel)
theorem flP_32 : (.fieldLink RP 32 "CurveRaster$Piece" "squareX" "I" : Cond) ∈ TB := tb_in 307 (by decide +kernel) (by decide +kernel)
theorem flL_9 : (.fieldLink RL 9 "CurveRaster$Piece" "squareX" "I" : Cond) ∈ TB := tb_in 308 (by decide +kernel) (by decide +kernel)
theorem flP_38 : (.fieldLink RP 38 "CurveRaster$Piece" "onceX" "I" : Cond) ∈ TB := tb_in 309 (by decide +kernel) (by decide +kernel)
theorem flL_15 : (.fieldLink RL 15 "CurveRaster$Piece" "onceX" "I" : Cond) ∈ TB := tb_in 310 (by decide +kernel) (by decide +kernel)
theorem flP_35 : (.fieldLink RP 35 "CurveRaster$Piece" "squareY" "I" : Cond) ∈ TB := tb_in 311 (by decide +kernel) (by decide +kernel)
theorem flL_18 : (.fieldLink RL 18 "CurveRaster$Piece" "squareY" "I" : Cond) ∈ TB := tb_in 312 (by decide +kernel) (by decide +kernel)
theorem flP_41 : (.fieldLink RP 41 "CurveRaster$Piece" "onceY" "I" : Cond) ∈ TB := tb_in 313 (by decide +kernel) (by decide +kernel)
theorem flL_21 : (.fieldLink RL 21 "CurveRaster$Piece" "onceY" "I" : Cond) ∈ TB := tb_in 314 (by decide +kernel) (by decide +kernel)
theorem flP_13 : (.fieldLink RP 13 "CurveRaster$Piece" "px" "I" : Cond) ∈ TB := tb_in 315 (by decide +kernel) (by decide +kernel)
theorem flL_39 : (.fieldLink RL 39 "CurveRaster$Piece" "px" "I" : Cond) ∈ TB := tb_in 316 (by decide +kernel) (by decide +kernel)
theorem flP_17 : (.fieldLink RP 17 "CurveRaster$Piece" "py" "I" : Cond) ∈ TB := tb_in 317 (by decide +kernel) (by decide +kernel)
theorem flL_24 : (.fieldLink RL 24 "CurveRaster$Piece" "py" "I" : Cond) ∈ TB := tb_in 318 (by decide +kernel) (by decide +kernel)
theorem flP_20 : (.fieldLink RP 20 "CurveRaster$Piece" "qx" "I" : Cond) ∈ TB := tb_in 319 (by decide +kernel) (by decide +kernel)
theorem flP_23 : (.fieldLink RP 23 "CurveRaster$Piece" "qy" "I" : Cond) ∈ TB := tb_in 320 (by decide +kernel) (by decide +kernel)
theorem flP_26 : (.fieldLink RP 26 "CurveRaster$Piece" "rx" "I" : Cond) ∈ TB := tb_in 321 (by decide +kernel) (by decide +kernel)
theorem flP_29 : (.fieldLink RP 29 "CurveRaster$Piece" "ry" "I" : Cond) ∈ TB := tb_in 322 (by decide +kernel) (by decide +kernel)
theorem mlW_73 : (.methodLink RW 73 yW_move : Cond) ∈ TB := tb_in 346 (by decide +kernel) (by decide +kernel)
theorem smW_move : (.static yW_move : Cond) ∈ TB := tb_in 347 (by decide +kernel) (by decide +kernel)
theorem coW_move : (.codeWith yW_move cW_move 4 (some .int) [(0, 6, 9, 13)] : Cond) ∈ TB := tb_in 348 (by decide +kernel) (by decide +kernel)
theorem mlW_21 : (.methodLink RW 21 yC_move : Cond) ∈ TB := tb_in 349 (by decide +kernel) (by decide +kernel)
theorem imC_move : (.instanceMethod yC_move : Cond) ∈ TB := tb_in 350 (by decide +kernel) (by decide +kernel)
theorem seC_move : (.selects RC yC_move yC_move : Cond) ∈ TB := tb_in 351 (by decide +kernel) (by decide +kernel)
theorem coC_move : (.code yC_move cC_move 5 none : Cond) ∈ TB := tb_in 352 (by decide +kernel) (by decide +kernel)
theorem mlC_76 : (.methodLink RC 76 yP_shift : Cond) ∈ TB := tb_in 354 (by decide +kernel) (by decide +kernel)
theorem imP_shift : (.instanceMethod yP_shift : Cond) ∈ TB := tb_in 355 (by decide +kernel) (by decide +kernel)
theorem seP_shift : (.selects RP yP_shift yP_shift : Cond) ∈ TB := tb_in 356 (by decide +kernel) (by decide +kernel)
theorem coP_shift : (.code yP_shift cP_shift 3 none : Cond) ∈ TB := tb_in 357 (by decide +kernel) (by decide +kernel)
theorem mlW_86 : (.methodLink RW 86 yW_winding : Cond) ∈ TB := tb_in 358 (by decide +kernel) (by decide +kernel)
theorem smW_winding : (.static yW_winding : Cond) ∈ TB := tb_in 359 (by decide +kernel) (by decide +kernel)
theorem coW_winding : (.codeWith yW_winding cW_winding 5 (some .int) [(0, 10, 13, 13)] : Cond) ∈ TB := tb_in 360 (by decide +kernel) (by decide +kernel)
theorem mlW_25 : (.methodLink RW 25 yC_winding : Cond) ∈ TB := tb_in 361 (by decide +kernel) (by decide +kernel)
theorem imC_winding : (.instanceMethod yC_winding : Cond) ∈ TB := tb_in 362 (by decide +kernel) (by decide +kernel)
theorem seC_winding : (.selects RC yC_winding yC_winding : Cond) ∈ TB := tb_in 363 (by decide +kernel) (by decide +kernel)
theorem coC_winding : (.code yC_winding cC_winding 3 (some .int) : Cond) ∈ TB := tb_in 364 (by decide +kernel) (by decide +kernel)
theorem mlC_88 : (.methodLink RC 88 yC_canBeAsked : Cond) ∈ TB := tb_in 365 (by decide +kernel) (by decide +kernel)
theorem smC_canBeAsked : (.static yC_canBeAsked : Cond) ∈ TB := tb_in 366 (by decide +kernel) (by decide +kernel)
theorem coC_canBeAsked : (.code yC_canBeAsked cC_canBeAsked 1 (some .boolean) : Cond) ∈ TB := tb_in 367 (by decide +kernel) (by decide +kernel)
theorem mlW_90 : (.methodLink RW 90 yW_row : Cond) ∈ TB := tb_in 369 (by decide +kernel) (by decide +kernel)
theorem smW_row : (.static yW_row : Cond) ∈ TB := tb_in 370 (by decide +kernel) (by decide +kernel)
theorem coW_row : (.codeWith yW_row cW_row 4 (some .int) [(0, 8, 11, 33)] : Cond) ∈ TB := tb_in 371 (by decide +kernel) (by decide +kernel)
theorem clW_33 : (.classLink RW 33 "java/lang/IndexOutOfBoundsException" : Cond) ∈ TB := tb_in 372 (by decide +kernel) (by decide +kernel)
theorem mlW_29 : (.methodLink RW 29 yC_row : Cond) ∈ TB := tb_in 373 (by decide +kernel) (by decide +kernel)
theorem imC_row : (.instanceMethod yC_row : Cond) ∈ TB := tb_in 374 (by decide +kernel) (by decide +kernel)
theorem seC_row : (.selects RC yC_row yC_row : Cond) ∈ TB := tb_in 375 (by decide +kernel) (by decide +kernel)
theorem coC_row : (.code yC_row cC_row 2 (some .long) : Cond) ∈ TB := tb_in 376 (by decide +kernel) (by decide +kernel)
theorem mlC_98 : (.methodLink RC 98 yC_isInPicture : Cond) ∈ TB := tb_in 377 (by decide +kernel) (by decide +kernel)
theorem smC_isInPicture : (.static yC_isInPicture : Cond) ∈ TB := tb_in 378 (by decide +kernel) (by decide +kernel)
theorem coC_isInPicture : (.code yC_isInPicture cC_isInPicture 1 (some .boolean) : Cond) ∈ TB := tb_in 379 (by decide +kernel) (by decide +kernel)
theorem clC_101 : (.classLink RC 101 "java/lang/IndexOutOfBoundsException" : Cond) ∈ TB := tb_in 380 (by decide +kernel) (by decide +kernel)
theorem mlC_105 : (.methodLink RC 105 ⟨"java/lang/IndexOutOfBoundsException", "<init>", "(Ljava/lang/String;)V"⟩ : Cond) ∈ TB := tb_in 390 (by decide +kernel) (by decide +kernel)
theorem mlW_94 : (.methodLink RW 94 yW_share : Cond) ∈ TB := tb_in 396 (by decide +kernel) (by decide +kernel)
theorem smW_share : (.static yW_share : Cond) ∈ TB := tb_in 397 (by decide +kernel) (by decide +kernel)
theorem coW_share : (.codeWith yW_share cW_share 5 (some .int) [(0, 10, 13, 33)] : Cond) ∈ TB := tb_in 398 (by decide +kernel) (by decide +kernel)
theorem mlW_35 : (.methodLink RW 35 yC_share : Cond) ∈ TB := tb_in 399 (by decide +kernel) (by decide +kernel)
theorem imC_share : (.instanceMethod yC_share : Cond) ∈ TB := tb_in 400 (by decide +kernel) (by decide +kernel)
theorem seC_share : (.selects RC yC_share yC_share : Cond) ∈ TB := tb_in 401 (by decide +kernel) (by decide +kernel)
theorem coC_share : (.code yC_share cC_share 6 (some .int) : Cond) ∈ TB := tb_in 402 (by decide +kernel) (by decide +kernel)
theorem mlW_97 : (.methodLink RW 97 yW_spans : Cond) ∈ TB := tb_in 404 (by decide +kernel) (by decide +kernel)
theorem smW_spans : (.static yW_spans : Cond) ∈ TB := tb_in 405 (by decide +kernel) (by decide +kernel)
theorem coW_spans : (.codeWith yW_spans cW_spans 4 (some .int) [(0, 9, 12, 33)] : Cond) ∈ TB := tb_in 406 (by decide +kernel) (by decide +kernel)
theorem mlW_38 : (.methodLink RW 38 yC_spans : Cond) ∈ TB := tb_in 407 (by decide +kernel) (by decide +kernel)
theorem imC_spans : (.instanceMethod yC_spans : Cond) ∈ TB := tb_in 408 (by decide +kernel) (by decide +kernel)
theorem seC_spans : (.selects RC yC_spans yC_spans : Cond) ∈ TB := tb_in 409 (by decide +kernel) (by decide +kernel)
theorem coC_spans : (.code yC_spans cC_spans 2 (some .int) : Cond) ∈ TB := tb_in 410 (by decide +kernel) (by decide +kernel)
theorem mlC_119 : (.methodLink RC 119 yC_firstsOf : Cond) ∈ TB := tb_in 411 (by decide +kernel) (by decide +kernel)
theorem smC_firstsOf : (.static yC_firstsOf : Cond) ∈ TB := tb_in 412 (by decide +kernel) (by decide +kernel)
theorem coC_firstsOf : (.code yC_firstsOf cC_firstsOf 2 (some .long) : Cond) ∈ TB := tb_in 413 (by decide +kernel) (by decide +kernel)
theorem klC_169 : (.constantLong RC 169 (-1) : Cond) ∈ TB := tb_in 414 (by decide +kernel) (by decide +kernel)
theorem mlW_100 : (.methodLink RW 100 yW_span : Cond) ∈ TB := tb_in 415 (by decide +kernel) (by decide +kernel)
theorem smW_span : (.static yW_span : Cond) ∈ TB := tb_in 416 (by decide +kernel) (by decide +kernel)
theorem coW_span : (.codeWith yW_span cW_span 6 (some .int) [(0, 12, 15, 33)] : Cond) ∈ TB := tb_in 417 (by decide +kernel) (by decide +kernel)
theorem mlW_42 : (.methodLink RW 42 yC_span : Cond) ∈ TB := tb_in 418 (by decide +kernel) (by decide +kernel)
theorem imC_span : (.instanceMethod yC_span : Cond) ∈ TB := tb_in 419 (by decide +kernel) (by decide +kernel)
theorem seC_span : (.selects RC yC_span yC_span : Cond) ∈ TB := tb_in 420 (by decide +kernel) (by decide +kernel)
theorem coC_span : (.code yC_span cC_span 7 (some .int) : Cond) ∈ TB := tb_in 421 (by decide +kernel) (by decide +kernel)
theorem mlC_129 : (.methodLink RC 129 yC_lastsOf : Cond) ∈ TB := tb_in 422 (by decide +kernel) (by decide +kernel)
theorem smC_lastsOf : (.static yC_lastsOf : Cond) ∈ TB := tb_in 423 (by decide +kernel) (by decide +kernel)
theorem coC_lastsOf : (.code yC_lastsOf cC_lastsOf 2 (some .long) : Cond) ∈ TB := tb_in 424 (by decide +kernel) (by decide +kernel)
theorem mlC_132 : (.methodLink RC 132 yC_bitNumber : Cond) ∈ TB := tb_in 425 (by decide +kernel) (by decide +kernel)
theorem smC_bitNumber : (.static yC_bitNumber : Cond) ∈ TB := tb_in 426 (by decide +kernel) (by decide +kernel)
theorem coC_bitNumber : (.code yC_bitNumber cC_bitNumber 5 (some .int) : Cond) ∈ TB := tb_in 427 (by decide +kernel) (by decide +kernel)
theorem mlW_103 : (.methodLink RW 103 yW_extent : Cond) ∈ TB := tb_in 428 (by decide +kernel) (by decide +kernel)
theorem smW_extent : (.static yW_extent : Cond) ∈ TB := tb_in 429 (by decide +kernel) (by decide +kernel)
theorem coW_extent : (.codeWith yW_extent cW_extent 4 (some .int) [(0, 9, 12, 33), (0, 9, 15, 15)] : Cond) ∈ TB := tb_in 430 (by decide +kernel) (by decide +kernel)
theorem mlW_45 : (.methodLink RW 45 yC_extent : Cond) ∈ TB := tb_in 431 (by decide +kernel) (by decide +kernel)
theorem imC_extent : (.instanceMethod yC_extent : Cond) ∈ TB := tb_in 432 (by decide +kernel) (by decide +kernel)
theorem seC_extent : (.selects RC yC_extent yC_extent : Cond) ∈ TB := tb_in 433 (by decide +kernel) (by decide +kernel)
theorem coC_extent : (.code yC_extent cC_extent 7 (some .int) : Cond) ∈ TB := tb_in 434 (by decide +kernel) (by decide +kernel)
theorem mlC_140 : (.methodLink RC 140 yP_bound : Cond) ∈ TB := tb_in 437 (by decide +kernel) (by decide +kernel)
theorem imP_bound : (.instanceMethod yP_bound : Cond) ∈ TB := tb_in 438 (by decide +kernel) (by decide +kernel)
theorem seP_bound : (.selects RP yP_bound yP_bound : Cond) ∈ TB := tb_in 439 (by decide +kernel) (by decide +kernel)
theorem coP_bound : (.code yP_bound cP_bound 2 (some .int) : Cond) ∈ TB := tb_in 440 (by decide +kernel) (by decide +kernel)
theorem mlP_50 : (.methodLink RP 50 yP_floorOfLeast : Cond) ∈ TB := tb_in 441 (by decide +kernel) (by decide +kernel)
theorem smP_floorOfLeast : (.static yP_floorOfLeast : Cond) ∈ TB := tb_in 442 (by decide +kernel) (by decide +kernel)
theorem coP_floorOfLeast : (.code yP_floorOfLeast cP_floorOfLeast 4 (some .int) : Cond) ∈ TB := tb_in 443 (by decide +kernel) (by decide +kernel)
theorem mlP_54 : (.methodLink RP 54 yJM_floorDiv : Cond) ∈ TB := tb_in 444 (by decide +kernel) (by decide +kernel)
theorem mlP_60 : (.methodLink RP 60 yJM_min : Cond) ∈ TB := tb_in 445 (by decide +kernel) (by decide +kernel)
theorem smJM_min : (.static yJM_min : Cond) ∈ TB := tb_in 446 (by decide +kernel) (by decide +kernel)
theorem coJM_min : (.code yJM_min cJM_min 2 (some .int) : Cond) ∈ TB := tb_in 447 (by decide +kernel) (by decide +kernel)
theorem mlC_143 : (.methodLink RC 143 yJM_min : Cond) ∈ TB := tb_in 448 (by decide +kernel) (by decide +kernel)
theorem mlC_149 : (.methodLink RC 149 yJM_max : Cond) ∈ TB := tb_in 449 (by decide +kernel) (by decide +kernel)
theorem smJM_max : (.static yJM_max : Cond) ∈ TB := tb_in 450 (by decide +kernel) (by decide +kernel)
theorem coJM_max : (.code yJM_max cJM_max 2 (some .int) : Cond) ∈ TB := tb_in 451 (by decide +kernel) (by decide +kernel)
theorem clW_49 : (.classLink RW 49 RM : Cond) ∈ TB := tb_in 452 (by decide +kernel) (by decide +kernel)
theorem insM : (.instantiable RM 17 : Cond) ∈ TB := tb_in 453 (by decide +kernel) (by decide +kernel)
theorem mlW_51 : (.methodLink RW 51 yM_init : Cond) ∈ TB := tb_in 454 (by decide +kernel) (by decide +kernel)
theorem imM_init : (.instanceMethod yM_init : Cond) ∈ TB := tb_in 455 (by decide +kernel) (by decide +kernel)
theorem coM_init : (.code yM_init cM_init 1 none : Cond) ∈ TB := tb_in 456 (by decide +kernel) (by decide +kernel)
theorem mlM_1 : (.methodLink RM 1 objectInit : Cond) ∈ TB := tb_in 457 (by decide +kernel) (by decide +kernel)
theorem flM_38 : (.fieldLink RM 38 "CurveRasterModel" "fault" "I" : Cond) ∈ TB := tb_in 458 (by decide +kernel) (by decide +kernel)
theorem flM_67 : (.fieldLink RM 67 "CurveRasterModel" "byParity" "Z" : Cond) ∈ TB := tb_in 459 (by decide +kernel) (by decide +kernel)
theorem flM_46 : (.fieldLink RM 46 "CurveRasterModel" "points" "I" : Cond) ∈ TB := tb_in 460 (by decide +kernel) (by decide +kernel)
theorem flM_7 : (.fieldLink RM 7 "CurveRasterModel" "xs" "[I" : Cond) ∈ TB := tb_in 461 (by decide +kernel) (by decide +kernel)
theorem flM_13 : (.fieldLink RM 13 "CurveRasterModel" "ys" "[I" : Cond) ∈ TB := tb_in 462 (by decide +kernel) (by decide +kernel)
theorem flM_16 : (.fieldLink RM 16 "CurveRasterModel" "on" "[Z" : Cond) ∈ TB := tb_in 463 (by decide +kernel) (by decide +kernel)
theorem flM_53 : (.fieldLink RM 53 "CurveRasterModel" "contours" "I" : Cond) ∈ TB := tb_in 464 (by decide +kernel) (by decide +kernel)
theorem flM_20 : (.fieldLink RM 20 "CurveRasterModel" "ends" "[I" : Cond) ∈ TB := tb_in 465 (by decide +kernel) (by decide +kernel)
theorem flM_71 : (.fieldLink RM 71 "CurveRasterModel" "ringSize" "I" : Cond) ∈ TB := tb_in 466 (by decide +kernel) (by decide +kernel)
theorem flM_23 : (.fieldLink RM 23 "CurveRasterModel" "ringX" "[I" : Cond) ∈ TB := tb_in 467 (by decide +kernel) (by decide +kernel)
theorem flM_26 : (.fieldLink RM 26 "CurveRasterModel" "ringY" "[I" : Cond) ∈ TB := tb_in 468 (by decide +kernel) (by decide +kernel)
theorem flM_29 : (.fieldLink RM 29 "CurveRasterModel" "ringOn" "[Z" : Cond) ∈ TB := tb_in 469 (by decide +kernel) (by decide +kernel)
theorem flM_78 : (.fieldLink RM 78 "CurveRasterModel" "pieces" "I" : Cond) ∈ TB := tb_in 470 (by decide +kernel) (by decide +kernel)
theorem flM_32 : (.fieldLink RM 32 "CurveRasterModel" "piece" "[I" : Cond) ∈ TB := tb_in 471 (by decide +kernel) (by decide +kernel)
theorem flM_35 : (.fieldLink RM 35 "CurveRasterModel" "isCurve" "[Z" : Cond) ∈ TB := tb_in 472 (by decide +kernel) (by decide +kernel)
theorem flM_91 : (.fieldLink RM 91 "CurveRasterModel" "high" "J" : Cond) ∈ TB := tb_in 473 (by decide +kernel) (by decide +kernel)
theorem flM_95 : (.fieldLink RM 95 "CurveRasterModel" "low" "J" : Cond) ∈ TB := tb_in 474 (by decide +kernel) (by decide +kernel)
theorem mlW_58 : (.methodLink RW 58 yM_thrown : Cond) ∈ TB := tb_in 510 (by decide +kernel) (by decide +kernel)
theorem imM_thrown : (.instanceMethod yM_thrown : Cond) ∈ TB := tb_in 511 (by decide +kernel) (by decide +kernel)
theorem seM_thrown : (.selects RM yM_thrown yM_thrown : Cond) ∈ TB := tb_in 512 (by decide +kernel) (by decide +kernel)
theorem coM_thrown : (.code yM_thrown cM_thrown 1 (some .int) : Cond) ∈ TB := tb_in 513 (by decide +kernel) (by decide +kernel)
theorem mlW_57 : (.methodLink RW 57 yM_add : Cond) ∈ TB := tb_in 514 (by decide +kernel) (by decide +kernel)
theorem imM_add : (.instanceMethod yM_add : Cond) ∈ TB := tb_in 515 (by decide +kernel) (by decide +kernel)
theorem seM_add : (.selects RM yM_add yM_add : Cond) ∈ TB := tb_in 516 (by decide +kernel) (by decide +kernel)
theorem coM_add : (.code yM_add cM_add 4 (some .int) : Cond) ∈ TB := tb_in 517 (by decide +kernel) (by decide +kernel)
theorem mlM_56 : (.methodLink RM 56 yM_isCoordinate : Cond) ∈ TB := tb_in 518 (by decide +kernel) (by decide +kernel)
theorem smM_isCoordinate : (.static yM_isCoordinate : Cond) ∈ TB := tb_in 519 (by decide +kernel) (by decide +kernel)
theorem coM_isCoordinate : (.code yM_isCoordinate cM_isCoordinate 2 (some .boolean) : Cond) ∈ TB := tb_in 520 (by decide +kernel) (by decide +kernel)
theorem klM_42 : (.constantLong RM 42 (-8192) : Cond) ∈ TB := tb_in 521 (by decide +kernel) (by decide +kernel)
theorem klM_44 : (.constantLong RM 44 (8191) : Cond) ∈ TB := tb_in 522 (by decide +kernel) (by decide +kernel)
theorem mlM_60 : (.methodLink RM 60 yM_refused : Cond) ∈ TB := tb_in 523 (by decide +kernel) (by decide +kernel)
theorem imM_refused : (.instanceMethod yM_refused : Cond) ∈ TB := tb_in 525 (by decide +kernel) (by decide +kernel)
theorem coM_refused : (.code yM_refused cM_refused 2 (some .boolean) : Cond) ∈ TB := tb_in 526 (by decide +kernel) (by decide +kernel)
theorem mlM_64 : (.methodLink RM 64 yM_open : Cond) ∈ TB := tb_in 527 (by decide +kernel) (by decide +kernel)
theorem imM_open : (.instanceMethod yM_open : Cond) ∈ TB := tb_in 529 (by decide +kernel) (by decide +kernel)
theorem coM_open : (.code yM_open cM_open 1 (some .int) : Cond) ∈ TB := tb_in 530 (by decide +kernel) (by decide +kernel)
theorem mlM_49 : (.methodLink RM 49 yM_closed : Cond) ∈ TB := tb_in 531 (by decide +kernel) (by decide +kernel)
theorem imM_closed : (.instanceMethod yM_closed : Cond) ∈ TB := tb_in 533 (by decide +kernel) (by decide +kernel)
theorem coM_closed : (.code yM_closed cM_closed 1 (some .int) : Cond) ∈ TB := tb_in 534 (by decide +kernel) (by decide +kernel)
theorem mlW_64 : (.methodLink RW 64 yM_close : Cond) ∈ TB := tb_in 535 (by decide +kernel) (by decide +kernel)
theorem imM_close : (.instanceMethod yM_close : Cond) ∈ TB := tb_in 536 (by decide +kernel) (by decide +kernel)
theorem seM_close : (.selects RM yM_close yM_close : Cond) ∈ TB := tb_in 537 (by decide +kernel) (by decide +kernel)
theorem coM_close : (.code yM_close cM_close 1 (some .int) : Cond) ∈ TB := tb_in 538 (by decide +kernel) (by decide +kernel)
theorem mlW_68 : (.methodLink RW 68 yM_drop : Cond) ∈ TB := tb_in 539 (by decide +kernel) (by decide +kernel)
theorem imM_drop : (.instanceMethod yM_drop : Cond) ∈ TB := tb_in 540 (by decide +kernel) (by decide +kernel)
theorem seM_drop : (.selects RM yM_drop yM_drop : Cond) ∈ TB := tb_in 541 (by decide +kernel) (by decide +kernel)
theorem coM_drop : (.code yM_drop cM_drop 2 (some .int) : Cond) ∈ TB := tb_in 542 (by decide +kernel) (by decide +kernel)
theorem mlW_72 : (.methodLink RW 72 yM_clear : Cond) ∈ TB := tb_in 543 (by decide +kernel) (by decide +kernel)
theorem imM_clear : (.instanceMethod yM_clear : Cond) ∈ TB := tb_in 544 (by decide +kernel) (by decide +kernel)
theorem seM_clear : (.selects RM yM_clear yM_clear : Cond) ∈ TB := tb_in 545 (by decide +kernel) (by decide +kernel)
theorem coM_clear : (.code yM_clear cM_clear 2 (some .int) : Cond) ∈ TB := tb_in 546 (by decide +kernel) (by decide +kernel)
theorem mlW_76 : (.methodLink RW 76 yM_move : Cond) ∈ TB := tb_in 547 (by decide +kernel) (by decide +kernel)
theorem imM_move : (.instanceMethod yM_move : Cond) ∈ TB := tb_in 548 (by decide +kernel) (by decide +kernel)
theorem seM_move : (.selects RM yM_move yM_move : Cond) ∈ TB := tb_in 549 (by decide +kernel) (by decide +kernel)
theorem coM_move : (.code yM_move cM_move 5 none : Cond) ∈ TB := tb_in 550 (by decide +kernel) (by decide +kernel)
theorem mlW_81 : (.methodLink RW 81 yM_parity : Cond) ∈ TB := tb_in 551 (by decide +kernel) (by decide +kernel)
theorem imM_parity : (.instanceMethod yM_parity : Cond) ∈ TB := tb_in 552 (by decide +kernel) (by decide +kernel)
theorem seM_parity : (.selects RM yM_parity yM_parity : Cond) ∈ TB := tb_in 553 (by decide +kernel) (by decide +kernel)
theorem coM_parity : (.code yM_parity cM_parity 3 (some .boolean) : Cond) ∈ TB := tb_in 554 (by decide +kernel) (by decide +kernel)
theorem mlW_85 : (.methodLink RW 85 yM_count : Cond) ∈ TB := tb_in 555 (by decide +kernel) (by decide +kernel)
theorem imM_count : (.instanceMethod yM_count : Cond) ∈ TB := tb_in 556 (by decide +kernel) (by decide +kernel)
theorem seM_count : (.selects RM yM_count yM_count : Cond) ∈ TB := tb_in 557 (by decide +kernel) (by decide +kernel)
theorem coM_count : (.code yM_count cM_count 2 (some .int) : Cond) ∈ TB := tb_in 558 (by decide +kernel) (by decide +kernel)
theorem mlM_145 : (.methodLink RM 145 yM_countOf : Cond) ∈ TB := tb_in 559 (by decide +kernel) (by decide +kernel)
theorem imM_countOf : (.instanceMethod yM_countOf : Cond) ∈ TB := tb_in 561 (by decide +kernel) (by decide +kernel)
theorem coM_countOf : (.code yM_countOf cM_countOf 4 (some .int) : Cond) ∈ TB := tb_in 562 (by decide +kernel) (by decide +kernel)
theorem mlM_139 : (.methodLink RM 139 yM_makePieces : Cond) ∈ TB := tb_in 563 (by decide +kernel) (by decide +kernel)
theorem imM_makePieces : (.instanceMethod yM_makePieces : Cond) ∈ TB := tb_in 565 (by decide +kernel) (by decide +kernel)
theorem coM_makePieces : (.code yM_makePieces cM_makePieces 4 none : Cond) ∈ TB := tb_in 566 (by decide +kernel) (by decide +kernel)
theorem mlM_81 : (.methodLink RM 81 yM_makeRing : Cond) ∈ TB := tb_in 567 (by decide +kernel) (by decide +kernel)
theorem imM_makeRing : (.instanceMethod yM_makeRing : Cond) ∈ TB := tb_in 569 (by decide +kernel) (by decide +kernel)
theorem coM_makeRing : (.code yM_makeRing cM_makeRing 5 none : Cond) ∈ TB := tb_in 570 (by decide +kernel) (by decide +kernel)
theorem mlM_74 : (.methodLink RM 74 yM_putRing : Cond) ∈ TB := tb_in 571 (by decide +kernel) (by decide +kernel)
theorem imM_putRing : (.instanceMethod yM_putRing : Cond) ∈ TB := tb_in 573 (by decide +kernel) (by decide +kernel)
theorem coM_putRing : (.code yM_putRing cM_putRing 4 none : Cond) ∈ TB := tb_in 574 (by decide +kernel) (by decide +kernel)
theorem mlM_85 : (.methodLink RM 85 yM_putPiece : Cond) ∈ TB := tb_in 575 (by decide +kernel) (by decide +kernel)
theorem imM_putPiece : (.instanceMethod yM_putPiece : Cond) ∈ TB := tb_in 577 (by decide +kernel) (by decide +kernel)
theorem coM_putPiece : (.code yM_putPiece cM_putPiece 6 none : Cond) ∈ TB := tb_in 578 (by decide +kernel) (by decide +kernel)
theorem mlM_149 : (.methodLink RM 149 yM_setPixels : Cond) ∈ TB := tb_in 579 (by decide +kernel) (by decide +kernel)
theorem imM_setPixels : (.instanceMethod yM_setPixels : Cond) ∈ TB := tb_in 581 (by decide +kernel) (by decide +kernel)
theorem coM_setPixels : (.code yM_setPixels cM_setPixels 3 (some .int) : Cond) ∈ TB := tb_in 582 (by decide +kernel) (by decide +kernel)
theorem mlM_142 : (.methodLink RM 142 yM_isSet : Cond) ∈ TB := tb_in 583 (by decide +kernel) (by decide +kernel)
theorem imM_isSet : (.instanceMethod yM_isSet : Cond) ∈ TB := tb_in 585 (by decide +kernel) (by decide +kernel)
theorem coM_isSet : (.code yM_isSet cM_isSet 3 (some .boolean) : Cond) ∈ TB := tb_in 586 (by decide +kernel) (by decide +kernel)
theorem mlM_135 : (.methodLink RM 135 yM_isIn : Cond) ∈ TB := tb_in 587 (by decide +kernel) (by decide +kernel)
theorem imM_isIn : (.instanceMethod yM_isIn : Cond) ∈ TB := tb_in 589 (by decide +kernel) (by decide +kernel)
theorem coM_isIn : (.code yM_isIn cM_isIn 4 (some .boolean) : Cond) ∈ TB := tb_in 590 (by decide +kernel) (by decide +kernel)
theorem mlM_131 : (.methodLink RM 131 yM_windingOf : Cond) ∈ TB := tb_in 591 (by decide +kernel) (by decide +kernel)
theorem imM_windingOf : (.instanceMethod yM_windingOf : Cond) ∈ TB := tb_in 593 (by decide +kernel) (by decide +kernel)
theorem coM_windingOf : (.code yM_windingOf cM_windingOf 5 (some .int) : Cond) ∈ TB := tb_in 594 (by decide +kernel) (by decide +kernel)
theorem mlM_124 : (.methodLink RM 124 yM_curveCount : Cond) ∈ TB := tb_in 595 (by decide +kernel) (by decide +kernel)
theorem imM_curveCount : (.instanceMethod yM_curveCount : Cond) ∈ TB := tb_in 597 (by decide +kernel) (by decide +kernel)
theorem coM_curveCount : (.code yM_curveCount cM_curveCount 22 (some .int) : Cond) ∈ TB := tb_in 598 (by decide +kernel) (by decide +kernel)
theorem klM_110 : (.constantLong RM 110 (2) : Cond) ∈ TB := tb_in 599 (by decide +kernel) (by decide +kernel)
theorem mlM_116 : (.methodLink RM 116 yM_isLeft : Cond) ∈ TB := tb_in 600 (by decide +kernel) (by decide +kernel)
theorem imM_isLeft : (.instanceMethod yM_isLeft : Cond) ∈ TB := tb_in 602 (by decide +kernel) (by decide +kernel)
theorem coM_isLeft : (.code yM_isLeft cM_isLeft 23 (some .boolean) : Cond) ∈ TB := tb_in 603 (by decide +kernel) (by decide +kernel)
theorem mlM_102 : (.methodLink RM 102 yM_signOf : Cond) ∈ TB := tb_in 604 (by decide +kernel) (by decide +kernel)
theorem smM_signOf : (.static yM_signOf : Cond) ∈ TB := tb_in 605 (by decide +kernel) (by decide +kernel)
theorem coM_signOf : (.code yM_signOf cM_signOf 2 (some .int) : Cond) ∈ TB := tb_in 606 (by decide +kernel) (by decide +kernel)
theorem mlM_112 : (.methodLink RM 112 yM_compareRoot : Cond) ∈ TB := tb_in 607 (by decide +kernel) (by decide +kernel)
theorem imM_compareRoot : (.instanceMethod yM_compareRoot : Cond) ∈ TB := tb_in 609 (by decide +kernel) (by decide +kernel)
theorem coM_compareRoot : (.code yM_compareRoot cM_compareRoot 14 (some .int) : Cond) ∈ TB := tb_in 610 (by decide +kernel) (by decide +kernel)
theorem mlM_106 : (.methodLink RM 106 yM_signAt : Cond) ∈ TB := tb_in 611 (by decide +kernel) (by decide +kernel)
theorem imM_signAt : (.instanceMethod yM_signAt : Cond) ∈ TB := tb_in 613 (by decide +kernel) (by decide +kernel)
theorem coM_signAt : (.code yM_signAt cM_signAt 11 (some .int) : Cond) ∈ TB := tb_in 614 (by decide +kernel) (by decide +kernel)
theorem mlM_98 : (.methodLink RM 98 yM_addProduct : Cond) ∈ TB := tb_in 615 (by decide +kernel) (by decide +kernel)
theorem imM_addProduct : (.instanceMethod yM_addProduct : Cond) ∈ TB := tb_in 617 (by decide +kernel) (by decide +kernel)
theorem coM_addProduct : (.code yM_addProduct cM_addProduct 9 none : Cond) ∈ TB := tb_in 618 (by decide +kernel) (by decide +kernel)
theorem klM_89 : (.constantLong RM 89 (16777215) : Cond) ∈ TB := tb_in 619 (by decide +kernel) (by decide +kernel)
theorem klM_120 : (.constantLong RM 120 (-2) : Cond) ∈ TB := tb_in 620 (by decide +kernel) (by decide +kernel)
theorem klM_122 : (.constantLong RM 122 (4) : Cond) ∈ TB := tb_in 621 (by decide +kernel) (by decide +kernel)
theorem mlM_128 : (.methodLink RM 128 yM_lineCount : Cond) ∈ TB := tb_in 622 (by decide +kernel) (by decide +kernel)
theorem imM_lineCount : (.instanceMethod yM_lineCount : Cond) ∈ TB := tb_in 624 (by decide +kernel) (by decide +kernel)
theorem coM_lineCount : (.code yM_lineCount cM_lineCount 15 (some .int) : Cond) ∈ TB := tb_in 625 (by decide +kernel) (by decide +kernel)
theorem mlW_89 : (.methodLink RW 89 yM_winding : Cond) ∈ TB := tb_in 626 (by decide +kernel) (by decide +kernel)
theorem imM_winding : (.instanceMethod yM_winding : Cond) ∈ TB := tb_in 627 (by decide +kernel) (by decide +kernel)
theorem seM_winding : (.selects RM yM_winding yM_winding : Cond) ∈ TB := tb_in 628 (by decide +kernel) (by decide +kernel)
theorem coM_winding : (.code yM_winding cM_winding 3 (some .int) : Cond) ∈ TB := tb_in 629 (by decide +kernel) (by decide +kernel)
theorem mlM_152 : (.methodLink RM 152 yM_isFar : Cond) ∈ TB := tb_in 630 (by decide +kernel) (by decide +kernel)
theorem smM_isFar : (.static yM_isFar : Cond) ∈ TB := tb_in 631 (by decide +kernel) (by decide +kernel)
theorem coM_isFar : (.code yM_isFar cM_isFar 1 (some .boolean) : Cond) ∈ TB := tb_in 632 (by decide +kernel) (by decide +kernel)
theorem mlW_93 : (.methodLink RW 93 yM_row : Cond) ∈ TB := tb_in 633 (by decide +kernel) (by decide +kernel)
theorem imM_row : (.instanceMethod yM_row : Cond) ∈ TB := tb_in 634 (by decide +kernel) (by decide +kernel)
theorem seM_row : (.selects RM yM_row yM_row : Cond) ∈ TB := tb_in 635 (by decide +kernel) (by decide +kernel)
theorem coM_row : (.code yM_row cM_row 5 (some .long) : Cond) ∈ TB := tb_in 636 (by decide +kernel) (by decide +kernel)
theorem mlM_155 : (.methodLink RM 155 yM_isPlace : Cond) ∈ TB := tb_in 637 (by decide +kernel) (by decide +kernel)
theorem smM_isPlace : (.static yM_isPlace : Cond) ∈ TB := tb_in 638 (by decide +kernel) (by decide +kernel)
theorem coM_isPlace : (.code yM_isPlace cM_isPlace 1 (some .boolean) : Cond) ∈ TB := tb_in 639 (by decide +kernel) (by decide +kernel)
theorem mlW_96 : (.methodLink RW 96 yM_share : Cond) ∈ TB := tb_in 640 (by decide +kernel) (by decide +kernel)
theorem imM_share : (.instanceMethod yM_share : Cond) ∈ TB := tb_in 641 (by decide +kernel) (by decide +kernel)
theorem seM_share : (.selects RM yM_share yM_share : Cond) ∈ TB := tb_in 642 (by decide +kernel) (by decide +kernel)
theorem coM_share : (.code yM_share cM_share 5 (some .int) : Cond) ∈ TB := tb_in 643 (by decide +kernel) (by decide +kernel)
theorem mlW_99 : (.methodLink RW 99 yM_spans : Cond) ∈ TB := tb_in 644 (by decide +kernel) (by decide +kernel)
theorem imM_spans : (.instanceMethod yM_spans : Cond) ∈ TB := tb_in 645 (by decide +kernel) (by decide +kernel)
theorem seM_spans : (.selects RM yM_spans yM_spans : Cond) ∈ TB := tb_in 646 (by decide +kernel) (by decide +kernel)
theorem coM_spans : (.code yM_spans cM_spans 6 (some .int) : Cond) ∈ TB := tb_in 647 (by decide +kernel) (by decide +kernel)
theorem mlW_102 : (.methodLink RW 102 yM_span : Cond) ∈ TB := tb_in 648 (by decide +kernel) (by decide +kernel)
theorem imM_span : (.instanceMethod yM_span : Cond) ∈ TB := tb_in 649 (by decide +kernel) (by decide +kernel)
theorem seM_span : (.selects RM yM_span yM_span : Cond) ∈ TB := tb_in 650 (by decide +kernel) (by decide +kernel)
theorem coM_span : (.code yM_span cM_span 10 (some .int) : Cond) ∈ TB := tb_in 651 (by decide +kernel) (by decide +kernel)
theorem mlW_105 : (.methodLink RW 105 yM_extent : Cond) ∈ TB := tb_in 652 (by decide +kernel) (by decide +kernel)
theorem imM_extent : (.instanceMethod yM_extent : Cond) ∈ TB := tb_in 653 (by decide +kernel) (by decide +kernel)
theorem seM_extent : (.selects RM yM_extent yM_extent : Cond) ∈ TB := tb_in 654 (by decide +kernel) (by decide +kernel)
theorem coM_extent : (.code yM_extent cM_extent 8 (some .int) : Cond) ∈ TB := tb_in 655 (by decide +kernel) (by decide +kernel)
theorem mlM_162 : (.methodLink RM 162 yM_bound : Cond) ∈ TB := tb_in 656 (by decide +kernel) (by decide +kernel)
theorem imM_bound : (.instanceMethod yM_bound : Cond) ∈ TB := tb_in 658 (by decide +kernel) (by decide +kernel)
theorem coM_bound : (.code yM_bound cM_bound 17 (some .long) : Cond) ∈ TB := tb_in 659 (by decide +kernel) (by decide +kernel)
theorem mlM_158 : (.methodLink RM 158 yM_ceiling : Cond) ∈ TB := tb_in 660 (by decide +kernel) (by decide +kernel)
theorem smM_ceiling : (.static yM_ceiling : Cond) ∈ TB := tb_in 661 (by decide +kernel) (by decide +kernel)
theorem coM_ceiling : (.code yM_ceiling cM_ceiling 4 (some .long) : Cond) ∈ TB := tb_in 662 (by decide +kernel) (by decide +kernel)
theorem ac_long : (.arrayClass .long : Cond) ∈ TB := tb_in 663 (by decide +kernel) (by decide +kernel)
theorem seC_countPieces : (.selects RC yC_countPieces yC_countPieces : Cond) ∈ TB := tb_in 0 (by decide +kernel) (by decide +kernel)
theorem seC_countSet : (.selects RC yC_countSet yC_countSet : Cond) ∈ TB := tb_in 1 (by decide +kernel) (by decide +kernel)
theorem seC_rowBits : (.selects RC yC_rowBits yC_rowBits : Cond) ∈ TB := tb_in 2 (by decide +kernel) (by decide +kernel)
theorem seC_wind : (.selects RC yC_wind yC_wind : Cond) ∈ TB := tb_in 3 (by decide +kernel) (by decide +kernel)
theorem seL_isRightOf : (.selects RL yL_isRightOf yL_isRightOf : Cond) ∈ TB := tb_in 4 (by decide +kernel) (by decide +kernel)
theorem seL_compareToRoot : (.selects RL yL_compareToRoot yL_compareToRoot : Cond) ∈ TB := tb_in 5 (by decide +kernel) (by decide +kernel)
theorem seC_isIn : (.selects RC yC_isIn yC_isIn : Cond) ∈ TB := tb_in 6 (by decide +kernel) (by decide +kernel)
theorem seC_pieceOf : (.selects RC yC_pieceOf yC_pieceOf : Cond) ∈ TB := tb_in 8 (by decide +kernel) (by decide +kernel)
theorem seC_curveEnd : (.selects RC yC_curveEnd yC_curveEnd : Cond) ∈ TB := tb_in 9 (by decide +kernel) (by decide +kernel)
theorem seM_refused : (.selects RM yM_refused yM_refused : Cond) ∈ TB := tb_in 10 (by decide +kernel) (by decide +kernel)
theorem seM_open : (.selects RM yM_open yM_open : Cond) ∈ TB := tb_in 11 (by decide +kernel) (by decide +kernel)
theorem seM_closed : (.selects RM yM_closed yM_closed : Cond) ∈ TB := tb_in 12 (by decide +kernel) (by decide +kernel)
theorem seM_countOf : (.selects RM yM_countOf yM_countOf : Cond) ∈ TB := tb_in 13 (by decide +kernel) (by decide +kernel)
theorem seM_makePieces : (.selects RM yM_makePieces yM_makePieces : Cond) ∈ TB := tb_in 14 (by decide +kernel) (by decide +kernel)
theorem seM_makeRing : (.selects RM yM_makeRing yM_makeRing : Cond) ∈ TB := tb_in 15 (by decide +kernel) (by decide +kernel)
theorem seM_putRing : (.selects RM yM_putRing yM_putRing : Cond) ∈ TB := tb_in 16 (by decide +kernel) (by decide +kernel)
theorem seM_putPiece : (.selects RM yM_putPiece yM_putPiece : Cond) ∈ TB := tb_in 17 (by decide +kernel) (by decide +kernel)
theorem seM_setPixels : (.selects RM yM_setPixels yM_setPixels : Cond) ∈ TB := tb_in 18 (by decide +kernel) (by decide +kernel)
theorem seM_isSet : (.selects RM yM_isSet yM_isSet : Cond) ∈ TB := tb_in 19 (by decide +kernel) (by decide +kernel)
theorem seM_isIn : (.selects RM yM_isIn yM_isIn : Cond) ∈ TB := tb_in 20 (by decide +kernel) (by decide +kernel)
theorem seM_windingOf : (.selects RM yM_windingOf yM_windingOf : Cond) ∈ TB := tb_in 21 (by decide +kernel) (by decide +kernel)
theorem seM_curveCount : (.selects RM yM_curveCount yM_curveCount : Cond) ∈ TB := tb_in 22 (by decide +kernel) (by decide +kernel)
theorem seM_isLeft : (.selects RM yM_isLeft yM_isLeft : Cond) ∈ TB := tb_in 23 (by decide +kernel) (by decide +kernel)
theorem seM_compareRoot : (.selects RM yM_compareRoot yM_compareRoot : Cond) ∈ TB := tb_in 24 (by decide +kernel) (by decide +kernel)
theorem seM_signAt : (.selects RM yM_signAt yM_signAt : Cond) ∈ TB := tb_in 25 (by decide +kernel) (by decide +kernel)
theorem seM_addProduct : (.selects RM yM_addProduct yM_addProduct : Cond) ∈ TB := tb_in 26 (by decide +kernel) (by decide +kernel)
theorem seM_lineCount : (.selects RM yM_lineCount yM_lineCount : Cond) ∈ TB := tb_in 27 (by decide +kernel) (by decide +kernel)
theorem seM_bound : (.selects RM yM_bound yM_bound : Cond) ∈ TB := tb_in 28 (by decide +kernel) (by decide +kernel)
theorem inP : ∀ w ∈ u_ws RP TP 11, w ∈ TB := by
  intro w hw
  have h1 : u_ws RP TP 11 = [323, 325, 327, 329, 331, 333, 335, 337, 339, 341, 343].filterMap (fun i => lw_tbl[i]?) := by decide +kernel
  have h2 : (u_ws RP TP 11).all goodWord = true := by decide +kernel
  have h3 := List.all_eq_true.mp h2 w hw
  rw [h1] at hw
  obtain ⟨i, -, hi⟩ := List.mem_filterMap.mp hw
  exact tb_in i hi h3
theorem inL : ∀ w ∈ u_ws RL TL 4, w ∈ TB := by
  intro w hw
  have h1 : u_ws RL TL 4 = [63, 65, 67, 69].filterMap (fun i => lw_tbl[i]?) := by decide +kernel
  have h2 : (u_ws RL TL 4).all goodWord = true := by decide +kernel
  have h3 := List.all_eq_true.mp h2 w hw
  rw [h1] at hw
  obtain ⟨i, -, hi⟩ := List.mem_filterMap.mp hw
  exact tb_in i hi h3
theorem inC : ∀ w ∈ u_ws RC TC 10, w ∈ TB := by
  intro w hw
  have h1 : u_ws RC TC 10 = [84, 86, 88, 90, 92, 94, 96, 98, 100, 102].filterMap (fun i => lw_tbl[i]?) := by decide +kernel
  have h2 : (u_ws RC TC 10).all goodWord = true := by decide +kernel
  have h3 := List.all_eq_true.mp h2 w hw
  rw [h1] at hw
  obtain ⟨i, -, hi⟩ := List.mem_filterMap.mp hw
  exact tb_in i hi h3
theorem inM : ∀ w ∈ u_ws RM TM 17, w ∈ TB := by
  intro w hw
  have h1 : u_ws RM TM 17 = [475, 477, 479, 481, 483, 485, 487, 489, 491, 493, 495, 497, 499, 501, 503, 505, 507].filterMap (fun i => lw_tbl[i]?) := by decide +kernel
  have h2 : (u_ws RM TM 17).all goodWord = true := by decide +kernel
  have h3 := List.all_eq_true.mp h2 w hw
  rw [h1] at hw
  obtain ⟨i, -, hi⟩ := List.mem_filterMap.mp hw
  exact tb_in i hi h3
def wC_init : List Cond := .code yC_init cC_init 1 none :: TB
def wL_init : List Cond := .code yL_init cL_init 1 none :: TB
def wC_drop : List Cond := .code yC_drop cC_drop 2 (some .int) :: TB
def wC_clear : List Cond := .code yC_clear cC_clear 2 (some .int) :: TB
def wC_parity : List Cond := .code yC_parity cC_parity 3 (some .boolean) :: TB
def wC_count : List Cond := .code yC_count cC_count 2 (some .int) :: TB
def wC_countPieces : List Cond := .code yC_countPieces cC_countPieces 5 (some .int) :: TB
def wC_countSet : List Cond := .code yC_countSet cC_countSet 3 (some .int) :: TB
def wC_rowBits : List Cond := .code yC_rowBits cC_rowBits 5 (some .long) :: TB
def wC_bottomOf : List Cond := .code yC_bottomOf cC_bottomOf 1 (some .int) :: TB
def wC_wind : List Cond := .code yC_wind cC_wind 7 none :: TB
def wJA_fill : List Cond := .code yJA_fill cJA_fill 4 none :: TB
def wP_crosses : List Cond := .code yP_crosses cP_crosses 5 (some .boolean) :: TB
def wP_underRoot : List Cond := .code yP_underRoot cP_underRoot 2 (some .long) :: TB
def wL_take : List Cond := .code yL_take cL_take 16 none :: TB
def wL_pointsLeft : List Cond := .code yL_pointsLeft cL_pointsLeft 6 (some .int) :: TB
def wL_isRightOf : List Cond := .code yL_isRightOf cL_isRightOf 4 (some .boolean) :: TB
def wL_compareToRoot : List Cond := .code yL_compareToRoot cL_compareToRoot 11 (some .long) :: TB
def wC_isIn : List Cond := .code yC_isIn cC_isIn 2 (some .boolean) :: TB
def wJL_bitCount : List Cond := .code yJL_bitCount cJL_bitCount 2 (some .int) :: TB
def wW_add : List Cond := .codeWith yW_add cW_add 6 (some .int) [(0, 12, 15, 13), (0, 12, 19, 15)] :: TB
def wC_add : List Cond := .code yC_add cC_add 4 (some .int) :: TB
def wC_canBeTold : List Cond := .code yC_canBeTold cC_canBeTold 2 (some .boolean) :: TB
def wW_close : List Cond := .codeWith yW_close cW_close 3 (some .int) [(0, 8, 11, 15)] :: TB
def wC_close : List Cond := .code yC_close cC_close 2 (some .int) :: TB
def wC_pieceOf : List Cond := .code yC_pieceOf cC_pieceOf 6 (some (.object "CurveRaster$Piece")) :: TB
def wC_curveEnd : List Cond := .code yC_curveEnd cC_curveEnd 4 (some .int) :: TB
def wJM_floorDiv : List Cond := .code yJM_floorDiv cJM_floorDiv 3 (some .int) :: TB
def wP_init : List Cond := .code yP_init cP_init 8 none :: TB
def wW_move : List Cond := .codeWith yW_move cW_move 4 (some .int) [(0, 6, 9, 13)] :: TB
def wC_move : List Cond := .code yC_move cC_move 5 none :: TB
def wP_shift : List Cond := .code yP_shift cP_shift 3 none :: TB
def wW_winding : List Cond := .codeWith yW_winding cW_winding 5 (some .int) [(0, 10, 13, 13)] :: TB
def wC_winding : List Cond := .code yC_winding cC_winding 3 (some .int) :: TB
def wC_canBeAsked : List Cond := .code yC_canBeAsked cC_canBeAsked 1 (some .boolean) :: TB
def wW_row : List Cond := .codeWith yW_row cW_row 4 (some .int) [(0, 8, 11, 33)] :: TB
def wC_row : List Cond := .code yC_row cC_row 2 (some .long) :: TB
def wC_isInPicture : List Cond := .code yC_isInPicture cC_isInPicture 1 (some .boolean) :: TB
def wW_share : List Cond := .codeWith yW_share cW_share 5 (some .int) [(0, 10, 13, 33)] :: TB
def wC_share : List Cond := .code yC_share cC_share 6 (some .int) :: TB
def wW_spans : List Cond := .codeWith yW_spans cW_spans 4 (some .int) [(0, 9, 12, 33)] :: TB
def wC_spans : List Cond := .code yC_spans cC_spans 2 (some .int) :: TB
def wC_firstsOf : List Cond := .code yC_firstsOf cC_firstsOf 2 (some .long) :: TB
def wW_span : List Cond := .codeWith yW_span cW_span 6 (some .int) [(0, 12, 15, 33)] :: TB
def wC_span : List Cond := .code yC_span cC_span 7 (some .int) :: TB
def wC_lastsOf : List Cond := .code yC_lastsOf cC_lastsOf 2 (some .long) :: TB
def wC_bitNumber : List Cond := .code yC_bitNumber cC_bitNumber 5 (some .int) :: TB
def wW_extent : List Cond := .codeWith yW_extent cW_extent 4 (some .int) [(0, 9, 12, 33), (0, 9, 15, 15)] :: TB
def wC_extent : List Cond := .code yC_extent cC_extent 7 (some .int) :: TB
def wP_bound : List Cond := .code yP_bound cP_bound 2 (some .int) :: TB
def wP_floorOfLeast : List Cond := .code yP_floorOfLeast cP_floorOfLeast 4 (some .int) :: TB
def wJM_min : List Cond := .code yJM_min cJM_min 2 (some .int) :: TB
def wJM_max : List Cond := .code yJM_max cJM_max 2 (some .int) :: TB
def wM_init : List Cond := .code yM_init cM_init 1 none :: TB
def wM_thrown : List Cond := .code yM_thrown cM_thrown 1 (some .int) :: TB
def wM_add : List Cond := .code yM_add cM_add 4 (some .int) :: TB
def wM_isCoordinate : List Cond := .code yM_isCoordinate cM_isCoordinate 2 (some .boolean) :: TB
def wM_refused : List Cond := .code yM_refused cM_refused 2 (some .boolean) :: TB
def wM_open : List Cond := .code yM_open cM_open 1 (some .int) :: TB
def wM_closed : List Cond := .code yM_closed cM_closed 1 (some .int) :: TB
def wM_close : List Cond := .code yM_close cM_close 1 (some .int) :: TB
def wM_drop : List Cond := .code yM_drop cM_drop 2 (some .int) :: TB
def wM_clear : List Cond := .code yM_clear cM_clear 2 (some .int) :: TB
def wM_move : List Cond := .code yM_move cM_move 5 none :: TB
def wM_parity : List Cond := .code yM_parity cM_parity 3 (some .boolean) :: TB
def wM_count : List Cond := .code yM_count cM_count 2 (some .int) :: TB
def wM_countOf : List Cond := .code yM_countOf cM_countOf 4 (some .int) :: TB
def wM_makePieces : List Cond := .code yM_makePieces cM_makePieces 4 none :: TB
def wM_makeRing : List Cond := .code yM_makeRing cM_makeRing 5 none :: TB
def wM_putRing : List Cond := .code yM_putRing cM_putRing 4 none :: TB
def wM_putPiece : List Cond := .code yM_putPiece cM_putPiece 6 none :: TB
def wM_setPixels : List Cond := .code yM_setPixels cM_setPixels 3 (some .int) :: TB
def wM_isSet : List Cond := .code yM_isSet cM_isSet 3 (some .boolean) :: TB
def wM_isIn : List Cond := .code yM_isIn cM_isIn 4 (some .boolean) :: TB
def wM_windingOf : List Cond := .code yM_windingOf cM_windingOf 5 (some .int) :: TB
def wM_curveCount : List Cond := .code yM_curveCount cM_curveCount 22 (some .int) :: TB
def wM_isLeft : List Cond := .code yM_isLeft cM_isLeft 23 (some .boolean) :: TB
def wM_signOf : List Cond := .code yM_signOf cM_signOf 2 (some .int) :: TB
def wM_compareRoot : List Cond := .code yM_compareRoot cM_compareRoot 14 (some .int) :: TB
def wM_signAt : List Cond := .code yM_signAt cM_signAt 11 (some .int) :: TB
def wM_addProduct : List Cond := .code yM_addProduct cM_addProduct 9 none :: TB
def wM_lineCount : List Cond := .code yM_lineCount cM_lineCount 15 (some .int) :: TB
def wM_winding : List Cond := .code yM_winding cM_winding 3 (some .int) :: TB
def wM_isFar : List Cond := .code yM_isFar cM_isFar 1 (some .boolean) :: TB
def wM_row : List Cond := .code yM_row cM_row 5 (some .long) :: TB
def wM_isPlace : List Cond := .code yM_isPlace cM_isPlace 1 (some .boolean) :: TB
def wM_share : List Cond := .code yM_share cM_share 5 (some .int) :: TB
def wM_spans : List Cond := .code yM_spans cM_spans 6 (some .int) :: TB
def wM_span : List Cond := .code yM_span cM_span 10 (some .int) :: TB
def wM_extent : List Cond := .code yM_extent cM_extent 8 (some .int) :: TB
def wM_bound : List Cond := .code yM_bound cM_bound 17 (some .long) :: TB
def wM_ceiling : List Cond := .code yM_ceiling cM_ceiling 4 (some .long) :: TB
theorem tb_good : GoodIn TB TB := fun w h => ⟨h, good_of_word (List.mem_filter.mp h).2⟩
/-- a callee's words among a caller's -/
theorem tb_call {a b : Cond} (hb : b ∈ TB) : GoodIn (a :: TB) (b :: TB) := fun w h => by
  have h1 : w ∈ TB := (List.mem_cons.mp h).elim (fun e => by rw [e]; exact hb) id
  exact ⟨List.mem_cons_of_mem _ h1, good_of_word (List.mem_filter.mp h1).2⟩
theorem tb_app {a : Cond} {xs ws : List Cond} (hx : ∀ w ∈ xs, w ∈ TB) (hw : GoodIn (a :: TB) ws) : GoodIn (a :: TB) (xs ++ ws) := fun w h => (List.mem_append.mp h).elim (fun h => ⟨List.mem_cons_of_mem _ (hx w h), good_of_word (List.mem_filter.mp (hx w h)).2⟩) (hw w)
theorem tb_V {a b : Cond} {own C : String} {idx : Nat} {y : MethodName} (h1 : Cond.methodLink own idx y ∈ TB) (h2 : Cond.instanceMethod y ∈ TB) (h3 : Cond.selects C y y ∈ TB) (h4 : Cond.initialized C ∈ TB) (hb : b ∈ TB) : GoodIn (a :: TB) (wsV own idx C y (b :: TB)) := tb_app (fun w h => by rcases List.mem_cons.mp h with rfl | h; exact h1; rcases List.mem_cons.mp h with rfl | h; exact h2; rcases List.mem_cons.mp h with rfl | h; exact h3; rcases List.mem_cons.mp h with rfl | h; exact h4; cases h) (tb_call hb)
theorem tb_S {a b : Cond} {own : String} {idx : Nat} {y : MethodName} (h1 : Cond.methodLink own idx y ∈ TB) (h2 : Cond.static y ∈ TB) (h3 : Cond.initialized y.cls ∈ TB) (hb : b ∈ TB) : GoodIn (a :: TB) (va_wsS own idx y (b :: TB)) := tb_app (fun w h => by rcases List.mem_cons.mp h with rfl | h; exact h1; rcases List.mem_cons.mp h with rfl | h; exact h2; rcases List.mem_cons.mp h with rfl | h; exact h3; cases h) (tb_call hb)
end
section
/-! decode rows -/
theorem dP_crosses_0 : decode cP_crosses 0 = .ok (.aload_n 0, 1) := by decide +kernel
theorem dP_crosses_1 : decode cP_crosses 1 = .ok (.getfield 17, 3) := by decide +kernel
theorem dP_crosses_4 : decode cP_crosses 4 = .ok (.iload_n 1, 1) := by decide +kernel
theorem dP_crosses_5 : decode cP_crosses 5 = .ok (.if_icmp .le 7, 3) := by decide +kernel
theorem dP_crosses_8 : decode cP_crosses 8 = .ok (.iconst 1, 1) := by decide +kernel
theorem dP_crosses_9 : decode cP_crosses 9 = .ok (.goto 4, 3) := by decide +kernel
theorem dP_crosses_12 : decode cP_crosses 12 = .ok (.iconst 0, 1) := by decide +kernel
theorem dP_crosses_13 : decode cP_crosses 13 = .ok (.istore_n 3, 1) := by decide +kernel
theorem dP_crosses_14 : decode cP_crosses 14 = .ok (.aload_n 0, 1) := by decide +kernel
theorem dP_crosses_15 : decode cP_crosses 15 = .ok (.getfield 29, 3) := by decide +kernel
theorem dP_crosses_18 : decode cP_crosses 18 = .ok (.iload_n 1, 1) := by decide +kernel
theorem dP_crosses_19 : decode cP_crosses 19 = .ok (.if_icmp .le 7, 3) := by decide +kernel
theorem dP_crosses_22 : decode cP_crosses 22 = .ok (.iconst 1, 1) := by decide +kernel
theorem dP_crosses_23 : decode cP_crosses 23 = .ok (.goto 4, 3) := by decide +kernel
theorem dP_crosses_26 : decode cP_crosses 26 = .ok (.iconst 0, 1) := by decide +kernel
theorem dP_crosses_27 : decode cP_crosses 27 = .ok (.istore 4, 2) := by decide +kernel
theorem dP_crosses_29 : decode cP_crosses 29 = .ok (.iload_n 3, 1) := by decide +kernel
theorem dP_crosses_30 : decode cP_crosses 30 = .ok (.iload 4, 2) := by decide +kernel
theorem dP_crosses_32 : decode cP_crosses 32 = .ok (.if_icmp .eq 15, 3) := by decide +kernel
theorem dP_crosses_35 : decode cP_crosses 35 = .ok (.iload 4, 2) := by decide +kernel
theorem dP_crosses_37 : decode cP_crosses 37 = .ok (.iload_n 2, 1) := by decide +kernel
theorem dP_crosses_38 : decode cP_crosses 38 = .ok (.if_icmp .ne 7, 3) := by decide +kernel
theorem dP_crosses_41 : decode cP_crosses 41 = .ok (.iconst 1, 1) := by decide +kernel
theorem dP_crosses_42 : decode cP_crosses 42 = .ok (.goto 4, 3) := by decide +kernel
theorem dP_crosses_45 : decode cP_crosses 45 = .ok (.iconst 0, 1) := by decide +kernel
theorem dP_crosses_46 : decode cP_crosses 46 = .ok (.ireturn, 1) := by decide +kernel
theorem dP_crosses_47 : decode cP_crosses 47 = .ok (.aload_n 0, 1) := by decide +kernel
theorem dP_crosses_48 : decode cP_crosses 48 = .ok (.getfield 23, 3) := by decide +kernel
theorem dP_crosses_51 : decode cP_crosses 51 = .ok (.iload_n 1, 1) := by decide +kernel
theorem dP_crosses_52 : decode cP_crosses 52 = .ok (.if_icmp .le 7, 3) := by decide +kernel
theorem dP_crosses_55 : decode cP_crosses 55 = .ok (.iconst 1, 1) := by decide +kernel
theorem dP_crosses_56 : decode cP_crosses 56 = .ok (.goto 4, 3) := by decide +kernel
theorem dP_crosses_59 : decode cP_crosses 59 = .ok (.iconst 0, 1) := by decide +kernel
theorem dP_crosses_60 : decode cP_crosses 60 = .ok (.iload_n 3, 1) := by decide +kernel
theorem dP_crosses_61 : decode cP_crosses 61 = .ok (.if_icmp .eq 17, 3) := by decide +kernel
theorem dP_crosses_64 : decode cP_crosses 64 = .ok (.aload_n 0, 1) := by decide +kernel
theorem dP_crosses_65 : decode cP_crosses 65 = .ok (.iload_n 1, 1) := by decide +kernel
theorem dP_crosses_66 : decode cP_crosses 66 = .ok (.invokevirtual 44, 3) := by decide +kernel
theorem dP_crosses_69 : decode cP_crosses 69 = .ok (.lconst 0, 1) := by decide +kernel
theorem dP_crosses_70 : decode cP_crosses 70 = .ok (.lcmp, 1) := by decide +kernel
theorem dP_crosses_71 : decode cP_crosses 71 = .ok (.ifCond .le 7, 3) := by decide +kernel
theorem dP_crosses_74 : decode cP_crosses 74 = .ok (.iconst 1, 1) := by decide +kernel
theorem dP_crosses_75 : decode cP_crosses 75 = .ok (.goto 4, 3) := by decide +kernel
theorem dP_crosses_78 : decode cP_crosses 78 = .ok (.iconst 0, 1) := by decide +kernel
theorem dP_crosses_79 : decode cP_crosses 79 = .ok (.ireturn, 1) := by decide +kernel
theorem dP_underRoot_0 : decode cP_underRoot 0 = .ok (.aload_n 0, 1) := by decide +kernel
theorem dP_underRoot_1 : decode cP_underRoot 1 = .ok (.getfield 41, 3) := by decide +kernel
theorem dP_underRoot_4 : decode cP_underRoot 4 = .ok (.i2l, 1) := by decide +kernel
theorem dP_underRoot_5 : decode cP_underRoot 5 = .ok (.aload_n 0, 1) := by decide +kernel
theorem dP_underRoot_6 : decode cP_underRoot 6 = .ok (.getfield 41, 3) := by decide +kernel
theorem dP_underRoot_9 : decode cP_underRoot 9 = .ok (.i2l, 1) := by decide +kernel
theorem dP_underRoot_10 : decode cP_underRoot 10 = .ok (.lmul, 1) := by decide +kernel
theorem dP_underRoot_11 : decode cP_underRoot 11 = .ok (.ldc2_w 48, 3) := by decide +kernel
theorem dP_underRoot_14 : decode cP_underRoot 14 = .ok (.aload_n 0, 1) := by decide +kernel
theorem dP_underRoot_15 : decode cP_underRoot 15 = .ok (.getfield 35, 3) := by decide +kernel
theorem dP_underRoot_18 : decode cP_underRoot 18 = .ok (.i2l, 1) := by decide +kernel
theorem dP_underRoot_19 : decode cP_underRoot 19 = .ok (.lmul, 1) := by decide +kernel
theorem dP_underRoot_20 : decode cP_underRoot 20 = .ok (.aload_n 0, 1) := by decide +kernel
theorem dP_underRoot_21 : decode cP_underRoot 21 = .ok (.getfield 17, 3) := by decide +kernel
theorem dP_underRoot_24 : decode cP_underRoot 24 = .ok (.iload_n 1, 1) := by decide +kernel
theorem dP_underRoot_25 : decode cP_underRoot 25 = .ok (.isub, 1) := by decide +kernel
theorem dP_underRoot_26 : decode cP_underRoot 26 = .ok (.i2l, 1) := by decide +kernel
theorem dP_underRoot_27 : decode cP_underRoot 27 = .ok (.lmul, 1) := by decide +kernel
theorem dP_underRoot_28 : decode cP_underRoot 28 = .ok (.lsub, 1) := by decide +kernel
theorem dP_underRoot_29 : decode cP_underRoot 29 = .ok (.lreturn, 1) := by decide +kernel
theorem dP_init_0 : decode cP_init 0 = .ok (.aload_n 0, 1) := by decide +kernel
theorem dP_init_1 : decode cP_init 1 = .ok (.invokespecial 1, 3) := by decide +kernel
theorem dP_init_4 : decode cP_init 4 = .ok (.aload_n 0, 1) := by decide +kernel
theorem dP_init_5 : decode cP_init 5 = .ok (.iload 7, 2) := by decide +kernel
theorem dP_init_7 : decode cP_init 7 = .ok (.putfield 7, 3) := by decide +kernel
theorem dP_init_10 : decode cP_init 10 = .ok (.aload_n 0, 1) := by decide +kernel
theorem dP_init_11 : decode cP_init 11 = .ok (.iload_n 1, 1) := by decide +kernel
theorem dP_init_12 : decode cP_init 12 = .ok (.putfield 13, 3) := by decide +kernel
theorem dP_init_15 : decode cP_init 15 = .ok (.aload_n 0, 1) := by decide +kernel
theorem dP_init_16 : decode cP_init 16 = .ok (.iload_n 2, 1) := by decide +kernel
theorem dP_init_17 : decode cP_init 17 = .ok (.putfield 17, 3) := by decide +kernel
theorem dP_init_20 : decode cP_init 20 = .ok (.aload_n 0, 1) := by decide +kernel
theorem dP_init_21 : decode cP_init 21 = .ok (.iload_n 3, 1) := by decide +kernel
theorem dP_init_22 : decode cP_init 22 = .ok (.putfield 20, 3) := by decide +kernel
theorem dP_init_25 : decode cP_init 25 = .ok (.aload_n 0, 1) := by decide +kernel
theorem dP_init_26 : decode cP_init 26 = .ok (.iload 4, 2) := by decide +kernel
theorem dP_init_28 : decode cP_init 28 = .ok (.putfield 23, 3) := by decide +kernel
theorem dP_init_31 : decode cP_init 31 = .ok (.aload_n 0, 1) := by decide +kernel
theorem dP_init_32 : decode cP_init 32 = .ok (.iload 5, 2) := by decide +kernel
theorem dP_init_34 : decode cP_init 34 = .ok (.putfield 26, 3) := by decide +kernel
theorem dP_init_37 : decode cP_init 37 = .ok (.aload_n 0, 1) := by decide +kernel
theorem dP_init_38 : decode cP_init 38 = .ok (.iload 6, 2) := by decide +kernel
theorem dP_init_40 : decode cP_init 40 = .ok (.putfield 29, 3) := by decide +kernel
theorem dP_init_43 : decode cP_init 43 = .ok (.aload_n 0, 1) := by decide +kernel
theorem dP_init_44 : decode cP_init 44 = .ok (.iload 7, 2) := by decide +kernel
theorem dP_init_46 : decode cP_init 46 = .ok (.ifCond .eq 7, 3) := by decide +kernel
theorem dP_init_49 : decode cP_init 49 = .ok (.iconst 0, 1) := by decide +kernel
theorem dP_init_50 : decode cP_init 50 = .ok (.goto 11, 3) := by decide +kernel
theorem dP_init_53 : decode cP_init 53 = .ok (.iload_n 1, 1) := by decide +kernel
theorem dP_init_54 : decode cP_init 54 = .ok (.iconst 2, 1) := by decide +kernel
theorem dP_init_55 : decode cP_init 55 = .ok (.iload_n 3, 1) := by decide +kernel
theorem dP_init_56 : decode cP_init 56 = .ok (.imul, 1) := by decide +kernel
theorem dP_init_57 : decode cP_init 57 = .ok (.isub, 1) := by decide +kernel
theorem dP_init_58 : decode cP_init 58 = .ok (.iload 5, 2) := by decide +kernel
theorem dP_init_60 : decode cP_init 60 = .ok (.iadd, 1) := by decide +kernel
theorem dP_init_61 : decode cP_init 61 = .ok (.putfield 32, 3) := by decide +kernel
theorem dP_init_64 : decode cP_init 64 = .ok (.aload_n 0, 1) := by decide +kernel
theorem dP_init_65 : decode cP_init 65 = .ok (.iload 7, 2) := by decide +kernel
theorem dP_init_67 : decode cP_init 67 = .ok (.ifCond .eq 7, 3) := by decide +kernel
theorem dP_init_70 : decode cP_init 70 = .ok (.iconst 0, 1) := by decide +kernel
theorem dP_init_71 : decode cP_init 71 = .ok (.goto 12, 3) := by decide +kernel
theorem dP_init_74 : decode cP_init 74 = .ok (.iload_n 2, 1) := by decide +kernel
theorem dP_init_75 : decode cP_init 75 = .ok (.iconst 2, 1) := by decide +kernel
theorem dP_init_76 : decode cP_init 76 = .ok (.iload 4, 2) := by decide +kernel
theorem dP_init_78 : decode cP_init 78 = .ok (.imul, 1) := by decide +kernel
theorem dP_init_79 : decode cP_init 79 = .ok (.isub, 1) := by decide +kernel
theorem dP_init_80 : decode cP_init 80 = .ok (.iload 6, 2) := by decide +kernel
theorem dP_init_82 : decode cP_init 82 = .ok (.iadd, 1) := by decide +kernel
theorem dP_init_83 : decode cP_init 83 = .ok (.putfield 35, 3) := by decide +kernel
theorem dP_init_86 : decode cP_init 86 = .ok (.aload_n 0, 1) := by decide +kernel
theorem dP_init_87 : decode cP_init 87 = .ok (.iload 7, 2) := by decide +kernel
theorem dP_init_89 : decode cP_init 89 = .ok (.ifCond .eq 10, 3) := by decide +kernel
theorem dP_init_92 : decode cP_init 92 = .ok (.iload 5, 2) := by decide +kernel
theorem dP_init_94 : decode cP_init 94 = .ok (.iload_n 1, 1) := by decide +kernel
theorem dP_init_95 : decode cP_init 95 = .ok (.isub, 1) := by decide +kernel
theorem dP_init_96 : decode cP_init 96 = .ok (.goto 8, 3) := by decide +kernel
theorem dP_init_99 : decode cP_init 99 = .ok (.iconst 2, 1) := by decide +kernel
theorem dP_init_100 : decode cP_init 100 = .ok (.iload_n 3, 1) := by decide +kernel
theorem dP_init_101 : decode cP_init 101 = .ok (.iload_n 1, 1) := by decide +kernel
theorem dP_init_102 : decode cP_init 102 = .ok (.isub, 1) := by decide +kernel
theorem dP_init_103 : decode cP_init 103 = .ok (.imul, 1) := by decide +kernel
theorem dP_init_104 : decode cP_init 104 = .ok (.putfield 38, 3) := by decide +kernel
theorem dP_init_107 : decode cP_init 107 = .ok (.aload_n 0, 1) := by decide +kernel
theorem dP_init_108 : decode cP_init 108 = .ok (.iload 7, 2) := by decide +kernel
theorem dP_init_110 : decode cP_init 110 = .ok (.ifCond .eq 10, 3) := by decide +kernel
theorem dP_init_113 : decode cP_init 113 = .ok (.iload 6, 2) := by decide +kernel
theorem dP_init_115 : decode cP_init 115 = .ok (.iload_n 2, 1) := by decide +kernel
theorem dP_init_116 : decode cP_init 116 = .ok (.isub, 1) := by decide +kernel
theorem dP_init_117 : decode cP_init 117 = .ok (.goto 9, 3) := by decide +kernel
theorem dP_init_120 : decode cP_init 120 = .ok (.iconst 2, 1) := by decide +kernel
theorem dP_init_121 : decode cP_init 121 = .ok (.iload 4, 2) := by decide +kernel
theorem dP_init_123 : decode cP_init 123 = .ok (.iload_n 2, 1) := by decide +kernel
theorem dP_init_124 : decode cP_init 124 = .ok (.isub, 1) := by decide +kernel
theorem dP_init_125 : decode cP_init 125 = .ok (.imul, 1) := by decide +kernel
theorem dP_init_126 : decode cP_init 126 = .ok (.putfield 41, 3) := by decide +kernel
theorem dP_init_129 : decode cP_init 129 = .ok (.return_, 1) := by decide +kernel
theorem dP_shift_0 : decode cP_shift 0 = .ok (.aload_n 0, 1) := by decide +kernel
theorem dP_shift_1 : decode cP_shift 1 = .ok (.dup, 1) := by decide +kernel
theorem dP_shift_2 : decode cP_shift 2 = .ok (.getfield 13, 3) := by decide +kernel
theorem dP_shift_5 : decode cP_shift 5 = .ok (.iload_n 1, 1) := by decide +kernel
theorem dP_shift_6 : decode cP_shift 6 = .ok (.iadd, 1) := by decide +kernel
theorem dP_shift_7 : decode cP_shift 7 = .ok (.putfield 13, 3) := by decide +kernel
theorem dP_shift_10 : decode cP_shift 10 = .ok (.aload_n 0, 1) := by decide +kernel
theorem dP_shift_11 : decode cP_shift 11 = .ok (.dup, 1) := by decide +kernel
theorem dP_shift_12 : decode cP_shift 12 = .ok (.getfield 17, 3) := by decide +kernel
theorem dP_shift_15 : decode cP_shift 15 = .ok (.iload_n 2, 1) := by decide +kernel
theorem dP_shift_16 : decode cP_shift 16 = .ok (.iadd, 1) := by decide +kernel
theorem dP_shift_17 : decode cP_shift 17 = .ok (.putfield 17, 3) := by decide +kernel
theorem dP_shift_20 : decode cP_shift 20 = .ok (.aload_n 0, 1) := by decide +kernel
theorem dP_shift_21 : decode cP_shift 21 = .ok (.dup, 1) := by decide +kernel
theorem dP_shift_22 : decode cP_shift 22 = .ok (.getfield 20, 3) := by decide +kernel
theorem dP_shift_25 : decode cP_shift 25 = .ok (.iload_n 1, 1) := by decide +kernel
theorem dP_shift_26 : decode cP_shift 26 = .ok (.iadd, 1) := by decide +kernel
theorem dP_shift_27 : decode cP_shift 27 = .ok (.putfield 20, 3) := by decide +kernel
theorem dP_shift_30 : decode cP_shift 30 = .ok (.aload_n 0, 1) := by decide +kernel
theorem dP_shift_31 : decode cP_shift 31 = .ok (.dup, 1) := by decide +kernel
theorem dP_shift_32 : decode cP_shift 32 = .ok (.getfield 23, 3) := by decide +kernel
theorem dP_shift_35 : decode cP_shift 35 = .ok (.iload_n 2, 1) := by decide +kernel
theorem dP_shift_36 : decode cP_shift 36 = .ok (.iadd, 1) := by decide +kernel
theorem dP_shift_37 : decode cP_shift 37 = .ok (.putfield 23, 3) := by decide +kernel
theorem dP_shift_40 : decode cP_shift 40 = .ok (.aload_n 0, 1) := by decide +kernel
theorem dP_shift_41 : decode cP_shift 41 = .ok (.dup, 1) := by decide +kernel
theorem dP_shift_42 : decode cP_shift 42 = .ok (.getfield 26, 3) := by decide +kernel
theorem dP_shift_45 : decode cP_shift 45 = .ok (.iload_n 1, 1) := by decide +kernel
theorem dP_shift_46 : decode cP_shift 46 = .ok (.iadd, 1) := by decide +kernel
theorem dP_shift_47 : decode cP_shift 47 = .ok (.putfield 26, 3) := by decide +kernel
theorem dP_shift_50 : decode cP_shift 50 = .ok (.aload_n 0, 1) := by decide +kernel
theorem dP_shift_51 : decode cP_shift 51 = .ok (.dup, 1) := by decide +kernel
theorem dP_shift_52 : decode cP_shift 52 = .ok (.getfield 29, 3) := by decide +kernel
theorem dP_shift_55 : decode cP_shift 55 = .ok (.iload_n 2, 1) := by decide +kernel
theorem dP_shift_56 : decode cP_shift 56 = .ok (.iadd, 1) := by decide +kernel
theorem dP_shift_57 : decode cP_shift 57 = .ok (.putfield 29, 3) := by decide +kernel
theorem dP_shift_60 : decode cP_shift 60 = .ok (.return_, 1) := by decide +kernel
theorem dP_bound_0 : decode cP_bound 0 = .ok (.iload_n 1, 1) := by decide +kernel
theorem dP_bound_1 : decode cP_bound 1 = .ok (.tableswitch 79 0 2 #[27, 43, 59], 27) := by decide +kernel
theorem dP_bound_28 : decode cP_bound 28 = .ok (.aload_n 0, 1) := by decide +kernel
theorem dP_bound_29 : decode cP_bound 29 = .ok (.getfield 13, 3) := by decide +kernel
theorem dP_bound_32 : decode cP_bound 32 = .ok (.aload_n 0, 1) := by decide +kernel
theorem dP_bound_33 : decode cP_bound 33 = .ok (.getfield 20, 3) := by decide +kernel
theorem dP_bound_36 : decode cP_bound 36 = .ok (.aload_n 0, 1) := by decide +kernel
theorem dP_bound_37 : decode cP_bound 37 = .ok (.getfield 26, 3) := by decide +kernel
theorem dP_bound_40 : decode cP_bound 40 = .ok (.invokestatic 50, 3) := by decide +kernel
theorem dP_bound_43 : decode cP_bound 43 = .ok (.ireturn, 1) := by decide +kernel
theorem dP_bound_44 : decode cP_bound 44 = .ok (.aload_n 0, 1) := by decide +kernel
theorem dP_bound_45 : decode cP_bound 45 = .ok (.getfield 17, 3) := by decide +kernel
theorem dP_bound_48 : decode cP_bound 48 = .ok (.aload_n 0, 1) := by decide +kernel
theorem dP_bound_49 : decode cP_bound 49 = .ok (.getfield 23, 3) := by decide +kernel
theorem dP_bound_52 : decode cP_bound 52 = .ok (.aload_n 0, 1) := by decide +kernel
theorem dP_bound_53 : decode cP_bound 53 = .ok (.getfield 29, 3) := by decide +kernel
theorem dP_bound_56 : decode cP_bound 56 = .ok (.invokestatic 50, 3) := by decide +kernel
theorem dP_bound_59 : decode cP_bound 59 = .ok (.ireturn, 1) := by decide +kernel
theorem dP_bound_60 : decode cP_bound 60 = .ok (.aload_n 0, 1) := by decide +kernel
theorem dP_bound_61 : decode cP_bound 61 = .ok (.getfield 13, 3) := by decide +kernel
theorem dP_bound_64 : decode cP_bound 64 = .ok (.ineg, 1) := by decide +kernel
theorem dP_bound_65 : decode cP_bound 65 = .ok (.aload_n 0, 1) := by decide +kernel
theorem dP_bound_66 : decode cP_bound 66 = .ok (.getfield 20, 3) := by decide +kernel
theorem dP_bound_69 : decode cP_bound 69 = .ok (.ineg, 1) := by decide +kernel
theorem dP_bound_70 : decode cP_bound 70 = .ok (.aload_n 0, 1) := by decide +kernel
theorem dP_bound_71 : decode cP_bound 71 = .ok (.getfield 26, 3) := by decide +kernel
theorem dP_bound_74 : decode cP_bound 74 = .ok (.ineg, 1) := by decide +kernel
theorem dP_bound_75 : decode cP_bound 75 = .ok (.invokestatic 50, 3) := by decide +kernel
theorem dP_bound_78 : decode cP_bound 78 = .ok (.ineg, 1) := by decide +kernel
theorem dP_bound_79 : decode cP_bound 79 = .ok (.ireturn, 1) := by decide +kernel
theorem dP_bound_80 : decode cP_bound 80 = .ok (.aload_n 0, 1) := by decide +kernel
theorem dP_bound_81 : decode cP_bound 81 = .ok (.getfield 17, 3) := by decide +kernel
theorem dP_bound_84 : decode cP_bound 84 = .ok (.ineg, 1) := by decide +kernel
theorem dP_bound_85 : decode cP_bound 85 = .ok (.aload_n 0, 1) := by decide +kernel
theorem dP_bound_86 : decode cP_bound 86 = .ok (.getfield 23, 3) := by decide +kernel
theorem dP_bound_89 : decode cP_bound 89 = .ok (.ineg, 1) := by decide +kernel
theorem dP_bound_90 : decode cP_bound 90 = .ok (.aload_n 0, 1) := by decide +kernel
theorem dP_bound_91 : decode cP_bound 91 = .ok (.getfield 29, 3) := by decide +kernel
theorem dP_bound_94 : decode cP_bound 94 = .ok (.ineg, 1) := by decide +kernel
theorem dP_bound_95 : decode cP_bound 95 = .ok (.invokestatic 50, 3) := by decide +kernel
theorem dP_bound_98 : decode cP_bound 98 = .ok (.ineg, 1) := by decide +kernel
theorem dP_bound_99 : decode cP_bound 99 = .ok (.ireturn, 1) := by decide +kernel
theorem dP_floorOfLeast_0 : decode cP_floorOfLeast 0 = .ok (.iload_n 0, 1) := by decide +kernel
theorem dP_floorOfLeast_1 : decode cP_floorOfLeast 1 = .ok (.iconst 2, 1) := by decide +kernel
theorem dP_floorOfLeast_2 : decode cP_floorOfLeast 2 = .ok (.iload_n 1, 1) := by decide +kernel
theorem dP_floorOfLeast_3 : decode cP_floorOfLeast 3 = .ok (.imul, 1) := by decide +kernel
theorem dP_floorOfLeast_4 : decode cP_floorOfLeast 4 = .ok (.isub, 1) := by decide +kernel
theorem dP_floorOfLeast_5 : decode cP_floorOfLeast 5 = .ok (.iload_n 2, 1) := by decide +kernel
theorem dP_floorOfLeast_6 : decode cP_floorOfLeast 6 = .ok (.iadd, 1) := by decide +kernel
theorem dP_floorOfLeast_7 : decode cP_floorOfLeast 7 = .ok (.istore_n 3, 1) := by decide +kernel
theorem dP_floorOfLeast_8 : decode cP_floorOfLeast 8 = .ok (.iload_n 1, 1) := by decide +kernel
theorem dP_floorOfLeast_9 : decode cP_floorOfLeast 9 = .ok (.iload_n 0, 1) := by decide +kernel
theorem dP_floorOfLeast_10 : decode cP_floorOfLeast 10 = .ok (.if_icmp .ge 27, 3) := by decide +kernel
theorem dP_floorOfLeast_13 : decode cP_floorOfLeast 13 = .ok (.iload_n 1, 1) := by decide +kernel
theorem dP_floorOfLeast_14 : decode cP_floorOfLeast 14 = .ok (.iload_n 2, 1) := by decide +kernel
theorem dP_floorOfLeast_15 : decode cP_floorOfLeast 15 = .ok (.if_icmp .ge 22, 3) := by decide +kernel
theorem dP_floorOfLeast_18 : decode cP_floorOfLeast 18 = .ok (.iload_n 3, 1) := by decide +kernel
theorem dP_floorOfLeast_19 : decode cP_floorOfLeast 19 = .ok (.ifCond .le 18, 3) := by decide +kernel
theorem dP_floorOfLeast_22 : decode cP_floorOfLeast 22 = .ok (.iload_n 0, 1) := by decide +kernel
theorem dP_floorOfLeast_23 : decode cP_floorOfLeast 23 = .ok (.iload_n 1, 1) := by decide +kernel
theorem dP_floorOfLeast_24 : decode cP_floorOfLeast 24 = .ok (.iload_n 0, 1) := by decide +kernel
theorem dP_floorOfLeast_25 : decode cP_floorOfLeast 25 = .ok (.isub, 1) := by decide +kernel
theorem dP_floorOfLeast_26 : decode cP_floorOfLeast 26 = .ok (.ineg, 1) := by decide +kernel
theorem dP_floorOfLeast_27 : decode cP_floorOfLeast 27 = .ok (.iload_n 1, 1) := by decide +kernel
theorem dP_floorOfLeast_28 : decode cP_floorOfLeast 28 = .ok (.iload_n 0, 1) := by decide +kernel
theorem dP_floorOfLeast_29 : decode cP_floorOfLeast 29 = .ok (.isub, 1) := by decide +kernel
theorem dP_floorOfLeast_30 : decode cP_floorOfLeast 30 = .ok (.imul, 1) := by decide +kernel
theorem dP_floorOfLeast_31 : decode cP_floorOfLeast 31 = .ok (.iload_n 3, 1) := by decide +kernel
theorem dP_floorOfLeast_32 : decode cP_floorOfLeast 32 = .ok (.invokestatic 54, 3) := by decide +kernel
theorem dP_floorOfLeast_35 : decode cP_floorOfLeast 35 = .ok (.iadd, 1) := by decide +kernel
theorem dP_floorOfLeast_36 : decode cP_floorOfLeast 36 = .ok (.ireturn, 1) := by decide +kernel
theorem dP_floorOfLeast_37 : decode cP_floorOfLeast 37 = .ok (.iload_n 0, 1) := by decide +kernel
theorem dP_floorOfLeast_38 : decode cP_floorOfLeast 38 = .ok (.iload_n 2, 1) := by decide +kernel
theorem dP_floorOfLeast_39 : decode cP_floorOfLeast 39 = .ok (.invokestatic 60, 3) := by decide +kernel
theorem dP_floorOfLeast_42 : decode cP_floorOfLeast 42 = .ok (.ireturn, 1) := by decide +kernel
end
section
/-! decode rows -/
theorem dL_init_0 : decode cL_init 0 = .ok (.aload_n 0, 1) := by decide +kernel
theorem dL_init_1 : decode cL_init 1 = .ok (.invokespecial 3, 3) := by decide +kernel
theorem dL_init_4 : decode cL_init 4 = .ok (.return_, 1) := by decide +kernel
theorem dL_take_0 : decode cL_take 0 = .ok (.aload_n 1, 1) := by decide +kernel
theorem dL_take_1 : decode cL_take 1 = .ok (.getfield 9, 3) := by decide +kernel
theorem dL_take_4 : decode cL_take 4 = .ok (.i2l, 1) := by decide +kernel
theorem dL_take_5 : decode cL_take 5 = .ok (.lstore 4, 2) := by decide +kernel
theorem dL_take_7 : decode cL_take 7 = .ok (.aload_n 1, 1) := by decide +kernel
theorem dL_take_8 : decode cL_take 8 = .ok (.getfield 15, 3) := by decide +kernel
theorem dL_take_11 : decode cL_take 11 = .ok (.i2l, 1) := by decide +kernel
theorem dL_take_12 : decode cL_take 12 = .ok (.lstore 6, 2) := by decide +kernel
theorem dL_take_14 : decode cL_take 14 = .ok (.aload_n 1, 1) := by decide +kernel
theorem dL_take_15 : decode cL_take 15 = .ok (.getfield 18, 3) := by decide +kernel
theorem dL_take_18 : decode cL_take 18 = .ok (.i2l, 1) := by decide +kernel
theorem dL_take_19 : decode cL_take 19 = .ok (.lstore 8, 2) := by decide +kernel
theorem dL_take_21 : decode cL_take 21 = .ok (.aload_n 1, 1) := by decide +kernel
theorem dL_take_22 : decode cL_take 22 = .ok (.getfield 21, 3) := by decide +kernel
theorem dL_take_25 : decode cL_take 25 = .ok (.i2l, 1) := by decide +kernel
theorem dL_take_26 : decode cL_take 26 = .ok (.lstore 10, 2) := by decide +kernel
theorem dL_take_28 : decode cL_take 28 = .ok (.aload_n 1, 1) := by decide +kernel
theorem dL_take_29 : decode cL_take 29 = .ok (.getfield 24, 3) := by decide +kernel
theorem dL_take_32 : decode cL_take 32 = .ok (.iload_n 2, 1) := by decide +kernel
theorem dL_take_33 : decode cL_take 33 = .ok (.isub, 1) := by decide +kernel
theorem dL_take_34 : decode cL_take 34 = .ok (.i2l, 1) := by decide +kernel
theorem dL_take_35 : decode cL_take 35 = .ok (.lstore 12, 2) := by decide +kernel
theorem dL_take_37 : decode cL_take 37 = .ok (.lload 8, 2) := by decide +kernel
theorem dL_take_39 : decode cL_take 39 = .ok (.lconst 0, 1) := by decide +kernel
theorem dL_take_40 : decode cL_take 40 = .ok (.lcmp, 1) := by decide +kernel
theorem dL_take_41 : decode cL_take 41 = .ok (.ifCond .ne 57, 3) := by decide +kernel
theorem dL_take_44 : decode cL_take 44 = .ok (.aload_n 0, 1) := by decide +kernel
theorem dL_take_45 : decode cL_take 45 = .ok (.lconst 0, 1) := by decide +kernel
theorem dL_take_46 : decode cL_take 46 = .ok (.putfield 27, 3) := by decide +kernel
theorem dL_take_49 : decode cL_take 49 = .ok (.aload_n 0, 1) := by decide +kernel
theorem dL_take_50 : decode cL_take 50 = .ok (.lconst 0, 1) := by decide +kernel
theorem dL_take_51 : decode cL_take 51 = .ok (.putfield 33, 3) := by decide +kernel
theorem dL_take_54 : decode cL_take 54 = .ok (.aload_n 0, 1) := by decide +kernel
theorem dL_take_55 : decode cL_take 55 = .ok (.lload 10, 2) := by decide +kernel
theorem dL_take_57 : decode cL_take 57 = .ok (.lload 10, 2) := by decide +kernel
theorem dL_take_59 : decode cL_take 59 = .ok (.lmul, 1) := by decide +kernel
theorem dL_take_60 : decode cL_take 60 = .ok (.putfield 36, 3) := by decide +kernel
theorem dL_take_63 : decode cL_take 63 = .ok (.aload_n 0, 1) := by decide +kernel
theorem dL_take_64 : decode cL_take 64 = .ok (.lload 4, 2) := by decide +kernel
theorem dL_take_66 : decode cL_take 66 = .ok (.lload 12, 2) := by decide +kernel
theorem dL_take_68 : decode cL_take 68 = .ok (.lmul, 1) := by decide +kernel
theorem dL_take_69 : decode cL_take 69 = .ok (.lload 12, 2) := by decide +kernel
theorem dL_take_71 : decode cL_take 71 = .ok (.lmul, 1) := by decide +kernel
theorem dL_take_72 : decode cL_take 72 = .ok (.lload 6, 2) := by decide +kernel
theorem dL_take_74 : decode cL_take 74 = .ok (.lload 10, 2) := by decide +kernel
theorem dL_take_76 : decode cL_take 76 = .ok (.lmul, 1) := by decide +kernel
theorem dL_take_77 : decode cL_take 77 = .ok (.lload 12, 2) := by decide +kernel
theorem dL_take_79 : decode cL_take 79 = .ok (.lmul, 1) := by decide +kernel
theorem dL_take_80 : decode cL_take 80 = .ok (.lsub, 1) := by decide +kernel
theorem dL_take_81 : decode cL_take 81 = .ok (.aload_n 0, 1) := by decide +kernel
theorem dL_take_82 : decode cL_take 82 = .ok (.getfield 36, 3) := by decide +kernel
theorem dL_take_85 : decode cL_take 85 = .ok (.aload_n 1, 1) := by decide +kernel
theorem dL_take_86 : decode cL_take 86 = .ok (.getfield 39, 3) := by decide +kernel
theorem dL_take_89 : decode cL_take 89 = .ok (.i2l, 1) := by decide +kernel
theorem dL_take_90 : decode cL_take 90 = .ok (.lmul, 1) := by decide +kernel
theorem dL_take_91 : decode cL_take 91 = .ok (.ladd, 1) := by decide +kernel
theorem dL_take_92 : decode cL_take 92 = .ok (.putfield 42, 3) := by decide +kernel
theorem dL_take_95 : decode cL_take 95 = .ok (.goto 88, 3) := by decide +kernel
theorem dL_take_98 : decode cL_take 98 = .ok (.lload 8, 2) := by decide +kernel
theorem dL_take_100 : decode cL_take 100 = .ok (.lload 6, 2) := by decide +kernel
theorem dL_take_102 : decode cL_take 102 = .ok (.lmul, 1) := by decide +kernel
theorem dL_take_103 : decode cL_take 103 = .ok (.lload 4, 2) := by decide +kernel
theorem dL_take_105 : decode cL_take 105 = .ok (.lload 10, 2) := by decide +kernel
theorem dL_take_107 : decode cL_take 107 = .ok (.lmul, 1) := by decide +kernel
theorem dL_take_108 : decode cL_take 108 = .ok (.lsub, 1) := by decide +kernel
theorem dL_take_109 : decode cL_take 109 = .ok (.lstore 14, 2) := by decide +kernel
theorem dL_take_111 : decode cL_take 111 = .ok (.aload_n 0, 1) := by decide +kernel
theorem dL_take_112 : decode cL_take 112 = .ok (.iload_n 3, 1) := by decide +kernel
theorem dL_take_113 : decode cL_take 113 = .ok (.ifCond .eq 8, 3) := by decide +kernel
theorem dL_take_116 : decode cL_take 116 = .ok (.lload 14, 2) := by decide +kernel
theorem dL_take_118 : decode cL_take 118 = .ok (.goto 6, 3) := by decide +kernel
theorem dL_take_121 : decode cL_take 121 = .ok (.lload 14, 2) := by decide +kernel
theorem dL_take_123 : decode cL_take 123 = .ok (.lneg, 1) := by decide +kernel
theorem dL_take_124 : decode cL_take 124 = .ok (.putfield 27, 3) := by decide +kernel
theorem dL_take_127 : decode cL_take 127 = .ok (.aload_n 0, 1) := by decide +kernel
theorem dL_take_128 : decode cL_take 128 = .ok (.aload_n 1, 1) := by decide +kernel
theorem dL_take_129 : decode cL_take 129 = .ok (.iload_n 2, 1) := by decide +kernel
theorem dL_take_130 : decode cL_take 130 = .ok (.invokevirtual 45, 3) := by decide +kernel
theorem dL_take_133 : decode cL_take 133 = .ok (.putfield 33, 3) := by decide +kernel
theorem dL_take_136 : decode cL_take 136 = .ok (.aload_n 0, 1) := by decide +kernel
theorem dL_take_137 : decode cL_take 137 = .ok (.ldc2_w 49, 3) := by decide +kernel
theorem dL_take_140 : decode cL_take 140 = .ok (.lload 8, 2) := by decide +kernel
theorem dL_take_142 : decode cL_take 142 = .ok (.lmul, 1) := by decide +kernel
theorem dL_take_143 : decode cL_take 143 = .ok (.lload 8, 2) := by decide +kernel
theorem dL_take_145 : decode cL_take 145 = .ok (.lmul, 1) := by decide +kernel
theorem dL_take_146 : decode cL_take 146 = .ok (.putfield 36, 3) := by decide +kernel
theorem dL_take_149 : decode cL_take 149 = .ok (.aload_n 0, 1) := by decide +kernel
theorem dL_take_150 : decode cL_take 150 = .ok (.lload 14, 2) := by decide +kernel
theorem dL_take_152 : decode cL_take 152 = .ok (.lneg, 1) := by decide +kernel
theorem dL_take_153 : decode cL_take 153 = .ok (.lload 10, 2) := by decide +kernel
theorem dL_take_155 : decode cL_take 155 = .ok (.lmul, 1) := by decide +kernel
theorem dL_take_156 : decode cL_take 156 = .ok (.ldc2_w 49, 3) := by decide +kernel
theorem dL_take_159 : decode cL_take 159 = .ok (.lload 8, 2) := by decide +kernel
theorem dL_take_161 : decode cL_take 161 = .ok (.lmul, 1) := by decide +kernel
theorem dL_take_162 : decode cL_take 162 = .ok (.lload 4, 2) := by decide +kernel
theorem dL_take_164 : decode cL_take 164 = .ok (.lmul, 1) := by decide +kernel
theorem dL_take_165 : decode cL_take 165 = .ok (.lload 12, 2) := by decide +kernel
theorem dL_take_167 : decode cL_take 167 = .ok (.lmul, 1) := by decide +kernel
theorem dL_take_168 : decode cL_take 168 = .ok (.lsub, 1) := by decide +kernel
theorem dL_take_169 : decode cL_take 169 = .ok (.aload_n 0, 1) := by decide +kernel
theorem dL_take_170 : decode cL_take 170 = .ok (.getfield 36, 3) := by decide +kernel
theorem dL_take_173 : decode cL_take 173 = .ok (.aload_n 1, 1) := by decide +kernel
theorem dL_take_174 : decode cL_take 174 = .ok (.getfield 39, 3) := by decide +kernel
theorem dL_take_177 : decode cL_take 177 = .ok (.i2l, 1) := by decide +kernel
theorem dL_take_178 : decode cL_take 178 = .ok (.lmul, 1) := by decide +kernel
theorem dL_take_179 : decode cL_take 179 = .ok (.ladd, 1) := by decide +kernel
theorem dL_take_180 : decode cL_take 180 = .ok (.putfield 42, 3) := by decide +kernel
theorem dL_take_183 : decode cL_take 183 = .ok (.return_, 1) := by decide +kernel
theorem dL_pointsLeft_0 : decode cL_pointsLeft 0 = .ok (.iconst 0, 1) := by decide +kernel
theorem dL_pointsLeft_1 : decode cL_pointsLeft 1 = .ok (.istore 4, 2) := by decide +kernel
theorem dL_pointsLeft_3 : decode cL_pointsLeft 3 = .ok (.bipush 64, 2) := by decide +kernel
theorem dL_pointsLeft_5 : decode cL_pointsLeft 5 = .ok (.istore 5, 2) := by decide +kernel
theorem dL_pointsLeft_7 : decode cL_pointsLeft 7 = .ok (.iload 5, 2) := by decide +kernel
theorem dL_pointsLeft_9 : decode cL_pointsLeft 9 = .ok (.ifCond .le 46, 3) := by decide +kernel
theorem dL_pointsLeft_12 : decode cL_pointsLeft 12 = .ok (.iload 4, 2) := by decide +kernel
theorem dL_pointsLeft_14 : decode cL_pointsLeft 14 = .ok (.iload 5, 2) := by decide +kernel
theorem dL_pointsLeft_16 : decode cL_pointsLeft 16 = .ok (.iadd, 1) := by decide +kernel
theorem dL_pointsLeft_17 : decode cL_pointsLeft 17 = .ok (.iload_n 3, 1) := by decide +kernel
theorem dL_pointsLeft_18 : decode cL_pointsLeft 18 = .ok (.if_icmp .gt 28, 3) := by decide +kernel
theorem dL_pointsLeft_21 : decode cL_pointsLeft 21 = .ok (.aload_n 0, 1) := by decide +kernel
theorem dL_pointsLeft_22 : decode cL_pointsLeft 22 = .ok (.iload_n 1, 1) := by decide +kernel
theorem dL_pointsLeft_23 : decode cL_pointsLeft 23 = .ok (.iload_n 2, 1) := by decide +kernel
theorem dL_pointsLeft_24 : decode cL_pointsLeft 24 = .ok (.iload 4, 2) := by decide +kernel
theorem dL_pointsLeft_26 : decode cL_pointsLeft 26 = .ok (.iload 5, 2) := by decide +kernel
theorem dL_pointsLeft_28 : decode cL_pointsLeft 28 = .ok (.iadd, 1) := by decide +kernel
theorem dL_pointsLeft_29 : decode cL_pointsLeft 29 = .ok (.iconst 1, 1) := by decide +kernel
theorem dL_pointsLeft_30 : decode cL_pointsLeft 30 = .ok (.isub, 1) := by decide +kernel
theorem dL_pointsLeft_31 : decode cL_pointsLeft 31 = .ok (.imul, 1) := by decide +kernel
theorem dL_pointsLeft_32 : decode cL_pointsLeft 32 = .ok (.iadd, 1) := by decide +kernel
theorem dL_pointsLeft_33 : decode cL_pointsLeft 33 = .ok (.invokevirtual 51, 3) := by decide +kernel
theorem dL_pointsLeft_36 : decode cL_pointsLeft 36 = .ok (.ifCond .eq 10, 3) := by decide +kernel
theorem dL_pointsLeft_39 : decode cL_pointsLeft 39 = .ok (.iload 4, 2) := by decide +kernel
theorem dL_pointsLeft_41 : decode cL_pointsLeft 41 = .ok (.iload 5, 2) := by decide +kernel
theorem dL_pointsLeft_43 : decode cL_pointsLeft 43 = .ok (.iadd, 1) := by decide +kernel
theorem dL_pointsLeft_44 : decode cL_pointsLeft 44 = .ok (.istore 4, 2) := by decide +kernel
theorem dL_pointsLeft_46 : decode cL_pointsLeft 46 = .ok (.iload 5, 2) := by decide +kernel
theorem dL_pointsLeft_48 : decode cL_pointsLeft 48 = .ok (.iconst 2, 1) := by decide +kernel
theorem dL_pointsLeft_49 : decode cL_pointsLeft 49 = .ok (.idiv, 1) := by decide +kernel
theorem dL_pointsLeft_50 : decode cL_pointsLeft 50 = .ok (.istore 5, 2) := by decide +kernel
theorem dL_pointsLeft_52 : decode cL_pointsLeft 52 = .ok (.goto (-45), 3) := by decide +kernel
theorem dL_pointsLeft_55 : decode cL_pointsLeft 55 = .ok (.iload 4, 2) := by decide +kernel
theorem dL_pointsLeft_57 : decode cL_pointsLeft 57 = .ok (.ireturn, 1) := by decide +kernel
theorem dL_isRightOf_0 : decode cL_isRightOf 0 = .ok (.aload_n 0, 1) := by decide +kernel
theorem dL_isRightOf_1 : decode cL_isRightOf 1 = .ok (.getfield 42, 3) := by decide +kernel
theorem dL_isRightOf_4 : decode cL_isRightOf 4 = .ok (.aload_n 0, 1) := by decide +kernel
theorem dL_isRightOf_5 : decode cL_isRightOf 5 = .ok (.getfield 36, 3) := by decide +kernel
theorem dL_isRightOf_8 : decode cL_isRightOf 8 = .ok (.iload_n 1, 1) := by decide +kernel
theorem dL_isRightOf_9 : decode cL_isRightOf 9 = .ok (.i2l, 1) := by decide +kernel
theorem dL_isRightOf_10 : decode cL_isRightOf 10 = .ok (.lmul, 1) := by decide +kernel
theorem dL_isRightOf_11 : decode cL_isRightOf 11 = .ok (.lsub, 1) := by decide +kernel
theorem dL_isRightOf_12 : decode cL_isRightOf 12 = .ok (.lstore_n 2, 1) := by decide +kernel
theorem dL_isRightOf_13 : decode cL_isRightOf 13 = .ok (.aload_n 0, 1) := by decide +kernel
theorem dL_isRightOf_14 : decode cL_isRightOf 14 = .ok (.getfield 27, 3) := by decide +kernel
theorem dL_isRightOf_17 : decode cL_isRightOf 17 = .ok (.lconst 0, 1) := by decide +kernel
theorem dL_isRightOf_18 : decode cL_isRightOf 18 = .ok (.lcmp, 1) := by decide +kernel
theorem dL_isRightOf_19 : decode cL_isRightOf 19 = .ok (.ifCond .eq 12, 3) := by decide +kernel
theorem dL_isRightOf_22 : decode cL_isRightOf 22 = .ok (.aload_n 0, 1) := by decide +kernel
theorem dL_isRightOf_23 : decode cL_isRightOf 23 = .ok (.getfield 33, 3) := by decide +kernel
theorem dL_isRightOf_26 : decode cL_isRightOf 26 = .ok (.lconst 0, 1) := by decide +kernel
theorem dL_isRightOf_27 : decode cL_isRightOf 27 = .ok (.lcmp, 1) := by decide +kernel
theorem dL_isRightOf_28 : decode cL_isRightOf 28 = .ok (.ifCond .gt 15, 3) := by decide +kernel
theorem dL_isRightOf_31 : decode cL_isRightOf 31 = .ok (.lload_n 2, 1) := by decide +kernel
theorem dL_isRightOf_32 : decode cL_isRightOf 32 = .ok (.lconst 0, 1) := by decide +kernel
theorem dL_isRightOf_33 : decode cL_isRightOf 33 = .ok (.lcmp, 1) := by decide +kernel
theorem dL_isRightOf_34 : decode cL_isRightOf 34 = .ok (.ifCond .le 7, 3) := by decide +kernel
theorem dL_isRightOf_37 : decode cL_isRightOf 37 = .ok (.iconst 1, 1) := by decide +kernel
theorem dL_isRightOf_38 : decode cL_isRightOf 38 = .ok (.goto 4, 3) := by decide +kernel
theorem dL_isRightOf_41 : decode cL_isRightOf 41 = .ok (.iconst 0, 1) := by decide +kernel
theorem dL_isRightOf_42 : decode cL_isRightOf 42 = .ok (.ireturn, 1) := by decide +kernel
theorem dL_isRightOf_43 : decode cL_isRightOf 43 = .ok (.aload_n 0, 1) := by decide +kernel
theorem dL_isRightOf_44 : decode cL_isRightOf 44 = .ok (.getfield 27, 3) := by decide +kernel
theorem dL_isRightOf_47 : decode cL_isRightOf 47 = .ok (.lconst 0, 1) := by decide +kernel
theorem dL_isRightOf_48 : decode cL_isRightOf 48 = .ok (.lcmp, 1) := by decide +kernel
theorem dL_isRightOf_49 : decode cL_isRightOf 49 = .ok (.ifCond .le 30, 3) := by decide +kernel
theorem dL_isRightOf_52 : decode cL_isRightOf 52 = .ok (.lload_n 2, 1) := by decide +kernel
theorem dL_isRightOf_53 : decode cL_isRightOf 53 = .ok (.lconst 0, 1) := by decide +kernel
theorem dL_isRightOf_54 : decode cL_isRightOf 54 = .ok (.lcmp, 1) := by decide +kernel
theorem dL_isRightOf_55 : decode cL_isRightOf 55 = .ok (.ifCond .ge 18, 3) := by decide +kernel
theorem dL_isRightOf_58 : decode cL_isRightOf 58 = .ok (.aload_n 0, 1) := by decide +kernel
theorem dL_isRightOf_59 : decode cL_isRightOf 59 = .ok (.lload_n 2, 1) := by decide +kernel
theorem dL_isRightOf_60 : decode cL_isRightOf 60 = .ok (.lneg, 1) := by decide +kernel
theorem dL_isRightOf_61 : decode cL_isRightOf 61 = .ok (.aload_n 0, 1) := by decide +kernel
theorem dL_isRightOf_62 : decode cL_isRightOf 62 = .ok (.getfield 27, 3) := by decide +kernel
theorem dL_isRightOf_65 : decode cL_isRightOf 65 = .ok (.invokevirtual 55, 3) := by decide +kernel
theorem dL_isRightOf_68 : decode cL_isRightOf 68 = .ok (.lconst 0, 1) := by decide +kernel
theorem dL_isRightOf_69 : decode cL_isRightOf 69 = .ok (.lcmp, 1) := by decide +kernel
theorem dL_isRightOf_70 : decode cL_isRightOf 70 = .ok (.ifCond .ge 7, 3) := by decide +kernel
theorem dL_isRightOf_73 : decode cL_isRightOf 73 = .ok (.iconst 1, 1) := by decide +kernel
theorem dL_isRightOf_74 : decode cL_isRightOf 74 = .ok (.goto 4, 3) := by decide +kernel
theorem dL_isRightOf_77 : decode cL_isRightOf 77 = .ok (.iconst 0, 1) := by decide +kernel
theorem dL_isRightOf_78 : decode cL_isRightOf 78 = .ok (.ireturn, 1) := by decide +kernel
theorem dL_isRightOf_79 : decode cL_isRightOf 79 = .ok (.lload_n 2, 1) := by decide +kernel
theorem dL_isRightOf_80 : decode cL_isRightOf 80 = .ok (.lconst 0, 1) := by decide +kernel
theorem dL_isRightOf_81 : decode cL_isRightOf 81 = .ok (.lcmp, 1) := by decide +kernel
theorem dL_isRightOf_82 : decode cL_isRightOf 82 = .ok (.ifCond .le 22, 3) := by decide +kernel
theorem dL_isRightOf_85 : decode cL_isRightOf 85 = .ok (.aload_n 0, 1) := by decide +kernel
theorem dL_isRightOf_86 : decode cL_isRightOf 86 = .ok (.lload_n 2, 1) := by decide +kernel
theorem dL_isRightOf_87 : decode cL_isRightOf 87 = .ok (.aload_n 0, 1) := by decide +kernel
theorem dL_isRightOf_88 : decode cL_isRightOf 88 = .ok (.getfield 27, 3) := by decide +kernel
theorem dL_isRightOf_91 : decode cL_isRightOf 91 = .ok (.lneg, 1) := by decide +kernel
theorem dL_isRightOf_92 : decode cL_isRightOf 92 = .ok (.invokevirtual 55, 3) := by decide +kernel
theorem dL_isRightOf_95 : decode cL_isRightOf 95 = .ok (.lconst 0, 1) := by decide +kernel
theorem dL_isRightOf_96 : decode cL_isRightOf 96 = .ok (.lcmp, 1) := by decide +kernel
theorem dL_isRightOf_97 : decode cL_isRightOf 97 = .ok (.ifCond .le 7, 3) := by decide +kernel
theorem dL_isRightOf_100 : decode cL_isRightOf 100 = .ok (.iconst 1, 1) := by decide +kernel
theorem dL_isRightOf_101 : decode cL_isRightOf 101 = .ok (.goto 4, 3) := by decide +kernel
theorem dL_isRightOf_104 : decode cL_isRightOf 104 = .ok (.iconst 0, 1) := by decide +kernel
theorem dL_isRightOf_105 : decode cL_isRightOf 105 = .ok (.ireturn, 1) := by decide +kernel
theorem dL_compareToRoot_0 : decode cL_compareToRoot 0 = .ok (.lload_n 3, 1) := by decide +kernel
theorem dL_compareToRoot_1 : decode cL_compareToRoot 1 = .ok (.lconst 0, 1) := by decide +kernel
theorem dL_compareToRoot_2 : decode cL_compareToRoot 2 = .ok (.lcmp, 1) := by decide +kernel
theorem dL_compareToRoot_3 : decode cL_compareToRoot 3 = .ok (.ifCond .gt 5, 3) := by decide +kernel
theorem dL_compareToRoot_6 : decode cL_compareToRoot 6 = .ok (.lconst 1, 1) := by decide +kernel
theorem dL_compareToRoot_7 : decode cL_compareToRoot 7 = .ok (.lreturn, 1) := by decide +kernel
theorem dL_compareToRoot_8 : decode cL_compareToRoot 8 = .ok (.lload_n 1, 1) := by decide +kernel
theorem dL_compareToRoot_9 : decode cL_compareToRoot 9 = .ok (.lload_n 3, 1) := by decide +kernel
theorem dL_compareToRoot_10 : decode cL_compareToRoot 10 = .ok (.ldiv, 1) := by decide +kernel
theorem dL_compareToRoot_11 : decode cL_compareToRoot 11 = .ok (.lstore 5, 2) := by decide +kernel
theorem dL_compareToRoot_13 : decode cL_compareToRoot 13 = .ok (.lload_n 1, 1) := by decide +kernel
theorem dL_compareToRoot_14 : decode cL_compareToRoot 14 = .ok (.lload_n 3, 1) := by decide +kernel
theorem dL_compareToRoot_15 : decode cL_compareToRoot 15 = .ok (.lrem, 1) := by decide +kernel
theorem dL_compareToRoot_16 : decode cL_compareToRoot 16 = .ok (.lstore 7, 2) := by decide +kernel
theorem dL_compareToRoot_18 : decode cL_compareToRoot 18 = .ok (.lload 5, 2) := by decide +kernel
theorem dL_compareToRoot_20 : decode cL_compareToRoot 20 = .ok (.ldc2_w 59, 3) := by decide +kernel
theorem dL_compareToRoot_23 : decode cL_compareToRoot 23 = .ok (.lcmp, 1) := by decide +kernel
theorem dL_compareToRoot_24 : decode cL_compareToRoot 24 = .ok (.ifCond .le 5, 3) := by decide +kernel
theorem dL_compareToRoot_27 : decode cL_compareToRoot 27 = .ok (.lconst 1, 1) := by decide +kernel
theorem dL_compareToRoot_28 : decode cL_compareToRoot 28 = .ok (.lreturn, 1) := by decide +kernel
theorem dL_compareToRoot_29 : decode cL_compareToRoot 29 = .ok (.aload_n 0, 1) := by decide +kernel
theorem dL_compareToRoot_30 : decode cL_compareToRoot 30 = .ok (.getfield 33, 3) := by decide +kernel
theorem dL_compareToRoot_33 : decode cL_compareToRoot 33 = .ok (.lload 5, 2) := by decide +kernel
theorem dL_compareToRoot_35 : decode cL_compareToRoot 35 = .ok (.lload 5, 2) := by decide +kernel
theorem dL_compareToRoot_37 : decode cL_compareToRoot 37 = .ok (.lmul, 1) := by decide +kernel
theorem dL_compareToRoot_38 : decode cL_compareToRoot 38 = .ok (.lsub, 1) := by decide +kernel
theorem dL_compareToRoot_39 : decode cL_compareToRoot 39 = .ok (.lload_n 3, 1) := by decide +kernel
theorem dL_compareToRoot_40 : decode cL_compareToRoot 40 = .ok (.lmul, 1) := by decide +kernel
theorem dL_compareToRoot_41 : decode cL_compareToRoot 41 = .ok (.ldc2_w 49, 3) := by decide +kernel
theorem dL_compareToRoot_44 : decode cL_compareToRoot 44 = .ok (.lload 5, 2) := by decide +kernel
theorem dL_compareToRoot_46 : decode cL_compareToRoot 46 = .ok (.lmul, 1) := by decide +kernel
theorem dL_compareToRoot_47 : decode cL_compareToRoot 47 = .ok (.lload 7, 2) := by decide +kernel
theorem dL_compareToRoot_49 : decode cL_compareToRoot 49 = .ok (.lmul, 1) := by decide +kernel
theorem dL_compareToRoot_50 : decode cL_compareToRoot 50 = .ok (.lsub, 1) := by decide +kernel
theorem dL_compareToRoot_51 : decode cL_compareToRoot 51 = .ok (.lstore 9, 2) := by decide +kernel
theorem dL_compareToRoot_53 : decode cL_compareToRoot 53 = .ok (.lload 9, 2) := by decide +kernel
theorem dL_compareToRoot_55 : decode cL_compareToRoot 55 = .ok (.lconst 0, 1) := by decide +kernel
theorem dL_compareToRoot_56 : decode cL_compareToRoot 56 = .ok (.lcmp, 1) := by decide +kernel
theorem dL_compareToRoot_57 : decode cL_compareToRoot 57 = .ok (.ifCond .ge 5, 3) := by decide +kernel
theorem dL_compareToRoot_60 : decode cL_compareToRoot 60 = .ok (.lconst 1, 1) := by decide +kernel
theorem dL_compareToRoot_61 : decode cL_compareToRoot 61 = .ok (.lreturn, 1) := by decide +kernel
theorem dL_compareToRoot_62 : decode cL_compareToRoot 62 = .ok (.lload 9, 2) := by decide +kernel
theorem dL_compareToRoot_64 : decode cL_compareToRoot 64 = .ok (.lload 7, 2) := by decide +kernel
theorem dL_compareToRoot_66 : decode cL_compareToRoot 66 = .ok (.lcmp, 1) := by decide +kernel
theorem dL_compareToRoot_67 : decode cL_compareToRoot 67 = .ok (.ifCond .le 7, 3) := by decide +kernel
theorem dL_compareToRoot_70 : decode cL_compareToRoot 70 = .ok (.ldc2_w 61, 3) := by decide +kernel
theorem dL_compareToRoot_73 : decode cL_compareToRoot 73 = .ok (.lreturn, 1) := by decide +kernel
theorem dL_compareToRoot_74 : decode cL_compareToRoot 74 = .ok (.lload 7, 2) := by decide +kernel
theorem dL_compareToRoot_76 : decode cL_compareToRoot 76 = .ok (.lload 7, 2) := by decide +kernel
theorem dL_compareToRoot_78 : decode cL_compareToRoot 78 = .ok (.lmul, 1) := by decide +kernel
theorem dL_compareToRoot_79 : decode cL_compareToRoot 79 = .ok (.lload 9, 2) := by decide +kernel
theorem dL_compareToRoot_81 : decode cL_compareToRoot 81 = .ok (.lload_n 3, 1) := by decide +kernel
theorem dL_compareToRoot_82 : decode cL_compareToRoot 82 = .ok (.lmul, 1) := by decide +kernel
theorem dL_compareToRoot_83 : decode cL_compareToRoot 83 = .ok (.lsub, 1) := by decide +kernel
theorem dL_compareToRoot_84 : decode cL_compareToRoot 84 = .ok (.lreturn, 1) := by decide +kernel
end
section
/-! decode rows -/
theorem dC_init_0 : decode cC_init 0 = .ok (.aload_n 0, 1) := by decide +kernel
theorem dC_init_1 : decode cC_init 1 = .ok (.invokespecial 1, 3) := by decide +kernel
theorem dC_init_4 : decode cC_init 4 = .ok (.aload_n 0, 1) := by decide +kernel
theorem dC_init_5 : decode cC_init 5 = .ok (.sipush 512, 3) := by decide +kernel
theorem dC_init_8 : decode cC_init 8 = .ok (.newarray .int, 2) := by decide +kernel
theorem dC_init_10 : decode cC_init 10 = .ok (.putfield 9, 3) := by decide +kernel
theorem dC_init_13 : decode cC_init 13 = .ok (.aload_n 0, 1) := by decide +kernel
theorem dC_init_14 : decode cC_init 14 = .ok (.sipush 512, 3) := by decide +kernel
theorem dC_init_17 : decode cC_init 17 = .ok (.newarray .int, 2) := by decide +kernel
theorem dC_init_19 : decode cC_init 19 = .ok (.putfield 13, 3) := by decide +kernel
theorem dC_init_22 : decode cC_init 22 = .ok (.aload_n 0, 1) := by decide +kernel
theorem dC_init_23 : decode cC_init 23 = .ok (.sipush 512, 3) := by decide +kernel
theorem dC_init_26 : decode cC_init 26 = .ok (.newarray .boolean, 2) := by decide +kernel
theorem dC_init_28 : decode cC_init 28 = .ok (.putfield 16, 3) := by decide +kernel
theorem dC_init_31 : decode cC_init 31 = .ok (.aload_n 0, 1) := by decide +kernel
theorem dC_init_32 : decode cC_init 32 = .ok (.sipush 512, 3) := by decide +kernel
theorem dC_init_35 : decode cC_init 35 = .ok (.anewarray 20, 3) := by decide +kernel
theorem dC_init_38 : decode cC_init 38 = .ok (.putfield 22, 3) := by decide +kernel
theorem dC_init_41 : decode cC_init 41 = .ok (.aload_n 0, 1) := by decide +kernel
theorem dC_init_42 : decode cC_init 42 = .ok (.bipush 65, 2) := by decide +kernel
theorem dC_init_44 : decode cC_init 44 = .ok (.newarray .int, 2) := by decide +kernel
theorem dC_init_46 : decode cC_init 46 = .ok (.putfield 26, 3) := by decide +kernel
theorem dC_init_49 : decode cC_init 49 = .ok (.aload_n 0, 1) := by decide +kernel
theorem dC_init_50 : decode cC_init 50 = .ok (.new 29, 3) := by decide +kernel
theorem dC_init_53 : decode cC_init 53 = .ok (.dup, 1) := by decide +kernel
theorem dC_init_54 : decode cC_init 54 = .ok (.invokespecial 31, 3) := by decide +kernel
theorem dC_init_57 : decode cC_init 57 = .ok (.putfield 32, 3) := by decide +kernel
theorem dC_init_60 : decode cC_init 60 = .ok (.aload_n 0, 1) := by decide +kernel
theorem dC_init_61 : decode cC_init 61 = .ok (.iconst 0, 1) := by decide +kernel
theorem dC_init_62 : decode cC_init 62 = .ok (.putfield 36, 3) := by decide +kernel
theorem dC_init_65 : decode cC_init 65 = .ok (.aload_n 0, 1) := by decide +kernel
theorem dC_init_66 : decode cC_init 66 = .ok (.iconst 0, 1) := by decide +kernel
theorem dC_init_67 : decode cC_init 67 = .ok (.putfield 40, 3) := by decide +kernel
theorem dC_init_70 : decode cC_init 70 = .ok (.aload_n 0, 1) := by decide +kernel
theorem dC_init_71 : decode cC_init 71 = .ok (.iconst 0, 1) := by decide +kernel
theorem dC_init_72 : decode cC_init 72 = .ok (.putfield 43, 3) := by decide +kernel
theorem dC_init_75 : decode cC_init 75 = .ok (.aload_n 0, 1) := by decide +kernel
theorem dC_init_76 : decode cC_init 76 = .ok (.iconst 0, 1) := by decide +kernel
theorem dC_init_77 : decode cC_init 77 = .ok (.putfield 46, 3) := by decide +kernel
theorem dC_init_80 : decode cC_init 80 = .ok (.return_, 1) := by decide +kernel
theorem dC_drop_0 : decode cC_drop 0 = .ok (.aload_n 0, 1) := by decide +kernel
theorem dC_drop_1 : decode cC_drop 1 = .ok (.getfield 40, 3) := by decide +kernel
theorem dC_drop_4 : decode cC_drop 4 = .ok (.aload_n 0, 1) := by decide +kernel
theorem dC_drop_5 : decode cC_drop 5 = .ok (.getfield 43, 3) := by decide +kernel
theorem dC_drop_8 : decode cC_drop 8 = .ok (.isub, 1) := by decide +kernel
theorem dC_drop_9 : decode cC_drop 9 = .ok (.istore_n 1, 1) := by decide +kernel
theorem dC_drop_10 : decode cC_drop 10 = .ok (.aload_n 0, 1) := by decide +kernel
theorem dC_drop_11 : decode cC_drop 11 = .ok (.aload_n 0, 1) := by decide +kernel
theorem dC_drop_12 : decode cC_drop 12 = .ok (.getfield 43, 3) := by decide +kernel
theorem dC_drop_15 : decode cC_drop 15 = .ok (.putfield 40, 3) := by decide +kernel
theorem dC_drop_18 : decode cC_drop 18 = .ok (.iload_n 1, 1) := by decide +kernel
theorem dC_drop_19 : decode cC_drop 19 = .ok (.ireturn, 1) := by decide +kernel
theorem dC_clear_0 : decode cC_clear 0 = .ok (.aload_n 0, 1) := by decide +kernel
theorem dC_clear_1 : decode cC_clear 1 = .ok (.getfield 36, 3) := by decide +kernel
theorem dC_clear_4 : decode cC_clear 4 = .ok (.istore_n 1, 1) := by decide +kernel
theorem dC_clear_5 : decode cC_clear 5 = .ok (.aload_n 0, 1) := by decide +kernel
theorem dC_clear_6 : decode cC_clear 6 = .ok (.iconst 0, 1) := by decide +kernel
theorem dC_clear_7 : decode cC_clear 7 = .ok (.putfield 36, 3) := by decide +kernel
theorem dC_clear_10 : decode cC_clear 10 = .ok (.aload_n 0, 1) := by decide +kernel
theorem dC_clear_11 : decode cC_clear 11 = .ok (.iconst 0, 1) := by decide +kernel
theorem dC_clear_12 : decode cC_clear 12 = .ok (.putfield 40, 3) := by decide +kernel
theorem dC_clear_15 : decode cC_clear 15 = .ok (.aload_n 0, 1) := by decide +kernel
theorem dC_clear_16 : decode cC_clear 16 = .ok (.iconst 0, 1) := by decide +kernel
theorem dC_clear_17 : decode cC_clear 17 = .ok (.putfield 43, 3) := by decide +kernel
theorem dC_clear_20 : decode cC_clear 20 = .ok (.iload_n 1, 1) := by decide +kernel
theorem dC_clear_21 : decode cC_clear 21 = .ok (.ireturn, 1) := by decide +kernel
theorem dC_parity_0 : decode cC_parity 0 = .ok (.aload_n 0, 1) := by decide +kernel
theorem dC_parity_1 : decode cC_parity 1 = .ok (.getfield 46, 3) := by decide +kernel
theorem dC_parity_4 : decode cC_parity 4 = .ok (.istore_n 2, 1) := by decide +kernel
theorem dC_parity_5 : decode cC_parity 5 = .ok (.aload_n 0, 1) := by decide +kernel
theorem dC_parity_6 : decode cC_parity 6 = .ok (.iload_n 1, 1) := by decide +kernel
theorem dC_parity_7 : decode cC_parity 7 = .ok (.putfield 46, 3) := by decide +kernel
theorem dC_parity_10 : decode cC_parity 10 = .ok (.iload_n 2, 1) := by decide +kernel
theorem dC_parity_11 : decode cC_parity 11 = .ok (.ireturn, 1) := by decide +kernel
theorem dC_count_0 : decode cC_count 0 = .ok (.iload_n 1, 1) := by decide +kernel
theorem dC_count_1 : decode cC_count 1 = .ok (.tableswitch 62 0 4 #[35, 40, 45, 51, 57], 35) := by decide +kernel
theorem dC_count_36 : decode cC_count 36 = .ok (.aload_n 0, 1) := by decide +kernel
theorem dC_count_37 : decode cC_count 37 = .ok (.getfield 36, 3) := by decide +kernel
theorem dC_count_40 : decode cC_count 40 = .ok (.ireturn, 1) := by decide +kernel
theorem dC_count_41 : decode cC_count 41 = .ok (.aload_n 0, 1) := by decide +kernel
theorem dC_count_42 : decode cC_count 42 = .ok (.getfield 40, 3) := by decide +kernel
theorem dC_count_45 : decode cC_count 45 = .ok (.ireturn, 1) := by decide +kernel
theorem dC_count_46 : decode cC_count 46 = .ok (.aload_n 0, 1) := by decide +kernel
theorem dC_count_47 : decode cC_count 47 = .ok (.iconst 1, 1) := by decide +kernel
theorem dC_count_48 : decode cC_count 48 = .ok (.invokevirtual 80, 3) := by decide +kernel
theorem dC_count_51 : decode cC_count 51 = .ok (.ireturn, 1) := by decide +kernel
theorem dC_count_52 : decode cC_count 52 = .ok (.aload_n 0, 1) := by decide +kernel
theorem dC_count_53 : decode cC_count 53 = .ok (.iconst 0, 1) := by decide +kernel
theorem dC_count_54 : decode cC_count 54 = .ok (.invokevirtual 80, 3) := by decide +kernel
theorem dC_count_57 : decode cC_count 57 = .ok (.ireturn, 1) := by decide +kernel
theorem dC_count_58 : decode cC_count 58 = .ok (.aload_n 0, 1) := by decide +kernel
theorem dC_count_59 : decode cC_count 59 = .ok (.invokevirtual 84, 3) := by decide +kernel
theorem dC_count_62 : decode cC_count 62 = .ok (.ireturn, 1) := by decide +kernel
theorem dC_count_63 : decode cC_count 63 = .ok (.iconst (-1), 1) := by decide +kernel
theorem dC_count_64 : decode cC_count 64 = .ok (.ireturn, 1) := by decide +kernel
theorem dC_countPieces_0 : decode cC_countPieces 0 = .ok (.iconst 0, 1) := by decide +kernel
theorem dC_countPieces_1 : decode cC_countPieces 1 = .ok (.istore_n 2, 1) := by decide +kernel
theorem dC_countPieces_2 : decode cC_countPieces 2 = .ok (.iconst 0, 1) := by decide +kernel
theorem dC_countPieces_3 : decode cC_countPieces 3 = .ok (.istore_n 3, 1) := by decide +kernel
theorem dC_countPieces_4 : decode cC_countPieces 4 = .ok (.iload_n 3, 1) := by decide +kernel
theorem dC_countPieces_5 : decode cC_countPieces 5 = .ok (.aload_n 0, 1) := by decide +kernel
theorem dC_countPieces_6 : decode cC_countPieces 6 = .ok (.getfield 43, 3) := by decide +kernel
theorem dC_countPieces_9 : decode cC_countPieces 9 = .ok (.if_icmp .ge 34, 3) := by decide +kernel
theorem dC_countPieces_12 : decode cC_countPieces 12 = .ok (.aload_n 0, 1) := by decide +kernel
theorem dC_countPieces_13 : decode cC_countPieces 13 = .ok (.getfield 22, 3) := by decide +kernel
theorem dC_countPieces_16 : decode cC_countPieces 16 = .ok (.iload_n 3, 1) := by decide +kernel
theorem dC_countPieces_17 : decode cC_countPieces 17 = .ok (.aaload, 1) := by decide +kernel
theorem dC_countPieces_18 : decode cC_countPieces 18 = .ok (.astore 4, 2) := by decide +kernel
theorem dC_countPieces_20 : decode cC_countPieces 20 = .ok (.aload 4, 2) := by decide +kernel
theorem dC_countPieces_22 : decode cC_countPieces 22 = .ok (.ifnull 15, 3) := by decide +kernel
theorem dC_countPieces_25 : decode cC_countPieces 25 = .ok (.aload 4, 2) := by decide +kernel
theorem dC_countPieces_27 : decode cC_countPieces 27 = .ok (.getfield 166, 3) := by decide +kernel
theorem dC_countPieces_30 : decode cC_countPieces 30 = .ok (.iload_n 1, 1) := by decide +kernel
theorem dC_countPieces_31 : decode cC_countPieces 31 = .ok (.if_icmp .ne 6, 3) := by decide +kernel
theorem dC_countPieces_34 : decode cC_countPieces 34 = .ok (.iinc 2 1, 3) := by decide +kernel
theorem dC_countPieces_37 : decode cC_countPieces 37 = .ok (.iinc 3 1, 3) := by decide +kernel
theorem dC_countPieces_40 : decode cC_countPieces 40 = .ok (.goto (-36), 3) := by decide +kernel
theorem dC_countPieces_43 : decode cC_countPieces 43 = .ok (.iload_n 2, 1) := by decide +kernel
theorem dC_countPieces_44 : decode cC_countPieces 44 = .ok (.ireturn, 1) := by decide +kernel
theorem dC_countSet_0 : decode cC_countSet 0 = .ok (.iconst 0, 1) := by decide +kernel
theorem dC_countSet_1 : decode cC_countSet 1 = .ok (.istore_n 1, 1) := by decide +kernel
theorem dC_countSet_2 : decode cC_countSet 2 = .ok (.iconst 0, 1) := by decide +kernel
theorem dC_countSet_3 : decode cC_countSet 3 = .ok (.istore_n 2, 1) := by decide +kernel
theorem dC_countSet_4 : decode cC_countSet 4 = .ok (.iload_n 2, 1) := by decide +kernel
theorem dC_countSet_5 : decode cC_countSet 5 = .ok (.bipush 64, 2) := by decide +kernel
theorem dC_countSet_7 : decode cC_countSet 7 = .ok (.if_icmp .ge 20, 3) := by decide +kernel
theorem dC_countSet_10 : decode cC_countSet 10 = .ok (.iload_n 1, 1) := by decide +kernel
theorem dC_countSet_11 : decode cC_countSet 11 = .ok (.aload_n 0, 1) := by decide +kernel
theorem dC_countSet_12 : decode cC_countSet 12 = .ok (.iload_n 2, 1) := by decide +kernel
theorem dC_countSet_13 : decode cC_countSet 13 = .ok (.invokevirtual 106, 3) := by decide +kernel
theorem dC_countSet_16 : decode cC_countSet 16 = .ok (.invokestatic 123, 3) := by decide +kernel
theorem dC_countSet_19 : decode cC_countSet 19 = .ok (.iadd, 1) := by decide +kernel
theorem dC_countSet_20 : decode cC_countSet 20 = .ok (.istore_n 1, 1) := by decide +kernel
theorem dC_countSet_21 : decode cC_countSet 21 = .ok (.iinc 2 1, 3) := by decide +kernel
theorem dC_countSet_24 : decode cC_countSet 24 = .ok (.goto (-20), 3) := by decide +kernel
theorem dC_countSet_27 : decode cC_countSet 27 = .ok (.iload_n 1, 1) := by decide +kernel
theorem dC_countSet_28 : decode cC_countSet 28 = .ok (.ireturn, 1) := by decide +kernel
theorem dC_rowBits_0 : decode cC_rowBits 0 = .ok (.aload_n 0, 1) := by decide +kernel
theorem dC_rowBits_1 : decode cC_rowBits 1 = .ok (.iload_n 1, 1) := by decide +kernel
theorem dC_rowBits_2 : decode cC_rowBits 2 = .ok (.invokestatic 112, 3) := by decide +kernel
theorem dC_rowBits_5 : decode cC_rowBits 5 = .ok (.bipush 32, 2) := by decide +kernel
theorem dC_rowBits_7 : decode cC_rowBits 7 = .ok (.iadd, 1) := by decide +kernel
theorem dC_rowBits_8 : decode cC_rowBits 8 = .ok (.bipush 32, 2) := by decide +kernel
theorem dC_rowBits_10 : decode cC_rowBits 10 = .ok (.bipush 64, 2) := by decide +kernel
theorem dC_rowBits_12 : decode cC_rowBits 12 = .ok (.bipush 64, 2) := by decide +kernel
theorem dC_rowBits_14 : decode cC_rowBits 14 = .ok (.invokevirtual 94, 3) := by decide +kernel
theorem dC_rowBits_17 : decode cC_rowBits 17 = .ok (.lconst 0, 1) := by decide +kernel
theorem dC_rowBits_18 : decode cC_rowBits 18 = .ok (.lstore_n 2, 1) := by decide +kernel
theorem dC_rowBits_19 : decode cC_rowBits 19 = .ok (.iconst 0, 1) := by decide +kernel
theorem dC_rowBits_20 : decode cC_rowBits 20 = .ok (.istore 4, 2) := by decide +kernel
theorem dC_rowBits_22 : decode cC_rowBits 22 = .ok (.iload 4, 2) := by decide +kernel
theorem dC_rowBits_24 : decode cC_rowBits 24 = .ok (.bipush 64, 2) := by decide +kernel
theorem dC_rowBits_26 : decode cC_rowBits 26 = .ok (.if_icmp .ge 30, 3) := by decide +kernel
theorem dC_rowBits_29 : decode cC_rowBits 29 = .ok (.aload_n 0, 1) := by decide +kernel
theorem dC_rowBits_30 : decode cC_rowBits 30 = .ok (.aload_n 0, 1) := by decide +kernel
theorem dC_rowBits_31 : decode cC_rowBits 31 = .ok (.getfield 26, 3) := by decide +kernel
theorem dC_rowBits_34 : decode cC_rowBits 34 = .ok (.iload 4, 2) := by decide +kernel
theorem dC_rowBits_36 : decode cC_rowBits 36 = .ok (.iaload, 1) := by decide +kernel
theorem dC_rowBits_37 : decode cC_rowBits 37 = .ok (.invokevirtual 116, 3) := by decide +kernel
theorem dC_rowBits_40 : decode cC_rowBits 40 = .ok (.ifCond .eq 10, 3) := by decide +kernel
theorem dC_rowBits_43 : decode cC_rowBits 43 = .ok (.lload_n 2, 1) := by decide +kernel
theorem dC_rowBits_44 : decode cC_rowBits 44 = .ok (.lconst 1, 1) := by decide +kernel
theorem dC_rowBits_45 : decode cC_rowBits 45 = .ok (.iload 4, 2) := by decide +kernel
theorem dC_rowBits_47 : decode cC_rowBits 47 = .ok (.lshl, 1) := by decide +kernel
theorem dC_rowBits_48 : decode cC_rowBits 48 = .ok (.lor, 1) := by decide +kernel
theorem dC_rowBits_49 : decode cC_rowBits 49 = .ok (.lstore_n 2, 1) := by decide +kernel
theorem dC_rowBits_50 : decode cC_rowBits 50 = .ok (.iinc 4 1, 3) := by decide +kernel
theorem dC_rowBits_53 : decode cC_rowBits 53 = .ok (.goto (-31), 3) := by decide +kernel
theorem dC_rowBits_56 : decode cC_rowBits 56 = .ok (.lload_n 2, 1) := by decide +kernel
theorem dC_rowBits_57 : decode cC_rowBits 57 = .ok (.lreturn, 1) := by decide +kernel
theorem dC_bottomOf_0 : decode cC_bottomOf 0 = .ok (.bipush 64, 2) := by decide +kernel
theorem dC_bottomOf_2 : decode cC_bottomOf 2 = .ok (.bipush 63, 2) := by decide +kernel
theorem dC_bottomOf_4 : decode cC_bottomOf 4 = .ok (.iload_n 0, 1) := by decide +kernel
theorem dC_bottomOf_5 : decode cC_bottomOf 5 = .ok (.isub, 1) := by decide +kernel
theorem dC_bottomOf_6 : decode cC_bottomOf 6 = .ok (.imul, 1) := by decide +kernel
theorem dC_bottomOf_7 : decode cC_bottomOf 7 = .ok (.ireturn, 1) := by decide +kernel
theorem dC_wind_0 : decode cC_wind 0 = .ok (.aload_n 0, 1) := by decide +kernel
theorem dC_wind_1 : decode cC_wind 1 = .ok (.getfield 26, 3) := by decide +kernel
theorem dC_wind_4 : decode cC_wind 4 = .ok (.iconst 0, 1) := by decide +kernel
theorem dC_wind_5 : decode cC_wind 5 = .ok (.invokestatic 171, 3) := by decide +kernel
theorem dC_wind_8 : decode cC_wind 8 = .ok (.iconst 0, 1) := by decide +kernel
theorem dC_wind_9 : decode cC_wind 9 = .ok (.istore 5, 2) := by decide +kernel
theorem dC_wind_11 : decode cC_wind 11 = .ok (.iload 5, 2) := by decide +kernel
theorem dC_wind_13 : decode cC_wind 13 = .ok (.aload_n 0, 1) := by decide +kernel
theorem dC_wind_14 : decode cC_wind 14 = .ok (.getfield 43, 3) := by decide +kernel
theorem dC_wind_17 : decode cC_wind 17 = .ok (.if_icmp .ge 105, 3) := by decide +kernel
theorem dC_wind_20 : decode cC_wind 20 = .ok (.aload_n 0, 1) := by decide +kernel
theorem dC_wind_21 : decode cC_wind 21 = .ok (.getfield 22, 3) := by decide +kernel
theorem dC_wind_24 : decode cC_wind 24 = .ok (.iload 5, 2) := by decide +kernel
theorem dC_wind_26 : decode cC_wind 26 = .ok (.aaload, 1) := by decide +kernel
theorem dC_wind_27 : decode cC_wind 27 = .ok (.astore 6, 2) := by decide +kernel
theorem dC_wind_29 : decode cC_wind 29 = .ok (.aload 6, 2) := by decide +kernel
theorem dC_wind_31 : decode cC_wind 31 = .ok (.ifnull 85, 3) := by decide +kernel
theorem dC_wind_34 : decode cC_wind 34 = .ok (.aload 6, 2) := by decide +kernel
theorem dC_wind_36 : decode cC_wind 36 = .ok (.iload_n 1, 1) := by decide +kernel
theorem dC_wind_37 : decode cC_wind 37 = .ok (.iconst 1, 1) := by decide +kernel
theorem dC_wind_38 : decode cC_wind 38 = .ok (.invokevirtual 177, 3) := by decide +kernel
theorem dC_wind_41 : decode cC_wind 41 = .ok (.ifCond .eq 34, 3) := by decide +kernel
theorem dC_wind_44 : decode cC_wind 44 = .ok (.aload_n 0, 1) := by decide +kernel
theorem dC_wind_45 : decode cC_wind 45 = .ok (.getfield 32, 3) := by decide +kernel
theorem dC_wind_48 : decode cC_wind 48 = .ok (.aload 6, 2) := by decide +kernel
theorem dC_wind_50 : decode cC_wind 50 = .ok (.iload_n 1, 1) := by decide +kernel
theorem dC_wind_51 : decode cC_wind 51 = .ok (.iconst 1, 1) := by decide +kernel
theorem dC_wind_52 : decode cC_wind 52 = .ok (.invokevirtual 181, 3) := by decide +kernel
theorem dC_wind_55 : decode cC_wind 55 = .ok (.aload_n 0, 1) := by decide +kernel
theorem dC_wind_56 : decode cC_wind 56 = .ok (.getfield 26, 3) := by decide +kernel
theorem dC_wind_59 : decode cC_wind 59 = .ok (.aload_n 0, 1) := by decide +kernel
theorem dC_wind_60 : decode cC_wind 60 = .ok (.getfield 32, 3) := by decide +kernel
theorem dC_wind_63 : decode cC_wind 63 = .ok (.iload_n 2, 1) := by decide +kernel
theorem dC_wind_64 : decode cC_wind 64 = .ok (.iload_n 3, 1) := by decide +kernel
theorem dC_wind_65 : decode cC_wind 65 = .ok (.iload 4, 2) := by decide +kernel
theorem dC_wind_67 : decode cC_wind 67 = .ok (.invokevirtual 185, 3) := by decide +kernel
theorem dC_wind_70 : decode cC_wind 70 = .ok (.dup2, 1) := by decide +kernel
theorem dC_wind_71 : decode cC_wind 71 = .ok (.iaload, 1) := by decide +kernel
theorem dC_wind_72 : decode cC_wind 72 = .ok (.iconst 1, 1) := by decide +kernel
theorem dC_wind_73 : decode cC_wind 73 = .ok (.iadd, 1) := by decide +kernel
theorem dC_wind_74 : decode cC_wind 74 = .ok (.iastore, 1) := by decide +kernel
theorem dC_wind_75 : decode cC_wind 75 = .ok (.aload 6, 2) := by decide +kernel
theorem dC_wind_77 : decode cC_wind 77 = .ok (.iload_n 1, 1) := by decide +kernel
theorem dC_wind_78 : decode cC_wind 78 = .ok (.iconst 0, 1) := by decide +kernel
theorem dC_wind_79 : decode cC_wind 79 = .ok (.invokevirtual 177, 3) := by decide +kernel
theorem dC_wind_82 : decode cC_wind 82 = .ok (.ifCond .eq 34, 3) := by decide +kernel
theorem dC_wind_85 : decode cC_wind 85 = .ok (.aload_n 0, 1) := by decide +kernel
theorem dC_wind_86 : decode cC_wind 86 = .ok (.getfield 32, 3) := by decide +kernel
theorem dC_wind_89 : decode cC_wind 89 = .ok (.aload 6, 2) := by decide +kernel
theorem dC_wind_91 : decode cC_wind 91 = .ok (.iload_n 1, 1) := by decide +kernel
theorem dC_wind_92 : decode cC_wind 92 = .ok (.iconst 0, 1) := by decide +kernel
theorem dC_wind_93 : decode cC_wind 93 = .ok (.invokevirtual 181, 3) := by decide +kernel
theorem dC_wind_96 : decode cC_wind 96 = .ok (.aload_n 0, 1) := by decide +kernel
theorem dC_wind_97 : decode cC_wind 97 = .ok (.getfield 26, 3) := by decide +kernel
theorem dC_wind_100 : decode cC_wind 100 = .ok (.aload_n 0, 1) := by decide +kernel
theorem dC_wind_101 : decode cC_wind 101 = .ok (.getfield 32, 3) := by decide +kernel
theorem dC_wind_104 : decode cC_wind 104 = .ok (.iload_n 2, 1) := by decide +kernel
theorem dC_wind_105 : decode cC_wind 105 = .ok (.iload_n 3, 1) := by decide +kernel
theorem dC_wind_106 : decode cC_wind 106 = .ok (.iload 4, 2) := by decide +kernel
theorem dC_wind_108 : decode cC_wind 108 = .ok (.invokevirtual 185, 3) := by decide +kernel
theorem dC_wind_111 : decode cC_wind 111 = .ok (.dup2, 1) := by decide +kernel
theorem dC_wind_112 : decode cC_wind 112 = .ok (.iaload, 1) := by decide +kernel
theorem dC_wind_113 : decode cC_wind 113 = .ok (.iconst 1, 1) := by decide +kernel
theorem dC_wind_114 : decode cC_wind 114 = .ok (.isub, 1) := by decide +kernel
theorem dC_wind_115 : decode cC_wind 115 = .ok (.iastore, 1) := by decide +kernel
theorem dC_wind_116 : decode cC_wind 116 = .ok (.iinc 5 1, 3) := by decide +kernel
theorem dC_wind_119 : decode cC_wind 119 = .ok (.goto (-108), 3) := by decide +kernel
theorem dC_wind_122 : decode cC_wind 122 = .ok (.iconst 1, 1) := by decide +kernel
theorem dC_wind_123 : decode cC_wind 123 = .ok (.istore 5, 2) := by decide +kernel
theorem dC_wind_125 : decode cC_wind 125 = .ok (.iload 5, 2) := by decide +kernel
theorem dC_wind_127 : decode cC_wind 127 = .ok (.iload 4, 2) := by decide +kernel
theorem dC_wind_129 : decode cC_wind 129 = .ok (.if_icmp .ge 28, 3) := by decide +kernel
theorem dC_wind_132 : decode cC_wind 132 = .ok (.aload_n 0, 1) := by decide +kernel
theorem dC_wind_133 : decode cC_wind 133 = .ok (.getfield 26, 3) := by decide +kernel
theorem dC_wind_136 : decode cC_wind 136 = .ok (.iload 5, 2) := by decide +kernel
theorem dC_wind_138 : decode cC_wind 138 = .ok (.dup2, 1) := by decide +kernel
theorem dC_wind_139 : decode cC_wind 139 = .ok (.iaload, 1) := by decide +kernel
theorem dC_wind_140 : decode cC_wind 140 = .ok (.aload_n 0, 1) := by decide +kernel
theorem dC_wind_141 : decode cC_wind 141 = .ok (.getfield 26, 3) := by decide +kernel
theorem dC_wind_144 : decode cC_wind 144 = .ok (.iload 5, 2) := by decide +kernel
theorem dC_wind_146 : decode cC_wind 146 = .ok (.iconst 1, 1) := by decide +kernel
theorem dC_wind_147 : decode cC_wind 147 = .ok (.isub, 1) := by decide +kernel
theorem dC_wind_148 : decode cC_wind 148 = .ok (.iaload, 1) := by decide +kernel
theorem dC_wind_149 : decode cC_wind 149 = .ok (.iadd, 1) := by decide +kernel
theorem dC_wind_150 : decode cC_wind 150 = .ok (.iastore, 1) := by decide +kernel
theorem dC_wind_151 : decode cC_wind 151 = .ok (.iinc 5 1, 3) := by decide +kernel
theorem dC_wind_154 : decode cC_wind 154 = .ok (.goto (-29), 3) := by decide +kernel
theorem dC_wind_157 : decode cC_wind 157 = .ok (.return_, 1) := by decide +kernel
theorem dC_isIn_0 : decode cC_isIn 0 = .ok (.aload_n 0, 1) := by decide +kernel
theorem dC_isIn_1 : decode cC_isIn 1 = .ok (.getfield 46, 3) := by decide +kernel
theorem dC_isIn_4 : decode cC_isIn 4 = .ok (.ifCond .eq 17, 3) := by decide +kernel
theorem dC_isIn_7 : decode cC_isIn 7 = .ok (.iload_n 1, 1) := by decide +kernel
theorem dC_isIn_8 : decode cC_isIn 8 = .ok (.iconst 1, 1) := by decide +kernel
theorem dC_isIn_9 : decode cC_isIn 9 = .ok (.iand, 1) := by decide +kernel
theorem dC_isIn_10 : decode cC_isIn 10 = .ok (.ifCond .eq 7, 3) := by decide +kernel
theorem dC_isIn_13 : decode cC_isIn 13 = .ok (.iconst 1, 1) := by decide +kernel
theorem dC_isIn_14 : decode cC_isIn 14 = .ok (.goto 16, 3) := by decide +kernel
theorem dC_isIn_17 : decode cC_isIn 17 = .ok (.iconst 0, 1) := by decide +kernel
theorem dC_isIn_18 : decode cC_isIn 18 = .ok (.goto 12, 3) := by decide +kernel
theorem dC_isIn_21 : decode cC_isIn 21 = .ok (.iload_n 1, 1) := by decide +kernel
theorem dC_isIn_22 : decode cC_isIn 22 = .ok (.ifCond .eq 7, 3) := by decide +kernel
theorem dC_isIn_25 : decode cC_isIn 25 = .ok (.iconst 1, 1) := by decide +kernel
theorem dC_isIn_26 : decode cC_isIn 26 = .ok (.goto 4, 3) := by decide +kernel
theorem dC_isIn_29 : decode cC_isIn 29 = .ok (.iconst 0, 1) := by decide +kernel
theorem dC_isIn_30 : decode cC_isIn 30 = .ok (.ireturn, 1) := by decide +kernel
theorem dC_add_0 : decode cC_add 0 = .ok (.iload_n 1, 1) := by decide +kernel
theorem dC_add_1 : decode cC_add 1 = .ok (.i2l, 1) := by decide +kernel
theorem dC_add_2 : decode cC_add 2 = .ok (.invokestatic 50, 3) := by decide +kernel
theorem dC_add_5 : decode cC_add 5 = .ok (.ifCond .eq 11, 3) := by decide +kernel
theorem dC_add_8 : decode cC_add 8 = .ok (.iload_n 2, 1) := by decide +kernel
theorem dC_add_9 : decode cC_add 9 = .ok (.i2l, 1) := by decide +kernel
theorem dC_add_10 : decode cC_add 10 = .ok (.invokestatic 50, 3) := by decide +kernel
theorem dC_add_13 : decode cC_add 13 = .ok (.ifCond .ne 13, 3) := by decide +kernel
theorem dC_add_16 : decode cC_add 16 = .ok (.new 54, 3) := by decide +kernel
theorem dC_add_19 : decode cC_add 19 = .ok (.dup, 1) := by decide +kernel
theorem dC_add_20 : decode cC_add 20 = .ok (.ldc 56, 2) := by decide +kernel
theorem dC_add_22 : decode cC_add 22 = .ok (.invokespecial 58, 3) := by decide +kernel
theorem dC_add_25 : decode cC_add 25 = .ok (.athrow, 1) := by decide +kernel
theorem dC_add_26 : decode cC_add 26 = .ok (.aload_n 0, 1) := by decide +kernel
theorem dC_add_27 : decode cC_add 27 = .ok (.getfield 40, 3) := by decide +kernel
theorem dC_add_30 : decode cC_add 30 = .ok (.sipush 512, 3) := by decide +kernel
theorem dC_add_33 : decode cC_add 33 = .ok (.if_icmp .lt 13, 3) := by decide +kernel
theorem dC_add_36 : decode cC_add 36 = .ok (.new 61, 3) := by decide +kernel
theorem dC_add_39 : decode cC_add 39 = .ok (.dup, 1) := by decide +kernel
theorem dC_add_40 : decode cC_add 40 = .ok (.ldc 63, 2) := by decide +kernel
theorem dC_add_42 : decode cC_add 42 = .ok (.invokespecial 65, 3) := by decide +kernel
theorem dC_add_45 : decode cC_add 45 = .ok (.athrow, 1) := by decide +kernel
theorem dC_add_46 : decode cC_add 46 = .ok (.aload_n 0, 1) := by decide +kernel
theorem dC_add_47 : decode cC_add 47 = .ok (.getfield 9, 3) := by decide +kernel
theorem dC_add_50 : decode cC_add 50 = .ok (.aload_n 0, 1) := by decide +kernel
theorem dC_add_51 : decode cC_add 51 = .ok (.getfield 40, 3) := by decide +kernel
theorem dC_add_54 : decode cC_add 54 = .ok (.iload_n 1, 1) := by decide +kernel
theorem dC_add_55 : decode cC_add 55 = .ok (.iastore, 1) := by decide +kernel
theorem dC_add_56 : decode cC_add 56 = .ok (.aload_n 0, 1) := by decide +kernel
theorem dC_add_57 : decode cC_add 57 = .ok (.getfield 13, 3) := by decide +kernel
theorem dC_add_60 : decode cC_add 60 = .ok (.aload_n 0, 1) := by decide +kernel
theorem dC_add_61 : decode cC_add 61 = .ok (.getfield 40, 3) := by decide +kernel
theorem dC_add_64 : decode cC_add 64 = .ok (.iload_n 2, 1) := by decide +kernel
theorem dC_add_65 : decode cC_add 65 = .ok (.iastore, 1) := by decide +kernel
theorem dC_add_66 : decode cC_add 66 = .ok (.aload_n 0, 1) := by decide +kernel
theorem dC_add_67 : decode cC_add 67 = .ok (.getfield 16, 3) := by decide +kernel
theorem dC_add_70 : decode cC_add 70 = .ok (.aload_n 0, 1) := by decide +kernel
theorem dC_add_71 : decode cC_add 71 = .ok (.getfield 40, 3) := by decide +kernel
theorem dC_add_74 : decode cC_add 74 = .ok (.iload_n 3, 1) := by decide +kernel
theorem dC_add_75 : decode cC_add 75 = .ok (.bastore, 1) := by decide +kernel
theorem dC_add_76 : decode cC_add 76 = .ok (.aload_n 0, 1) := by decide +kernel
theorem dC_add_77 : decode cC_add 77 = .ok (.dup, 1) := by decide +kernel
theorem dC_add_78 : decode cC_add 78 = .ok (.getfield 40, 3) := by decide +kernel
theorem dC_add_81 : decode cC_add 81 = .ok (.iconst 1, 1) := by decide +kernel
theorem dC_add_82 : decode cC_add 82 = .ok (.iadd, 1) := by decide +kernel
theorem dC_add_83 : decode cC_add 83 = .ok (.putfield 40, 3) := by decide +kernel
theorem dC_add_86 : decode cC_add 86 = .ok (.aload_n 0, 1) := by decide +kernel
theorem dC_add_87 : decode cC_add 87 = .ok (.getfield 40, 3) := by decide +kernel
theorem dC_add_90 : decode cC_add 90 = .ok (.aload_n 0, 1) := by decide +kernel
theorem dC_add_91 : decode cC_add 91 = .ok (.getfield 43, 3) := by decide +kernel
theorem dC_add_94 : decode cC_add 94 = .ok (.isub, 1) := by decide +kernel
theorem dC_add_95 : decode cC_add 95 = .ok (.ireturn, 1) := by decide +kernel
theorem dC_canBeTold_0 : decode cC_canBeTold 0 = .ok (.lload_n 0, 1) := by decide +kernel
theorem dC_canBeTold_1 : decode cC_canBeTold 1 = .ok (.ldc2_w 152, 3) := by decide +kernel
theorem dC_canBeTold_4 : decode cC_canBeTold 4 = .ok (.lcmp, 1) := by decide +kernel
theorem dC_canBeTold_5 : decode cC_canBeTold 5 = .ok (.ifCond .lt 15, 3) := by decide +kernel
theorem dC_canBeTold_8 : decode cC_canBeTold 8 = .ok (.lload_n 0, 1) := by decide +kernel
theorem dC_canBeTold_9 : decode cC_canBeTold 9 = .ok (.ldc2_w 154, 3) := by decide +kernel
theorem dC_canBeTold_12 : decode cC_canBeTold 12 = .ok (.lcmp, 1) := by decide +kernel
theorem dC_canBeTold_13 : decode cC_canBeTold 13 = .ok (.ifCond .gt 7, 3) := by decide +kernel
theorem dC_canBeTold_16 : decode cC_canBeTold 16 = .ok (.iconst 1, 1) := by decide +kernel
theorem dC_canBeTold_17 : decode cC_canBeTold 17 = .ok (.goto 4, 3) := by decide +kernel
theorem dC_canBeTold_20 : decode cC_canBeTold 20 = .ok (.iconst 0, 1) := by decide +kernel
theorem dC_canBeTold_21 : decode cC_canBeTold 21 = .ok (.ireturn, 1) := by decide +kernel
theorem dC_close_0 : decode cC_close 0 = .ok (.aload_n 0, 1) := by decide +kernel
theorem dC_close_1 : decode cC_close 1 = .ok (.getfield 40, 3) := by decide +kernel
theorem dC_close_4 : decode cC_close 4 = .ok (.aload_n 0, 1) := by decide +kernel
theorem dC_close_5 : decode cC_close 5 = .ok (.getfield 43, 3) := by decide +kernel
theorem dC_close_8 : decode cC_close 8 = .ok (.if_icmp .ne 13, 3) := by decide +kernel
theorem dC_close_11 : decode cC_close 11 = .ok (.new 61, 3) := by decide +kernel
theorem dC_close_14 : decode cC_close 14 = .ok (.dup, 1) := by decide +kernel
theorem dC_close_15 : decode cC_close 15 = .ok (.ldc 66, 2) := by decide +kernel
theorem dC_close_17 : decode cC_close 17 = .ok (.invokespecial 65, 3) := by decide +kernel
theorem dC_close_20 : decode cC_close 20 = .ok (.athrow, 1) := by decide +kernel
theorem dC_close_21 : decode cC_close 21 = .ok (.aload_n 0, 1) := by decide +kernel
theorem dC_close_22 : decode cC_close 22 = .ok (.getfield 36, 3) := by decide +kernel
theorem dC_close_25 : decode cC_close 25 = .ok (.bipush 64, 2) := by decide +kernel
theorem dC_close_27 : decode cC_close 27 = .ok (.if_icmp .lt 13, 3) := by decide +kernel
theorem dC_close_30 : decode cC_close 30 = .ok (.new 61, 3) := by decide +kernel
theorem dC_close_33 : decode cC_close 33 = .ok (.dup, 1) := by decide +kernel
theorem dC_close_34 : decode cC_close 34 = .ok (.ldc 68, 2) := by decide +kernel
theorem dC_close_36 : decode cC_close 36 = .ok (.invokespecial 65, 3) := by decide +kernel
theorem dC_close_39 : decode cC_close 39 = .ok (.athrow, 1) := by decide +kernel
theorem dC_close_40 : decode cC_close 40 = .ok (.aload_n 0, 1) := by decide +kernel
theorem dC_close_41 : decode cC_close 41 = .ok (.getfield 43, 3) := by decide +kernel
theorem dC_close_44 : decode cC_close 44 = .ok (.istore_n 1, 1) := by decide +kernel
theorem dC_close_45 : decode cC_close 45 = .ok (.iload_n 1, 1) := by decide +kernel
theorem dC_close_46 : decode cC_close 46 = .ok (.aload_n 0, 1) := by decide +kernel
theorem dC_close_47 : decode cC_close 47 = .ok (.getfield 40, 3) := by decide +kernel
theorem dC_close_50 : decode cC_close 50 = .ok (.if_icmp .ge 20, 3) := by decide +kernel
theorem dC_close_53 : decode cC_close 53 = .ok (.aload_n 0, 1) := by decide +kernel
theorem dC_close_54 : decode cC_close 54 = .ok (.getfield 22, 3) := by decide +kernel
theorem dC_close_57 : decode cC_close 57 = .ok (.iload_n 1, 1) := by decide +kernel
theorem dC_close_58 : decode cC_close 58 = .ok (.aload_n 0, 1) := by decide +kernel
theorem dC_close_59 : decode cC_close 59 = .ok (.iload_n 1, 1) := by decide +kernel
theorem dC_close_60 : decode cC_close 60 = .ok (.invokevirtual 70, 3) := by decide +kernel
theorem dC_close_63 : decode cC_close 63 = .ok (.aastore, 1) := by decide +kernel
theorem dC_close_64 : decode cC_close 64 = .ok (.iinc 1 1, 3) := by decide +kernel
theorem dC_close_67 : decode cC_close 67 = .ok (.goto (-22), 3) := by decide +kernel
theorem dC_close_70 : decode cC_close 70 = .ok (.aload_n 0, 1) := by decide +kernel
theorem dC_close_71 : decode cC_close 71 = .ok (.aload_n 0, 1) := by decide +kernel
theorem dC_close_72 : decode cC_close 72 = .ok (.getfield 40, 3) := by decide +kernel
theorem dC_close_75 : decode cC_close 75 = .ok (.putfield 43, 3) := by decide +kernel
theorem dC_close_78 : decode cC_close 78 = .ok (.aload_n 0, 1) := by decide +kernel
theorem dC_close_79 : decode cC_close 79 = .ok (.dup, 1) := by decide +kernel
theorem dC_close_80 : decode cC_close 80 = .ok (.getfield 36, 3) := by decide +kernel
theorem dC_close_83 : decode cC_close 83 = .ok (.iconst 1, 1) := by decide +kernel
theorem dC_close_84 : decode cC_close 84 = .ok (.iadd, 1) := by decide +kernel
theorem dC_close_85 : decode cC_close 85 = .ok (.putfield 36, 3) := by decide +kernel
theorem dC_close_88 : decode cC_close 88 = .ok (.aload_n 0, 1) := by decide +kernel
theorem dC_close_89 : decode cC_close 89 = .ok (.getfield 36, 3) := by decide +kernel
theorem dC_close_92 : decode cC_close 92 = .ok (.ireturn, 1) := by decide +kernel
theorem dC_pieceOf_0 : decode cC_pieceOf 0 = .ok (.iload_n 1, 1) := by decide +kernel
theorem dC_pieceOf_1 : decode cC_pieceOf 1 = .ok (.aload_n 0, 1) := by decide +kernel
theorem dC_pieceOf_2 : decode cC_pieceOf 2 = .ok (.getfield 43, 3) := by decide +kernel
theorem dC_pieceOf_5 : decode cC_pieceOf 5 = .ok (.if_icmp .le 9, 3) := by decide +kernel
theorem dC_pieceOf_8 : decode cC_pieceOf 8 = .ok (.iload_n 1, 1) := by decide +kernel
theorem dC_pieceOf_9 : decode cC_pieceOf 9 = .ok (.iconst 1, 1) := by decide +kernel
theorem dC_pieceOf_10 : decode cC_pieceOf 10 = .ok (.isub, 1) := by decide +kernel
theorem dC_pieceOf_11 : decode cC_pieceOf 11 = .ok (.goto 9, 3) := by decide +kernel
theorem dC_pieceOf_14 : decode cC_pieceOf 14 = .ok (.aload_n 0, 1) := by decide +kernel
theorem dC_pieceOf_15 : decode cC_pieceOf 15 = .ok (.getfield 40, 3) := by decide +kernel
theorem dC_pieceOf_18 : decode cC_pieceOf 18 = .ok (.iconst 1, 1) := by decide +kernel
theorem dC_pieceOf_19 : decode cC_pieceOf 19 = .ok (.isub, 1) := by decide +kernel
theorem dC_pieceOf_20 : decode cC_pieceOf 20 = .ok (.istore_n 2, 1) := by decide +kernel
theorem dC_pieceOf_21 : decode cC_pieceOf 21 = .ok (.iload_n 1, 1) := by decide +kernel
theorem dC_pieceOf_22 : decode cC_pieceOf 22 = .ok (.iconst 1, 1) := by decide +kernel
theorem dC_pieceOf_23 : decode cC_pieceOf 23 = .ok (.iadd, 1) := by decide +kernel
theorem dC_pieceOf_24 : decode cC_pieceOf 24 = .ok (.aload_n 0, 1) := by decide +kernel
theorem dC_pieceOf_25 : decode cC_pieceOf 25 = .ok (.getfield 40, 3) := by decide +kernel
theorem dC_pieceOf_28 : decode cC_pieceOf 28 = .ok (.if_icmp .ge 9, 3) := by decide +kernel
theorem dC_pieceOf_31 : decode cC_pieceOf 31 = .ok (.iload_n 1, 1) := by decide +kernel
theorem dC_pieceOf_32 : decode cC_pieceOf 32 = .ok (.iconst 1, 1) := by decide +kernel
theorem dC_pieceOf_33 : decode cC_pieceOf 33 = .ok (.iadd, 1) := by decide +kernel
theorem dC_pieceOf_34 : decode cC_pieceOf 34 = .ok (.goto 7, 3) := by decide +kernel
theorem dC_pieceOf_37 : decode cC_pieceOf 37 = .ok (.aload_n 0, 1) := by decide +kernel
theorem dC_pieceOf_38 : decode cC_pieceOf 38 = .ok (.getfield 43, 3) := by decide +kernel
theorem dC_pieceOf_41 : decode cC_pieceOf 41 = .ok (.istore_n 3, 1) := by decide +kernel
theorem dC_pieceOf_42 : decode cC_pieceOf 42 = .ok (.aload_n 0, 1) := by decide +kernel
theorem dC_pieceOf_43 : decode cC_pieceOf 43 = .ok (.getfield 9, 3) := by decide +kernel
theorem dC_pieceOf_46 : decode cC_pieceOf 46 = .ok (.iload_n 1, 1) := by decide +kernel
theorem dC_pieceOf_47 : decode cC_pieceOf 47 = .ok (.iaload, 1) := by decide +kernel
theorem dC_pieceOf_48 : decode cC_pieceOf 48 = .ok (.istore 4, 2) := by decide +kernel
theorem dC_pieceOf_50 : decode cC_pieceOf 50 = .ok (.aload_n 0, 1) := by decide +kernel
theorem dC_pieceOf_51 : decode cC_pieceOf 51 = .ok (.getfield 13, 3) := by decide +kernel
theorem dC_pieceOf_54 : decode cC_pieceOf 54 = .ok (.iload_n 1, 1) := by decide +kernel
theorem dC_pieceOf_55 : decode cC_pieceOf 55 = .ok (.iaload, 1) := by decide +kernel
theorem dC_pieceOf_56 : decode cC_pieceOf 56 = .ok (.istore 5, 2) := by decide +kernel
theorem dC_pieceOf_58 : decode cC_pieceOf 58 = .ok (.aload_n 0, 1) := by decide +kernel
theorem dC_pieceOf_59 : decode cC_pieceOf 59 = .ok (.getfield 16, 3) := by decide +kernel
theorem dC_pieceOf_62 : decode cC_pieceOf 62 = .ok (.iload_n 1, 1) := by decide +kernel
theorem dC_pieceOf_63 : decode cC_pieceOf 63 = .ok (.baload, 1) := by decide +kernel
theorem dC_pieceOf_64 : decode cC_pieceOf 64 = .ok (.ifCond .ne 56, 3) := by decide +kernel
theorem dC_pieceOf_67 : decode cC_pieceOf 67 = .ok (.new 20, 3) := by decide +kernel
theorem dC_pieceOf_70 : decode cC_pieceOf 70 = .ok (.dup, 1) := by decide +kernel
theorem dC_pieceOf_71 : decode cC_pieceOf 71 = .ok (.aload_n 0, 1) := by decide +kernel
theorem dC_pieceOf_72 : decode cC_pieceOf 72 = .ok (.aload_n 0, 1) := by decide +kernel
theorem dC_pieceOf_73 : decode cC_pieceOf 73 = .ok (.getfield 9, 3) := by decide +kernel
theorem dC_pieceOf_76 : decode cC_pieceOf 76 = .ok (.iload_n 1, 1) := by decide +kernel
theorem dC_pieceOf_77 : decode cC_pieceOf 77 = .ok (.iload_n 2, 1) := by decide +kernel
theorem dC_pieceOf_78 : decode cC_pieceOf 78 = .ok (.invokevirtual 156, 3) := by decide +kernel
theorem dC_pieceOf_81 : decode cC_pieceOf 81 = .ok (.aload_n 0, 1) := by decide +kernel
theorem dC_pieceOf_82 : decode cC_pieceOf 82 = .ok (.aload_n 0, 1) := by decide +kernel
theorem dC_pieceOf_83 : decode cC_pieceOf 83 = .ok (.getfield 13, 3) := by decide +kernel
theorem dC_pieceOf_86 : decode cC_pieceOf 86 = .ok (.iload_n 1, 1) := by decide +kernel
theorem dC_pieceOf_87 : decode cC_pieceOf 87 = .ok (.iload_n 2, 1) := by decide +kernel
theorem dC_pieceOf_88 : decode cC_pieceOf 88 = .ok (.invokevirtual 156, 3) := by decide +kernel
theorem dC_pieceOf_91 : decode cC_pieceOf 91 = .ok (.iload 4, 2) := by decide +kernel
theorem dC_pieceOf_93 : decode cC_pieceOf 93 = .ok (.iload 5, 2) := by decide +kernel
end
section
/-! decode rows -/
theorem dC_pieceOf_95 : decode cC_pieceOf 95 = .ok (.aload_n 0, 1) := by decide +kernel
theorem dC_pieceOf_96 : decode cC_pieceOf 96 = .ok (.aload_n 0, 1) := by decide +kernel
theorem dC_pieceOf_97 : decode cC_pieceOf 97 = .ok (.getfield 9, 3) := by decide +kernel
theorem dC_pieceOf_100 : decode cC_pieceOf 100 = .ok (.iload_n 1, 1) := by decide +kernel
theorem dC_pieceOf_101 : decode cC_pieceOf 101 = .ok (.iload_n 3, 1) := by decide +kernel
theorem dC_pieceOf_102 : decode cC_pieceOf 102 = .ok (.invokevirtual 156, 3) := by decide +kernel
theorem dC_pieceOf_105 : decode cC_pieceOf 105 = .ok (.aload_n 0, 1) := by decide +kernel
theorem dC_pieceOf_106 : decode cC_pieceOf 106 = .ok (.aload_n 0, 1) := by decide +kernel
theorem dC_pieceOf_107 : decode cC_pieceOf 107 = .ok (.getfield 13, 3) := by decide +kernel
theorem dC_pieceOf_110 : decode cC_pieceOf 110 = .ok (.iload_n 1, 1) := by decide +kernel
theorem dC_pieceOf_111 : decode cC_pieceOf 111 = .ok (.iload_n 3, 1) := by decide +kernel
theorem dC_pieceOf_112 : decode cC_pieceOf 112 = .ok (.invokevirtual 156, 3) := by decide +kernel
theorem dC_pieceOf_115 : decode cC_pieceOf 115 = .ok (.iconst 0, 1) := by decide +kernel
theorem dC_pieceOf_116 : decode cC_pieceOf 116 = .ok (.invokespecial 160, 3) := by decide +kernel
theorem dC_pieceOf_119 : decode cC_pieceOf 119 = .ok (.areturn, 1) := by decide +kernel
theorem dC_pieceOf_120 : decode cC_pieceOf 120 = .ok (.aload_n 0, 1) := by decide +kernel
theorem dC_pieceOf_121 : decode cC_pieceOf 121 = .ok (.getfield 16, 3) := by decide +kernel
theorem dC_pieceOf_124 : decode cC_pieceOf 124 = .ok (.iload_n 3, 1) := by decide +kernel
theorem dC_pieceOf_125 : decode cC_pieceOf 125 = .ok (.baload, 1) := by decide +kernel
theorem dC_pieceOf_126 : decode cC_pieceOf 126 = .ok (.ifCond .eq 32, 3) := by decide +kernel
theorem dC_pieceOf_129 : decode cC_pieceOf 129 = .ok (.new 20, 3) := by decide +kernel
theorem dC_pieceOf_132 : decode cC_pieceOf 132 = .ok (.dup, 1) := by decide +kernel
theorem dC_pieceOf_133 : decode cC_pieceOf 133 = .ok (.iload 4, 2) := by decide +kernel
theorem dC_pieceOf_135 : decode cC_pieceOf 135 = .ok (.iload 5, 2) := by decide +kernel
theorem dC_pieceOf_137 : decode cC_pieceOf 137 = .ok (.iload 4, 2) := by decide +kernel
theorem dC_pieceOf_139 : decode cC_pieceOf 139 = .ok (.iload 5, 2) := by decide +kernel
theorem dC_pieceOf_141 : decode cC_pieceOf 141 = .ok (.aload_n 0, 1) := by decide +kernel
theorem dC_pieceOf_142 : decode cC_pieceOf 142 = .ok (.getfield 9, 3) := by decide +kernel
theorem dC_pieceOf_145 : decode cC_pieceOf 145 = .ok (.iload_n 3, 1) := by decide +kernel
theorem dC_pieceOf_146 : decode cC_pieceOf 146 = .ok (.iaload, 1) := by decide +kernel
theorem dC_pieceOf_147 : decode cC_pieceOf 147 = .ok (.aload_n 0, 1) := by decide +kernel
theorem dC_pieceOf_148 : decode cC_pieceOf 148 = .ok (.getfield 13, 3) := by decide +kernel
theorem dC_pieceOf_151 : decode cC_pieceOf 151 = .ok (.iload_n 3, 1) := by decide +kernel
theorem dC_pieceOf_152 : decode cC_pieceOf 152 = .ok (.iaload, 1) := by decide +kernel
theorem dC_pieceOf_153 : decode cC_pieceOf 153 = .ok (.iconst 1, 1) := by decide +kernel
theorem dC_pieceOf_154 : decode cC_pieceOf 154 = .ok (.invokespecial 160, 3) := by decide +kernel
theorem dC_pieceOf_157 : decode cC_pieceOf 157 = .ok (.areturn, 1) := by decide +kernel
theorem dC_pieceOf_158 : decode cC_pieceOf 158 = .ok (.aconst_null, 1) := by decide +kernel
theorem dC_pieceOf_159 : decode cC_pieceOf 159 = .ok (.areturn, 1) := by decide +kernel
theorem dC_curveEnd_0 : decode cC_curveEnd 0 = .ok (.aload_n 0, 1) := by decide +kernel
theorem dC_curveEnd_1 : decode cC_curveEnd 1 = .ok (.getfield 16, 3) := by decide +kernel
theorem dC_curveEnd_4 : decode cC_curveEnd 4 = .ok (.iload_n 3, 1) := by decide +kernel
theorem dC_curveEnd_5 : decode cC_curveEnd 5 = .ok (.baload, 1) := by decide +kernel
theorem dC_curveEnd_6 : decode cC_curveEnd 6 = .ok (.ifCond .eq 7, 3) := by decide +kernel
theorem dC_curveEnd_9 : decode cC_curveEnd 9 = .ok (.aload_n 1, 1) := by decide +kernel
theorem dC_curveEnd_10 : decode cC_curveEnd 10 = .ok (.iload_n 3, 1) := by decide +kernel
theorem dC_curveEnd_11 : decode cC_curveEnd 11 = .ok (.iaload, 1) := by decide +kernel
theorem dC_curveEnd_12 : decode cC_curveEnd 12 = .ok (.ireturn, 1) := by decide +kernel
theorem dC_curveEnd_13 : decode cC_curveEnd 13 = .ok (.aload_n 1, 1) := by decide +kernel
theorem dC_curveEnd_14 : decode cC_curveEnd 14 = .ok (.iload_n 2, 1) := by decide +kernel
theorem dC_curveEnd_15 : decode cC_curveEnd 15 = .ok (.iaload, 1) := by decide +kernel
theorem dC_curveEnd_16 : decode cC_curveEnd 16 = .ok (.aload_n 1, 1) := by decide +kernel
theorem dC_curveEnd_17 : decode cC_curveEnd 17 = .ok (.iload_n 3, 1) := by decide +kernel
theorem dC_curveEnd_18 : decode cC_curveEnd 18 = .ok (.iaload, 1) := by decide +kernel
theorem dC_curveEnd_19 : decode cC_curveEnd 19 = .ok (.iadd, 1) := by decide +kernel
theorem dC_curveEnd_20 : decode cC_curveEnd 20 = .ok (.iconst 2, 1) := by decide +kernel
theorem dC_curveEnd_21 : decode cC_curveEnd 21 = .ok (.invokestatic 163, 3) := by decide +kernel
theorem dC_curveEnd_24 : decode cC_curveEnd 24 = .ok (.ireturn, 1) := by decide +kernel
theorem dC_move_0 : decode cC_move 0 = .ok (.iconst 0, 1) := by decide +kernel
theorem dC_move_1 : decode cC_move 1 = .ok (.istore_n 3, 1) := by decide +kernel
theorem dC_move_2 : decode cC_move 2 = .ok (.iload_n 3, 1) := by decide +kernel
theorem dC_move_3 : decode cC_move 3 = .ok (.aload_n 0, 1) := by decide +kernel
theorem dC_move_4 : decode cC_move 4 = .ok (.getfield 40, 3) := by decide +kernel
theorem dC_move_7 : decode cC_move 7 = .ok (.if_icmp .ge 51, 3) := by decide +kernel
theorem dC_move_10 : decode cC_move 10 = .ok (.aload_n 0, 1) := by decide +kernel
theorem dC_move_11 : decode cC_move 11 = .ok (.getfield 9, 3) := by decide +kernel
theorem dC_move_14 : decode cC_move 14 = .ok (.iload_n 3, 1) := by decide +kernel
theorem dC_move_15 : decode cC_move 15 = .ok (.iaload, 1) := by decide +kernel
theorem dC_move_16 : decode cC_move 16 = .ok (.i2l, 1) := by decide +kernel
theorem dC_move_17 : decode cC_move 17 = .ok (.iload_n 1, 1) := by decide +kernel
theorem dC_move_18 : decode cC_move 18 = .ok (.i2l, 1) := by decide +kernel
theorem dC_move_19 : decode cC_move 19 = .ok (.ladd, 1) := by decide +kernel
theorem dC_move_20 : decode cC_move 20 = .ok (.invokestatic 50, 3) := by decide +kernel
theorem dC_move_23 : decode cC_move 23 = .ok (.ifCond .eq 19, 3) := by decide +kernel
theorem dC_move_26 : decode cC_move 26 = .ok (.aload_n 0, 1) := by decide +kernel
theorem dC_move_27 : decode cC_move 27 = .ok (.getfield 13, 3) := by decide +kernel
theorem dC_move_30 : decode cC_move 30 = .ok (.iload_n 3, 1) := by decide +kernel
theorem dC_move_31 : decode cC_move 31 = .ok (.iaload, 1) := by decide +kernel
theorem dC_move_32 : decode cC_move 32 = .ok (.i2l, 1) := by decide +kernel
theorem dC_move_33 : decode cC_move 33 = .ok (.iload_n 2, 1) := by decide +kernel
theorem dC_move_34 : decode cC_move 34 = .ok (.i2l, 1) := by decide +kernel
theorem dC_move_35 : decode cC_move 35 = .ok (.ladd, 1) := by decide +kernel
theorem dC_move_36 : decode cC_move 36 = .ok (.invokestatic 50, 3) := by decide +kernel
theorem dC_move_39 : decode cC_move 39 = .ok (.ifCond .ne 13, 3) := by decide +kernel
theorem dC_move_42 : decode cC_move 42 = .ok (.new 54, 3) := by decide +kernel
theorem dC_move_45 : decode cC_move 45 = .ok (.dup, 1) := by decide +kernel
theorem dC_move_46 : decode cC_move 46 = .ok (.ldc 74, 2) := by decide +kernel
theorem dC_move_48 : decode cC_move 48 = .ok (.invokespecial 58, 3) := by decide +kernel
theorem dC_move_51 : decode cC_move 51 = .ok (.athrow, 1) := by decide +kernel
theorem dC_move_52 : decode cC_move 52 = .ok (.iinc 3 1, 3) := by decide +kernel
theorem dC_move_55 : decode cC_move 55 = .ok (.goto (-53), 3) := by decide +kernel
theorem dC_move_58 : decode cC_move 58 = .ok (.iconst 0, 1) := by decide +kernel
theorem dC_move_59 : decode cC_move 59 = .ok (.istore_n 3, 1) := by decide +kernel
theorem dC_move_60 : decode cC_move 60 = .ok (.iload_n 3, 1) := by decide +kernel
theorem dC_move_61 : decode cC_move 61 = .ok (.aload_n 0, 1) := by decide +kernel
theorem dC_move_62 : decode cC_move 62 = .ok (.getfield 40, 3) := by decide +kernel
theorem dC_move_65 : decode cC_move 65 = .ok (.if_icmp .ge 29, 3) := by decide +kernel
theorem dC_move_68 : decode cC_move 68 = .ok (.aload_n 0, 1) := by decide +kernel
theorem dC_move_69 : decode cC_move 69 = .ok (.getfield 9, 3) := by decide +kernel
theorem dC_move_72 : decode cC_move 72 = .ok (.iload_n 3, 1) := by decide +kernel
theorem dC_move_73 : decode cC_move 73 = .ok (.dup2, 1) := by decide +kernel
theorem dC_move_74 : decode cC_move 74 = .ok (.iaload, 1) := by decide +kernel
theorem dC_move_75 : decode cC_move 75 = .ok (.iload_n 1, 1) := by decide +kernel
theorem dC_move_76 : decode cC_move 76 = .ok (.iadd, 1) := by decide +kernel
theorem dC_move_77 : decode cC_move 77 = .ok (.iastore, 1) := by decide +kernel
theorem dC_move_78 : decode cC_move 78 = .ok (.aload_n 0, 1) := by decide +kernel
theorem dC_move_79 : decode cC_move 79 = .ok (.getfield 13, 3) := by decide +kernel
theorem dC_move_82 : decode cC_move 82 = .ok (.iload_n 3, 1) := by decide +kernel
theorem dC_move_83 : decode cC_move 83 = .ok (.dup2, 1) := by decide +kernel
theorem dC_move_84 : decode cC_move 84 = .ok (.iaload, 1) := by decide +kernel
theorem dC_move_85 : decode cC_move 85 = .ok (.iload_n 2, 1) := by decide +kernel
theorem dC_move_86 : decode cC_move 86 = .ok (.iadd, 1) := by decide +kernel
theorem dC_move_87 : decode cC_move 87 = .ok (.iastore, 1) := by decide +kernel
theorem dC_move_88 : decode cC_move 88 = .ok (.iinc 3 1, 3) := by decide +kernel
theorem dC_move_91 : decode cC_move 91 = .ok (.goto (-31), 3) := by decide +kernel
theorem dC_move_94 : decode cC_move 94 = .ok (.iconst 0, 1) := by decide +kernel
theorem dC_move_95 : decode cC_move 95 = .ok (.istore_n 3, 1) := by decide +kernel
theorem dC_move_96 : decode cC_move 96 = .ok (.iload_n 3, 1) := by decide +kernel
theorem dC_move_97 : decode cC_move 97 = .ok (.aload_n 0, 1) := by decide +kernel
theorem dC_move_98 : decode cC_move 98 = .ok (.getfield 43, 3) := by decide +kernel
theorem dC_move_101 : decode cC_move 101 = .ok (.if_icmp .ge 29, 3) := by decide +kernel
theorem dC_move_104 : decode cC_move 104 = .ok (.aload_n 0, 1) := by decide +kernel
theorem dC_move_105 : decode cC_move 105 = .ok (.getfield 22, 3) := by decide +kernel
theorem dC_move_108 : decode cC_move 108 = .ok (.iload_n 3, 1) := by decide +kernel
theorem dC_move_109 : decode cC_move 109 = .ok (.aaload, 1) := by decide +kernel
theorem dC_move_110 : decode cC_move 110 = .ok (.astore 4, 2) := by decide +kernel
theorem dC_move_112 : decode cC_move 112 = .ok (.aload 4, 2) := by decide +kernel
theorem dC_move_114 : decode cC_move 114 = .ok (.ifnull 10, 3) := by decide +kernel
theorem dC_move_117 : decode cC_move 117 = .ok (.aload 4, 2) := by decide +kernel
theorem dC_move_119 : decode cC_move 119 = .ok (.iload_n 1, 1) := by decide +kernel
theorem dC_move_120 : decode cC_move 120 = .ok (.iload_n 2, 1) := by decide +kernel
theorem dC_move_121 : decode cC_move 121 = .ok (.invokevirtual 76, 3) := by decide +kernel
theorem dC_move_124 : decode cC_move 124 = .ok (.iinc 3 1, 3) := by decide +kernel
theorem dC_move_127 : decode cC_move 127 = .ok (.goto (-31), 3) := by decide +kernel
theorem dC_move_130 : decode cC_move 130 = .ok (.return_, 1) := by decide +kernel
theorem dC_winding_0 : decode cC_winding 0 = .ok (.iload_n 1, 1) := by decide +kernel
theorem dC_winding_1 : decode cC_winding 1 = .ok (.invokestatic 88, 3) := by decide +kernel
theorem dC_winding_4 : decode cC_winding 4 = .ok (.ifCond .eq 10, 3) := by decide +kernel
theorem dC_winding_7 : decode cC_winding 7 = .ok (.iload_n 2, 1) := by decide +kernel
theorem dC_winding_8 : decode cC_winding 8 = .ok (.invokestatic 88, 3) := by decide +kernel
theorem dC_winding_11 : decode cC_winding 11 = .ok (.ifCond .ne 13, 3) := by decide +kernel
theorem dC_winding_14 : decode cC_winding 14 = .ok (.new 54, 3) := by decide +kernel
theorem dC_winding_17 : decode cC_winding 17 = .ok (.dup, 1) := by decide +kernel
theorem dC_winding_18 : decode cC_winding 18 = .ok (.ldc 92, 2) := by decide +kernel
theorem dC_winding_20 : decode cC_winding 20 = .ok (.invokespecial 58, 3) := by decide +kernel
theorem dC_winding_23 : decode cC_winding 23 = .ok (.athrow, 1) := by decide +kernel
theorem dC_winding_24 : decode cC_winding 24 = .ok (.aload_n 0, 1) := by decide +kernel
theorem dC_winding_25 : decode cC_winding 25 = .ok (.iload_n 2, 1) := by decide +kernel
theorem dC_winding_26 : decode cC_winding 26 = .ok (.iload_n 1, 1) := by decide +kernel
theorem dC_winding_27 : decode cC_winding 27 = .ok (.iconst 1, 1) := by decide +kernel
theorem dC_winding_28 : decode cC_winding 28 = .ok (.iconst 1, 1) := by decide +kernel
theorem dC_winding_29 : decode cC_winding 29 = .ok (.invokevirtual 94, 3) := by decide +kernel
theorem dC_winding_32 : decode cC_winding 32 = .ok (.aload_n 0, 1) := by decide +kernel
theorem dC_winding_33 : decode cC_winding 33 = .ok (.getfield 26, 3) := by decide +kernel
theorem dC_winding_36 : decode cC_winding 36 = .ok (.iconst 0, 1) := by decide +kernel
theorem dC_winding_37 : decode cC_winding 37 = .ok (.iaload, 1) := by decide +kernel
theorem dC_winding_38 : decode cC_winding 38 = .ok (.ireturn, 1) := by decide +kernel
theorem dC_canBeAsked_0 : decode cC_canBeAsked 0 = .ok (.iload_n 0, 1) := by decide +kernel
theorem dC_canBeAsked_1 : decode cC_canBeAsked 1 = .ok (.sipush (-16384), 3) := by decide +kernel
theorem dC_canBeAsked_4 : decode cC_canBeAsked 4 = .ok (.if_icmp .lt 14, 3) := by decide +kernel
theorem dC_canBeAsked_7 : decode cC_canBeAsked 7 = .ok (.iload_n 0, 1) := by decide +kernel
theorem dC_canBeAsked_8 : decode cC_canBeAsked 8 = .ok (.sipush 16383, 3) := by decide +kernel
theorem dC_canBeAsked_11 : decode cC_canBeAsked 11 = .ok (.if_icmp .gt 7, 3) := by decide +kernel
theorem dC_canBeAsked_14 : decode cC_canBeAsked 14 = .ok (.iconst 1, 1) := by decide +kernel
theorem dC_canBeAsked_15 : decode cC_canBeAsked 15 = .ok (.goto 4, 3) := by decide +kernel
theorem dC_canBeAsked_18 : decode cC_canBeAsked 18 = .ok (.iconst 0, 1) := by decide +kernel
theorem dC_canBeAsked_19 : decode cC_canBeAsked 19 = .ok (.ireturn, 1) := by decide +kernel
theorem dC_row_0 : decode cC_row 0 = .ok (.iload_n 1, 1) := by decide +kernel
theorem dC_row_1 : decode cC_row 1 = .ok (.invokestatic 98, 3) := by decide +kernel
theorem dC_row_4 : decode cC_row 4 = .ok (.ifCond .ne 13, 3) := by decide +kernel
theorem dC_row_7 : decode cC_row 7 = .ok (.new 101, 3) := by decide +kernel
theorem dC_row_10 : decode cC_row 10 = .ok (.dup, 1) := by decide +kernel
theorem dC_row_11 : decode cC_row 11 = .ok (.ldc 103, 2) := by decide +kernel
theorem dC_row_13 : decode cC_row 13 = .ok (.invokespecial 105, 3) := by decide +kernel
theorem dC_row_16 : decode cC_row 16 = .ok (.athrow, 1) := by decide +kernel
theorem dC_row_17 : decode cC_row 17 = .ok (.aload_n 0, 1) := by decide +kernel
theorem dC_row_18 : decode cC_row 18 = .ok (.iload_n 1, 1) := by decide +kernel
theorem dC_row_19 : decode cC_row 19 = .ok (.invokevirtual 106, 3) := by decide +kernel
theorem dC_row_22 : decode cC_row 22 = .ok (.lreturn, 1) := by decide +kernel
theorem dC_isInPicture_0 : decode cC_isInPicture 0 = .ok (.iload_n 0, 1) := by decide +kernel
theorem dC_isInPicture_1 : decode cC_isInPicture 1 = .ok (.ifCond .lt 13, 3) := by decide +kernel
theorem dC_isInPicture_4 : decode cC_isInPicture 4 = .ok (.iload_n 0, 1) := by decide +kernel
theorem dC_isInPicture_5 : decode cC_isInPicture 5 = .ok (.bipush 64, 2) := by decide +kernel
theorem dC_isInPicture_7 : decode cC_isInPicture 7 = .ok (.if_icmp .ge 7, 3) := by decide +kernel
theorem dC_isInPicture_10 : decode cC_isInPicture 10 = .ok (.iconst 1, 1) := by decide +kernel
theorem dC_isInPicture_11 : decode cC_isInPicture 11 = .ok (.goto 4, 3) := by decide +kernel
theorem dC_isInPicture_14 : decode cC_isInPicture 14 = .ok (.iconst 0, 1) := by decide +kernel
theorem dC_isInPicture_15 : decode cC_isInPicture 15 = .ok (.ireturn, 1) := by decide +kernel
theorem dC_share_0 : decode cC_share 0 = .ok (.iload_n 1, 1) := by decide +kernel
theorem dC_share_1 : decode cC_share 1 = .ok (.invokestatic 98, 3) := by decide +kernel
theorem dC_share_4 : decode cC_share 4 = .ok (.ifCond .eq 10, 3) := by decide +kernel
theorem dC_share_7 : decode cC_share 7 = .ok (.iload_n 2, 1) := by decide +kernel
theorem dC_share_8 : decode cC_share 8 = .ok (.invokestatic 98, 3) := by decide +kernel
theorem dC_share_11 : decode cC_share 11 = .ok (.ifCond .ne 13, 3) := by decide +kernel
theorem dC_share_14 : decode cC_share 14 = .ok (.new 101, 3) := by decide +kernel
theorem dC_share_17 : decode cC_share 17 = .ok (.dup, 1) := by decide +kernel
theorem dC_share_18 : decode cC_share 18 = .ok (.ldc 110, 2) := by decide +kernel
theorem dC_share_20 : decode cC_share 20 = .ok (.invokespecial 105, 3) := by decide +kernel
theorem dC_share_23 : decode cC_share 23 = .ok (.athrow, 1) := by decide +kernel
theorem dC_share_24 : decode cC_share 24 = .ok (.iconst 0, 1) := by decide +kernel
theorem dC_share_25 : decode cC_share 25 = .ok (.istore_n 3, 1) := by decide +kernel
theorem dC_share_26 : decode cC_share 26 = .ok (.iconst 0, 1) := by decide +kernel
theorem dC_share_27 : decode cC_share 27 = .ok (.istore 4, 2) := by decide +kernel
theorem dC_share_29 : decode cC_share 29 = .ok (.iload 4, 2) := by decide +kernel
theorem dC_share_31 : decode cC_share 31 = .ok (.iconst 4, 1) := by decide +kernel
theorem dC_share_32 : decode cC_share 32 = .ok (.if_icmp .ge 68, 3) := by decide +kernel
theorem dC_share_35 : decode cC_share 35 = .ok (.aload_n 0, 1) := by decide +kernel
theorem dC_share_36 : decode cC_share 36 = .ok (.iload_n 2, 1) := by decide +kernel
theorem dC_share_37 : decode cC_share 37 = .ok (.invokestatic 112, 3) := by decide +kernel
theorem dC_share_40 : decode cC_share 40 = .ok (.bipush 8, 2) := by decide +kernel
theorem dC_share_42 : decode cC_share 42 = .ok (.iadd, 1) := by decide +kernel
theorem dC_share_43 : decode cC_share 43 = .ok (.bipush 16, 2) := by decide +kernel
theorem dC_share_45 : decode cC_share 45 = .ok (.iload 4, 2) := by decide +kernel
theorem dC_share_47 : decode cC_share 47 = .ok (.imul, 1) := by decide +kernel
theorem dC_share_48 : decode cC_share 48 = .ok (.iadd, 1) := by decide +kernel
theorem dC_share_49 : decode cC_share 49 = .ok (.bipush 64, 2) := by decide +kernel
theorem dC_share_51 : decode cC_share 51 = .ok (.iload_n 1, 1) := by decide +kernel
theorem dC_share_52 : decode cC_share 52 = .ok (.imul, 1) := by decide +kernel
theorem dC_share_53 : decode cC_share 53 = .ok (.bipush 8, 2) := by decide +kernel
theorem dC_share_55 : decode cC_share 55 = .ok (.iadd, 1) := by decide +kernel
theorem dC_share_56 : decode cC_share 56 = .ok (.bipush 16, 2) := by decide +kernel
theorem dC_share_58 : decode cC_share 58 = .ok (.iconst 4, 1) := by decide +kernel
theorem dC_share_59 : decode cC_share 59 = .ok (.invokevirtual 94, 3) := by decide +kernel
theorem dC_share_62 : decode cC_share 62 = .ok (.iconst 0, 1) := by decide +kernel
theorem dC_share_63 : decode cC_share 63 = .ok (.istore 5, 2) := by decide +kernel
theorem dC_share_65 : decode cC_share 65 = .ok (.iload 5, 2) := by decide +kernel
theorem dC_share_67 : decode cC_share 67 = .ok (.iconst 4, 1) := by decide +kernel
theorem dC_share_68 : decode cC_share 68 = .ok (.if_icmp .ge 26, 3) := by decide +kernel
theorem dC_share_71 : decode cC_share 71 = .ok (.aload_n 0, 1) := by decide +kernel
theorem dC_share_72 : decode cC_share 72 = .ok (.aload_n 0, 1) := by decide +kernel
theorem dC_share_73 : decode cC_share 73 = .ok (.getfield 26, 3) := by decide +kernel
theorem dC_share_76 : decode cC_share 76 = .ok (.iload 5, 2) := by decide +kernel
theorem dC_share_78 : decode cC_share 78 = .ok (.iaload, 1) := by decide +kernel
theorem dC_share_79 : decode cC_share 79 = .ok (.invokevirtual 116, 3) := by decide +kernel
theorem dC_share_82 : decode cC_share 82 = .ok (.ifCond .eq 6, 3) := by decide +kernel
theorem dC_share_85 : decode cC_share 85 = .ok (.iinc 3 1, 3) := by decide +kernel
theorem dC_share_88 : decode cC_share 88 = .ok (.iinc 5 1, 3) := by decide +kernel
theorem dC_share_91 : decode cC_share 91 = .ok (.goto (-26), 3) := by decide +kernel
theorem dC_share_94 : decode cC_share 94 = .ok (.iinc 4 1, 3) := by decide +kernel
theorem dC_share_97 : decode cC_share 97 = .ok (.goto (-68), 3) := by decide +kernel
theorem dC_share_100 : decode cC_share 100 = .ok (.iload_n 3, 1) := by decide +kernel
theorem dC_share_101 : decode cC_share 101 = .ok (.ireturn, 1) := by decide +kernel
theorem dC_spans_0 : decode cC_spans 0 = .ok (.iload_n 1, 1) := by decide +kernel
theorem dC_spans_1 : decode cC_spans 1 = .ok (.invokestatic 98, 3) := by decide +kernel
theorem dC_spans_4 : decode cC_spans 4 = .ok (.ifCond .ne 13, 3) := by decide +kernel
theorem dC_spans_7 : decode cC_spans 7 = .ok (.new 101, 3) := by decide +kernel
theorem dC_spans_10 : decode cC_spans 10 = .ok (.dup, 1) := by decide +kernel
theorem dC_spans_11 : decode cC_spans 11 = .ok (.ldc 103, 2) := by decide +kernel
theorem dC_spans_13 : decode cC_spans 13 = .ok (.invokespecial 105, 3) := by decide +kernel
theorem dC_spans_16 : decode cC_spans 16 = .ok (.athrow, 1) := by decide +kernel
theorem dC_spans_17 : decode cC_spans 17 = .ok (.aload_n 0, 1) := by decide +kernel
theorem dC_spans_18 : decode cC_spans 18 = .ok (.iload_n 1, 1) := by decide +kernel
theorem dC_spans_19 : decode cC_spans 19 = .ok (.invokevirtual 106, 3) := by decide +kernel
theorem dC_spans_22 : decode cC_spans 22 = .ok (.invokestatic 119, 3) := by decide +kernel
theorem dC_spans_25 : decode cC_spans 25 = .ok (.invokestatic 123, 3) := by decide +kernel
theorem dC_spans_28 : decode cC_spans 28 = .ok (.ireturn, 1) := by decide +kernel
theorem dC_firstsOf_0 : decode cC_firstsOf 0 = .ok (.lload_n 0, 1) := by decide +kernel
theorem dC_firstsOf_1 : decode cC_firstsOf 1 = .ok (.lload_n 0, 1) := by decide +kernel
theorem dC_firstsOf_2 : decode cC_firstsOf 2 = .ok (.iconst 1, 1) := by decide +kernel
theorem dC_firstsOf_3 : decode cC_firstsOf 3 = .ok (.lshl, 1) := by decide +kernel
theorem dC_firstsOf_4 : decode cC_firstsOf 4 = .ok (.ldc2_w 169, 3) := by decide +kernel
theorem dC_firstsOf_7 : decode cC_firstsOf 7 = .ok (.lxor, 1) := by decide +kernel
theorem dC_firstsOf_8 : decode cC_firstsOf 8 = .ok (.land, 1) := by decide +kernel
theorem dC_firstsOf_9 : decode cC_firstsOf 9 = .ok (.lreturn, 1) := by decide +kernel
theorem dC_span_0 : decode cC_span 0 = .ok (.iload_n 1, 1) := by decide +kernel
theorem dC_span_1 : decode cC_span 1 = .ok (.invokestatic 98, 3) := by decide +kernel
theorem dC_span_4 : decode cC_span 4 = .ok (.ifCond .ne 13, 3) := by decide +kernel
theorem dC_span_7 : decode cC_span 7 = .ok (.new 101, 3) := by decide +kernel
theorem dC_span_10 : decode cC_span 10 = .ok (.dup, 1) := by decide +kernel
theorem dC_span_11 : decode cC_span 11 = .ok (.ldc 103, 2) := by decide +kernel
theorem dC_span_13 : decode cC_span 13 = .ok (.invokespecial 105, 3) := by decide +kernel
theorem dC_span_16 : decode cC_span 16 = .ok (.athrow, 1) := by decide +kernel
theorem dC_span_17 : decode cC_span 17 = .ok (.aload_n 0, 1) := by decide +kernel
theorem dC_span_18 : decode cC_span 18 = .ok (.iload_n 1, 1) := by decide +kernel
theorem dC_span_19 : decode cC_span 19 = .ok (.invokevirtual 106, 3) := by decide +kernel
theorem dC_span_22 : decode cC_span 22 = .ok (.lstore 4, 2) := by decide +kernel
theorem dC_span_24 : decode cC_span 24 = .ok (.iload_n 3, 1) := by decide +kernel
theorem dC_span_25 : decode cC_span 25 = .ok (.ifCond .eq 11, 3) := by decide +kernel
theorem dC_span_28 : decode cC_span 28 = .ok (.lload 4, 2) := by decide +kernel
theorem dC_span_30 : decode cC_span 30 = .ok (.invokestatic 129, 3) := by decide +kernel
theorem dC_span_33 : decode cC_span 33 = .ok (.goto 8, 3) := by decide +kernel
theorem dC_span_36 : decode cC_span 36 = .ok (.lload 4, 2) := by decide +kernel
theorem dC_span_38 : decode cC_span 38 = .ok (.invokestatic 119, 3) := by decide +kernel
theorem dC_span_41 : decode cC_span 41 = .ok (.iload_n 2, 1) := by decide +kernel
theorem dC_span_42 : decode cC_span 42 = .ok (.invokestatic 132, 3) := by decide +kernel
theorem dC_span_45 : decode cC_span 45 = .ok (.istore 6, 2) := by decide +kernel
theorem dC_span_47 : decode cC_span 47 = .ok (.iload_n 3, 1) := by decide +kernel
theorem dC_span_48 : decode cC_span 48 = .ok (.ifCond .eq 16, 3) := by decide +kernel
theorem dC_span_51 : decode cC_span 51 = .ok (.iload 6, 2) := by decide +kernel
theorem dC_span_53 : decode cC_span 53 = .ok (.iconst (-1), 1) := by decide +kernel
theorem dC_span_54 : decode cC_span 54 = .ok (.if_icmp .eq 10, 3) := by decide +kernel
theorem dC_span_57 : decode cC_span 57 = .ok (.iload 6, 2) := by decide +kernel
theorem dC_span_59 : decode cC_span 59 = .ok (.iconst 1, 1) := by decide +kernel
theorem dC_span_60 : decode cC_span 60 = .ok (.iadd, 1) := by decide +kernel
theorem dC_span_61 : decode cC_span 61 = .ok (.goto 5, 3) := by decide +kernel
theorem dC_span_64 : decode cC_span 64 = .ok (.iload 6, 2) := by decide +kernel
theorem dC_span_66 : decode cC_span 66 = .ok (.ireturn, 1) := by decide +kernel
theorem dC_lastsOf_0 : decode cC_lastsOf 0 = .ok (.lload_n 0, 1) := by decide +kernel
theorem dC_lastsOf_1 : decode cC_lastsOf 1 = .ok (.lload_n 0, 1) := by decide +kernel
theorem dC_lastsOf_2 : decode cC_lastsOf 2 = .ok (.iconst 1, 1) := by decide +kernel
theorem dC_lastsOf_3 : decode cC_lastsOf 3 = .ok (.lushr, 1) := by decide +kernel
theorem dC_lastsOf_4 : decode cC_lastsOf 4 = .ok (.ldc2_w 169, 3) := by decide +kernel
theorem dC_lastsOf_7 : decode cC_lastsOf 7 = .ok (.lxor, 1) := by decide +kernel
theorem dC_lastsOf_8 : decode cC_lastsOf 8 = .ok (.land, 1) := by decide +kernel
theorem dC_lastsOf_9 : decode cC_lastsOf 9 = .ok (.lreturn, 1) := by decide +kernel
theorem dC_bitNumber_0 : decode cC_bitNumber 0 = .ok (.iconst 0, 1) := by decide +kernel
theorem dC_bitNumber_1 : decode cC_bitNumber 1 = .ok (.istore_n 3, 1) := by decide +kernel
theorem dC_bitNumber_2 : decode cC_bitNumber 2 = .ok (.iconst 0, 1) := by decide +kernel
theorem dC_bitNumber_3 : decode cC_bitNumber 3 = .ok (.istore 4, 2) := by decide +kernel
theorem dC_bitNumber_5 : decode cC_bitNumber 5 = .ok (.iload 4, 2) := by decide +kernel
theorem dC_bitNumber_7 : decode cC_bitNumber 7 = .ok (.bipush 64, 2) := by decide +kernel
theorem dC_bitNumber_9 : decode cC_bitNumber 9 = .ok (.if_icmp .ge 31, 3) := by decide +kernel
theorem dC_bitNumber_12 : decode cC_bitNumber 12 = .ok (.lload_n 0, 1) := by decide +kernel
theorem dC_bitNumber_13 : decode cC_bitNumber 13 = .ok (.iload 4, 2) := by decide +kernel
theorem dC_bitNumber_15 : decode cC_bitNumber 15 = .ok (.lushr, 1) := by decide +kernel
theorem dC_bitNumber_16 : decode cC_bitNumber 16 = .ok (.lconst 1, 1) := by decide +kernel
theorem dC_bitNumber_17 : decode cC_bitNumber 17 = .ok (.land, 1) := by decide +kernel
theorem dC_bitNumber_18 : decode cC_bitNumber 18 = .ok (.lconst 0, 1) := by decide +kernel
theorem dC_bitNumber_19 : decode cC_bitNumber 19 = .ok (.lcmp, 1) := by decide +kernel
theorem dC_bitNumber_20 : decode cC_bitNumber 20 = .ok (.ifCond .eq 14, 3) := by decide +kernel
theorem dC_bitNumber_23 : decode cC_bitNumber 23 = .ok (.iload_n 3, 1) := by decide +kernel
theorem dC_bitNumber_24 : decode cC_bitNumber 24 = .ok (.iload_n 2, 1) := by decide +kernel
theorem dC_bitNumber_25 : decode cC_bitNumber 25 = .ok (.if_icmp .ne 6, 3) := by decide +kernel
theorem dC_bitNumber_28 : decode cC_bitNumber 28 = .ok (.iload 4, 2) := by decide +kernel
theorem dC_bitNumber_30 : decode cC_bitNumber 30 = .ok (.ireturn, 1) := by decide +kernel
theorem dC_bitNumber_31 : decode cC_bitNumber 31 = .ok (.iinc 3 1, 3) := by decide +kernel
theorem dC_bitNumber_34 : decode cC_bitNumber 34 = .ok (.iinc 4 1, 3) := by decide +kernel
theorem dC_bitNumber_37 : decode cC_bitNumber 37 = .ok (.goto (-32), 3) := by decide +kernel
theorem dC_bitNumber_40 : decode cC_bitNumber 40 = .ok (.iconst (-1), 1) := by decide +kernel
theorem dC_bitNumber_41 : decode cC_bitNumber 41 = .ok (.ireturn, 1) := by decide +kernel
theorem dC_extent_0 : decode cC_extent 0 = .ok (.iload_n 1, 1) := by decide +kernel
theorem dC_extent_1 : decode cC_extent 1 = .ok (.ifCond .lt 8, 3) := by decide +kernel
theorem dC_extent_4 : decode cC_extent 4 = .ok (.iload_n 1, 1) := by decide +kernel
theorem dC_extent_5 : decode cC_extent 5 = .ok (.iconst 3, 1) := by decide +kernel
theorem dC_extent_6 : decode cC_extent 6 = .ok (.if_icmp .le 13, 3) := by decide +kernel
theorem dC_extent_9 : decode cC_extent 9 = .ok (.new 101, 3) := by decide +kernel
theorem dC_extent_12 : decode cC_extent 12 = .ok (.dup, 1) := by decide +kernel
theorem dC_extent_13 : decode cC_extent 13 = .ok (.ldc 136, 2) := by decide +kernel
theorem dC_extent_15 : decode cC_extent 15 = .ok (.invokespecial 105, 3) := by decide +kernel
theorem dC_extent_18 : decode cC_extent 18 = .ok (.athrow, 1) := by decide +kernel
theorem dC_extent_19 : decode cC_extent 19 = .ok (.aload_n 0, 1) := by decide +kernel
theorem dC_extent_20 : decode cC_extent 20 = .ok (.getfield 36, 3) := by decide +kernel
theorem dC_extent_23 : decode cC_extent 23 = .ok (.ifCond .ne 13, 3) := by decide +kernel
theorem dC_extent_26 : decode cC_extent 26 = .ok (.new 61, 3) := by decide +kernel
theorem dC_extent_29 : decode cC_extent 29 = .ok (.dup, 1) := by decide +kernel
theorem dC_extent_30 : decode cC_extent 30 = .ok (.ldc 138, 2) := by decide +kernel
theorem dC_extent_32 : decode cC_extent 32 = .ok (.invokespecial 65, 3) := by decide +kernel
theorem dC_extent_35 : decode cC_extent 35 = .ok (.athrow, 1) := by decide +kernel
theorem dC_extent_36 : decode cC_extent 36 = .ok (.iload_n 1, 1) := by decide +kernel
theorem dC_extent_37 : decode cC_extent 37 = .ok (.iconst 2, 1) := by decide +kernel
theorem dC_extent_38 : decode cC_extent 38 = .ok (.if_icmp .ge 7, 3) := by decide +kernel
theorem dC_extent_41 : decode cC_extent 41 = .ok (.iconst 1, 1) := by decide +kernel
theorem dC_extent_42 : decode cC_extent 42 = .ok (.goto 4, 3) := by decide +kernel
theorem dC_extent_45 : decode cC_extent 45 = .ok (.iconst 0, 1) := by decide +kernel
theorem dC_extent_46 : decode cC_extent 46 = .ok (.istore_n 2, 1) := by decide +kernel
theorem dC_extent_47 : decode cC_extent 47 = .ok (.iload_n 2, 1) := by decide +kernel
theorem dC_extent_48 : decode cC_extent 48 = .ok (.ifCond .eq 9, 3) := by decide +kernel
theorem dC_extent_51 : decode cC_extent 51 = .ok (.sipush 8191, 3) := by decide +kernel
theorem dC_extent_54 : decode cC_extent 54 = .ok (.goto 6, 3) := by decide +kernel
theorem dC_extent_57 : decode cC_extent 57 = .ok (.sipush (-8192), 3) := by decide +kernel
theorem dC_extent_60 : decode cC_extent 60 = .ok (.istore_n 3, 1) := by decide +kernel
theorem dC_extent_61 : decode cC_extent 61 = .ok (.iconst 0, 1) := by decide +kernel
theorem dC_extent_62 : decode cC_extent 62 = .ok (.istore 4, 2) := by decide +kernel
theorem dC_extent_64 : decode cC_extent 64 = .ok (.iload 4, 2) := by decide +kernel
theorem dC_extent_66 : decode cC_extent 66 = .ok (.aload_n 0, 1) := by decide +kernel
theorem dC_extent_67 : decode cC_extent 67 = .ok (.getfield 43, 3) := by decide +kernel
theorem dC_extent_70 : decode cC_extent 70 = .ok (.if_icmp .ge 51, 3) := by decide +kernel
theorem dC_extent_73 : decode cC_extent 73 = .ok (.aload_n 0, 1) := by decide +kernel
theorem dC_extent_74 : decode cC_extent 74 = .ok (.getfield 22, 3) := by decide +kernel
theorem dC_extent_77 : decode cC_extent 77 = .ok (.iload 4, 2) := by decide +kernel
theorem dC_extent_79 : decode cC_extent 79 = .ok (.aaload, 1) := by decide +kernel
theorem dC_extent_80 : decode cC_extent 80 = .ok (.astore 5, 2) := by decide +kernel
theorem dC_extent_82 : decode cC_extent 82 = .ok (.aload 5, 2) := by decide +kernel
theorem dC_extent_84 : decode cC_extent 84 = .ok (.ifnull 31, 3) := by decide +kernel
theorem dC_extent_87 : decode cC_extent 87 = .ok (.aload 5, 2) := by decide +kernel
theorem dC_extent_89 : decode cC_extent 89 = .ok (.iload_n 1, 1) := by decide +kernel
theorem dC_extent_90 : decode cC_extent 90 = .ok (.invokevirtual 140, 3) := by decide +kernel
theorem dC_extent_93 : decode cC_extent 93 = .ok (.istore 6, 2) := by decide +kernel
theorem dC_extent_95 : decode cC_extent 95 = .ok (.iload_n 2, 1) := by decide +kernel
theorem dC_extent_96 : decode cC_extent 96 = .ok (.ifCond .eq 12, 3) := by decide +kernel
theorem dC_extent_99 : decode cC_extent 99 = .ok (.iload_n 3, 1) := by decide +kernel
theorem dC_extent_100 : decode cC_extent 100 = .ok (.iload 6, 2) := by decide +kernel
theorem dC_extent_102 : decode cC_extent 102 = .ok (.invokestatic 143, 3) := by decide +kernel
theorem dC_extent_105 : decode cC_extent 105 = .ok (.goto 9, 3) := by decide +kernel
theorem dC_extent_108 : decode cC_extent 108 = .ok (.iload_n 3, 1) := by decide +kernel
theorem dC_extent_109 : decode cC_extent 109 = .ok (.iload 6, 2) := by decide +kernel
theorem dC_extent_111 : decode cC_extent 111 = .ok (.invokestatic 149, 3) := by decide +kernel
theorem dC_extent_114 : decode cC_extent 114 = .ok (.istore_n 3, 1) := by decide +kernel
theorem dC_extent_115 : decode cC_extent 115 = .ok (.iinc 4 1, 3) := by decide +kernel
theorem dC_extent_118 : decode cC_extent 118 = .ok (.goto (-54), 3) := by decide +kernel
theorem dC_extent_121 : decode cC_extent 121 = .ok (.iload_n 3, 1) := by decide +kernel
theorem dC_extent_122 : decode cC_extent 122 = .ok (.ireturn, 1) := by decide +kernel
end
section
/-! decode rows -/
theorem dM_init_0 : decode cM_init 0 = .ok (.aload_n 0, 1) := by decide +kernel
theorem dM_init_1 : decode cM_init 1 = .ok (.invokespecial 1, 3) := by decide +kernel
theorem dM_init_4 : decode cM_init 4 = .ok (.aload_n 0, 1) := by decide +kernel
theorem dM_init_5 : decode cM_init 5 = .ok (.sipush 512, 3) := by decide +kernel
theorem dM_init_8 : decode cM_init 8 = .ok (.newarray .int, 2) := by decide +kernel
theorem dM_init_10 : decode cM_init 10 = .ok (.putfield 7, 3) := by decide +kernel
theorem dM_init_13 : decode cM_init 13 = .ok (.aload_n 0, 1) := by decide +kernel
theorem dM_init_14 : decode cM_init 14 = .ok (.sipush 512, 3) := by decide +kernel
theorem dM_init_17 : decode cM_init 17 = .ok (.newarray .int, 2) := by decide +kernel
theorem dM_init_19 : decode cM_init 19 = .ok (.putfield 13, 3) := by decide +kernel
theorem dM_init_22 : decode cM_init 22 = .ok (.aload_n 0, 1) := by decide +kernel
theorem dM_init_23 : decode cM_init 23 = .ok (.sipush 512, 3) := by decide +kernel
theorem dM_init_26 : decode cM_init 26 = .ok (.newarray .boolean, 2) := by decide +kernel
theorem dM_init_28 : decode cM_init 28 = .ok (.putfield 16, 3) := by decide +kernel
theorem dM_init_31 : decode cM_init 31 = .ok (.aload_n 0, 1) := by decide +kernel
theorem dM_init_32 : decode cM_init 32 = .ok (.bipush 64, 2) := by decide +kernel
theorem dM_init_34 : decode cM_init 34 = .ok (.newarray .int, 2) := by decide +kernel
theorem dM_init_36 : decode cM_init 36 = .ok (.putfield 20, 3) := by decide +kernel
theorem dM_init_39 : decode cM_init 39 = .ok (.aload_n 0, 1) := by decide +kernel
theorem dM_init_40 : decode cM_init 40 = .ok (.sipush 1024, 3) := by decide +kernel
theorem dM_init_43 : decode cM_init 43 = .ok (.newarray .int, 2) := by decide +kernel
theorem dM_init_45 : decode cM_init 45 = .ok (.putfield 23, 3) := by decide +kernel
theorem dM_init_48 : decode cM_init 48 = .ok (.aload_n 0, 1) := by decide +kernel
theorem dM_init_49 : decode cM_init 49 = .ok (.sipush 1024, 3) := by decide +kernel
theorem dM_init_52 : decode cM_init 52 = .ok (.newarray .int, 2) := by decide +kernel
theorem dM_init_54 : decode cM_init 54 = .ok (.putfield 26, 3) := by decide +kernel
theorem dM_init_57 : decode cM_init 57 = .ok (.aload_n 0, 1) := by decide +kernel
theorem dM_init_58 : decode cM_init 58 = .ok (.sipush 1024, 3) := by decide +kernel
theorem dM_init_61 : decode cM_init 61 = .ok (.newarray .boolean, 2) := by decide +kernel
theorem dM_init_63 : decode cM_init 63 = .ok (.putfield 29, 3) := by decide +kernel
theorem dM_init_66 : decode cM_init 66 = .ok (.aload_n 0, 1) := by decide +kernel
theorem dM_init_67 : decode cM_init 67 = .ok (.sipush 3072, 3) := by decide +kernel
theorem dM_init_70 : decode cM_init 70 = .ok (.newarray .int, 2) := by decide +kernel
theorem dM_init_72 : decode cM_init 72 = .ok (.putfield 32, 3) := by decide +kernel
theorem dM_init_75 : decode cM_init 75 = .ok (.aload_n 0, 1) := by decide +kernel
theorem dM_init_76 : decode cM_init 76 = .ok (.sipush 512, 3) := by decide +kernel
theorem dM_init_79 : decode cM_init 79 = .ok (.newarray .boolean, 2) := by decide +kernel
theorem dM_init_81 : decode cM_init 81 = .ok (.putfield 35, 3) := by decide +kernel
theorem dM_init_84 : decode cM_init 84 = .ok (.return_, 1) := by decide +kernel
theorem dM_thrown_0 : decode cM_thrown 0 = .ok (.aload_n 0, 1) := by decide +kernel
theorem dM_thrown_1 : decode cM_thrown 1 = .ok (.getfield 38, 3) := by decide +kernel
theorem dM_thrown_4 : decode cM_thrown 4 = .ok (.ireturn, 1) := by decide +kernel
theorem dM_add_0 : decode cM_add 0 = .ok (.aload_n 0, 1) := by decide +kernel
theorem dM_add_1 : decode cM_add 1 = .ok (.iload_n 1, 1) := by decide +kernel
theorem dM_add_2 : decode cM_add 2 = .ok (.i2l, 1) := by decide +kernel
theorem dM_add_3 : decode cM_add 3 = .ok (.invokestatic 56, 3) := by decide +kernel
theorem dM_add_6 : decode cM_add 6 = .ok (.ifCond .eq 11, 3) := by decide +kernel
theorem dM_add_9 : decode cM_add 9 = .ok (.iload_n 2, 1) := by decide +kernel
theorem dM_add_10 : decode cM_add 10 = .ok (.i2l, 1) := by decide +kernel
theorem dM_add_11 : decode cM_add 11 = .ok (.invokestatic 56, 3) := by decide +kernel
theorem dM_add_14 : decode cM_add 14 = .ok (.ifCond .ne 7, 3) := by decide +kernel
theorem dM_add_17 : decode cM_add 17 = .ok (.iconst 1, 1) := by decide +kernel
theorem dM_add_18 : decode cM_add 18 = .ok (.goto 18, 3) := by decide +kernel
theorem dM_add_21 : decode cM_add 21 = .ok (.aload_n 0, 1) := by decide +kernel
theorem dM_add_22 : decode cM_add 22 = .ok (.getfield 46, 3) := by decide +kernel
theorem dM_add_25 : decode cM_add 25 = .ok (.sipush 512, 3) := by decide +kernel
theorem dM_add_28 : decode cM_add 28 = .ok (.if_icmp .ne 7, 3) := by decide +kernel
theorem dM_add_31 : decode cM_add 31 = .ok (.iconst 2, 1) := by decide +kernel
theorem dM_add_32 : decode cM_add 32 = .ok (.goto 4, 3) := by decide +kernel
theorem dM_add_35 : decode cM_add 35 = .ok (.iconst 0, 1) := by decide +kernel
theorem dM_add_36 : decode cM_add 36 = .ok (.invokevirtual 60, 3) := by decide +kernel
theorem dM_add_39 : decode cM_add 39 = .ok (.ifCond .eq 5, 3) := by decide +kernel
theorem dM_add_42 : decode cM_add 42 = .ok (.iconst 0, 1) := by decide +kernel
theorem dM_add_43 : decode cM_add 43 = .ok (.ireturn, 1) := by decide +kernel
theorem dM_add_44 : decode cM_add 44 = .ok (.aload_n 0, 1) := by decide +kernel
theorem dM_add_45 : decode cM_add 45 = .ok (.getfield 7, 3) := by decide +kernel
theorem dM_add_48 : decode cM_add 48 = .ok (.aload_n 0, 1) := by decide +kernel
theorem dM_add_49 : decode cM_add 49 = .ok (.getfield 46, 3) := by decide +kernel
theorem dM_add_52 : decode cM_add 52 = .ok (.iload_n 1, 1) := by decide +kernel
theorem dM_add_53 : decode cM_add 53 = .ok (.iastore, 1) := by decide +kernel
theorem dM_add_54 : decode cM_add 54 = .ok (.aload_n 0, 1) := by decide +kernel
theorem dM_add_55 : decode cM_add 55 = .ok (.getfield 13, 3) := by decide +kernel
theorem dM_add_58 : decode cM_add 58 = .ok (.aload_n 0, 1) := by decide +kernel
theorem dM_add_59 : decode cM_add 59 = .ok (.getfield 46, 3) := by decide +kernel
theorem dM_add_62 : decode cM_add 62 = .ok (.iload_n 2, 1) := by decide +kernel
theorem dM_add_63 : decode cM_add 63 = .ok (.iastore, 1) := by decide +kernel
theorem dM_add_64 : decode cM_add 64 = .ok (.aload_n 0, 1) := by decide +kernel
theorem dM_add_65 : decode cM_add 65 = .ok (.getfield 16, 3) := by decide +kernel
theorem dM_add_68 : decode cM_add 68 = .ok (.aload_n 0, 1) := by decide +kernel
theorem dM_add_69 : decode cM_add 69 = .ok (.getfield 46, 3) := by decide +kernel
theorem dM_add_72 : decode cM_add 72 = .ok (.iload_n 3, 1) := by decide +kernel
theorem dM_add_73 : decode cM_add 73 = .ok (.bastore, 1) := by decide +kernel
theorem dM_add_74 : decode cM_add 74 = .ok (.aload_n 0, 1) := by decide +kernel
theorem dM_add_75 : decode cM_add 75 = .ok (.dup, 1) := by decide +kernel
theorem dM_add_76 : decode cM_add 76 = .ok (.getfield 46, 3) := by decide +kernel
theorem dM_add_79 : decode cM_add 79 = .ok (.iconst 1, 1) := by decide +kernel
theorem dM_add_80 : decode cM_add 80 = .ok (.iadd, 1) := by decide +kernel
theorem dM_add_81 : decode cM_add 81 = .ok (.putfield 46, 3) := by decide +kernel
theorem dM_add_84 : decode cM_add 84 = .ok (.aload_n 0, 1) := by decide +kernel
theorem dM_add_85 : decode cM_add 85 = .ok (.invokevirtual 64, 3) := by decide +kernel
theorem dM_add_88 : decode cM_add 88 = .ok (.ireturn, 1) := by decide +kernel
theorem dM_isCoordinate_0 : decode cM_isCoordinate 0 = .ok (.lload_n 0, 1) := by decide +kernel
theorem dM_isCoordinate_1 : decode cM_isCoordinate 1 = .ok (.ldc2_w 42, 3) := by decide +kernel
theorem dM_isCoordinate_4 : decode cM_isCoordinate 4 = .ok (.lcmp, 1) := by decide +kernel
theorem dM_isCoordinate_5 : decode cM_isCoordinate 5 = .ok (.ifCond .lt 15, 3) := by decide +kernel
theorem dM_isCoordinate_8 : decode cM_isCoordinate 8 = .ok (.lload_n 0, 1) := by decide +kernel
theorem dM_isCoordinate_9 : decode cM_isCoordinate 9 = .ok (.ldc2_w 44, 3) := by decide +kernel
theorem dM_isCoordinate_12 : decode cM_isCoordinate 12 = .ok (.lcmp, 1) := by decide +kernel
theorem dM_isCoordinate_13 : decode cM_isCoordinate 13 = .ok (.ifCond .gt 7, 3) := by decide +kernel
theorem dM_isCoordinate_16 : decode cM_isCoordinate 16 = .ok (.iconst 1, 1) := by decide +kernel
theorem dM_isCoordinate_17 : decode cM_isCoordinate 17 = .ok (.goto 4, 3) := by decide +kernel
theorem dM_isCoordinate_20 : decode cM_isCoordinate 20 = .ok (.iconst 0, 1) := by decide +kernel
theorem dM_isCoordinate_21 : decode cM_isCoordinate 21 = .ok (.ireturn, 1) := by decide +kernel
theorem dM_refused_0 : decode cM_refused 0 = .ok (.aload_n 0, 1) := by decide +kernel
theorem dM_refused_1 : decode cM_refused 1 = .ok (.iload_n 1, 1) := by decide +kernel
theorem dM_refused_2 : decode cM_refused 2 = .ok (.putfield 38, 3) := by decide +kernel
theorem dM_refused_5 : decode cM_refused 5 = .ok (.iload_n 1, 1) := by decide +kernel
theorem dM_refused_6 : decode cM_refused 6 = .ok (.ifCond .le 7, 3) := by decide +kernel
theorem dM_refused_9 : decode cM_refused 9 = .ok (.iconst 1, 1) := by decide +kernel
theorem dM_refused_10 : decode cM_refused 10 = .ok (.goto 4, 3) := by decide +kernel
theorem dM_refused_13 : decode cM_refused 13 = .ok (.iconst 0, 1) := by decide +kernel
theorem dM_refused_14 : decode cM_refused 14 = .ok (.ireturn, 1) := by decide +kernel
theorem dM_open_0 : decode cM_open 0 = .ok (.aload_n 0, 1) := by decide +kernel
theorem dM_open_1 : decode cM_open 1 = .ok (.getfield 46, 3) := by decide +kernel
theorem dM_open_4 : decode cM_open 4 = .ok (.aload_n 0, 1) := by decide +kernel
theorem dM_open_5 : decode cM_open 5 = .ok (.invokevirtual 49, 3) := by decide +kernel
theorem dM_open_8 : decode cM_open 8 = .ok (.isub, 1) := by decide +kernel
theorem dM_open_9 : decode cM_open 9 = .ok (.ireturn, 1) := by decide +kernel
theorem dM_closed_0 : decode cM_closed 0 = .ok (.aload_n 0, 1) := by decide +kernel
theorem dM_closed_1 : decode cM_closed 1 = .ok (.getfield 53, 3) := by decide +kernel
theorem dM_closed_4 : decode cM_closed 4 = .ok (.ifCond .ne 7, 3) := by decide +kernel
theorem dM_closed_7 : decode cM_closed 7 = .ok (.iconst 0, 1) := by decide +kernel
theorem dM_closed_8 : decode cM_closed 8 = .ok (.goto 14, 3) := by decide +kernel
theorem dM_closed_11 : decode cM_closed 11 = .ok (.aload_n 0, 1) := by decide +kernel
theorem dM_closed_12 : decode cM_closed 12 = .ok (.getfield 20, 3) := by decide +kernel
theorem dM_closed_15 : decode cM_closed 15 = .ok (.aload_n 0, 1) := by decide +kernel
theorem dM_closed_16 : decode cM_closed 16 = .ok (.getfield 53, 3) := by decide +kernel
theorem dM_closed_19 : decode cM_closed 19 = .ok (.iconst 1, 1) := by decide +kernel
theorem dM_closed_20 : decode cM_closed 20 = .ok (.isub, 1) := by decide +kernel
theorem dM_closed_21 : decode cM_closed 21 = .ok (.iaload, 1) := by decide +kernel
theorem dM_closed_22 : decode cM_closed 22 = .ok (.ireturn, 1) := by decide +kernel
theorem dM_close_0 : decode cM_close 0 = .ok (.aload_n 0, 1) := by decide +kernel
theorem dM_close_1 : decode cM_close 1 = .ok (.aload_n 0, 1) := by decide +kernel
theorem dM_close_2 : decode cM_close 2 = .ok (.invokevirtual 64, 3) := by decide +kernel
theorem dM_close_5 : decode cM_close 5 = .ok (.ifCond .eq 12, 3) := by decide +kernel
theorem dM_close_8 : decode cM_close 8 = .ok (.aload_n 0, 1) := by decide +kernel
theorem dM_close_9 : decode cM_close 9 = .ok (.getfield 53, 3) := by decide +kernel
theorem dM_close_12 : decode cM_close 12 = .ok (.bipush 64, 2) := by decide +kernel
theorem dM_close_14 : decode cM_close 14 = .ok (.if_icmp .ne 7, 3) := by decide +kernel
theorem dM_close_17 : decode cM_close 17 = .ok (.iconst 1, 1) := by decide +kernel
theorem dM_close_18 : decode cM_close 18 = .ok (.goto 4, 3) := by decide +kernel
theorem dM_close_21 : decode cM_close 21 = .ok (.iconst 0, 1) := by decide +kernel
theorem dM_close_22 : decode cM_close 22 = .ok (.invokevirtual 60, 3) := by decide +kernel
theorem dM_close_25 : decode cM_close 25 = .ok (.ifCond .eq 5, 3) := by decide +kernel
theorem dM_close_28 : decode cM_close 28 = .ok (.iconst 0, 1) := by decide +kernel
theorem dM_close_29 : decode cM_close 29 = .ok (.ireturn, 1) := by decide +kernel
theorem dM_close_30 : decode cM_close 30 = .ok (.aload_n 0, 1) := by decide +kernel
theorem dM_close_31 : decode cM_close 31 = .ok (.getfield 20, 3) := by decide +kernel
theorem dM_close_34 : decode cM_close 34 = .ok (.aload_n 0, 1) := by decide +kernel
theorem dM_close_35 : decode cM_close 35 = .ok (.getfield 53, 3) := by decide +kernel
theorem dM_close_38 : decode cM_close 38 = .ok (.aload_n 0, 1) := by decide +kernel
theorem dM_close_39 : decode cM_close 39 = .ok (.getfield 46, 3) := by decide +kernel
theorem dM_close_42 : decode cM_close 42 = .ok (.iastore, 1) := by decide +kernel
theorem dM_close_43 : decode cM_close 43 = .ok (.aload_n 0, 1) := by decide +kernel
theorem dM_close_44 : decode cM_close 44 = .ok (.dup, 1) := by decide +kernel
theorem dM_close_45 : decode cM_close 45 = .ok (.getfield 53, 3) := by decide +kernel
theorem dM_close_48 : decode cM_close 48 = .ok (.iconst 1, 1) := by decide +kernel
theorem dM_close_49 : decode cM_close 49 = .ok (.iadd, 1) := by decide +kernel
theorem dM_close_50 : decode cM_close 50 = .ok (.putfield 53, 3) := by decide +kernel
theorem dM_close_53 : decode cM_close 53 = .ok (.aload_n 0, 1) := by decide +kernel
theorem dM_close_54 : decode cM_close 54 = .ok (.getfield 53, 3) := by decide +kernel
theorem dM_close_57 : decode cM_close 57 = .ok (.ireturn, 1) := by decide +kernel
theorem dM_drop_0 : decode cM_drop 0 = .ok (.aload_n 0, 1) := by decide +kernel
theorem dM_drop_1 : decode cM_drop 1 = .ok (.iconst 0, 1) := by decide +kernel
theorem dM_drop_2 : decode cM_drop 2 = .ok (.putfield 38, 3) := by decide +kernel
theorem dM_drop_5 : decode cM_drop 5 = .ok (.aload_n 0, 1) := by decide +kernel
theorem dM_drop_6 : decode cM_drop 6 = .ok (.invokevirtual 64, 3) := by decide +kernel
theorem dM_drop_9 : decode cM_drop 9 = .ok (.istore_n 1, 1) := by decide +kernel
theorem dM_drop_10 : decode cM_drop 10 = .ok (.aload_n 0, 1) := by decide +kernel
theorem dM_drop_11 : decode cM_drop 11 = .ok (.aload_n 0, 1) := by decide +kernel
theorem dM_drop_12 : decode cM_drop 12 = .ok (.invokevirtual 49, 3) := by decide +kernel
theorem dM_drop_15 : decode cM_drop 15 = .ok (.putfield 46, 3) := by decide +kernel
theorem dM_drop_18 : decode cM_drop 18 = .ok (.iload_n 1, 1) := by decide +kernel
theorem dM_drop_19 : decode cM_drop 19 = .ok (.ireturn, 1) := by decide +kernel
theorem dM_clear_0 : decode cM_clear 0 = .ok (.aload_n 0, 1) := by decide +kernel
theorem dM_clear_1 : decode cM_clear 1 = .ok (.iconst 0, 1) := by decide +kernel
theorem dM_clear_2 : decode cM_clear 2 = .ok (.putfield 38, 3) := by decide +kernel
theorem dM_clear_5 : decode cM_clear 5 = .ok (.aload_n 0, 1) := by decide +kernel
theorem dM_clear_6 : decode cM_clear 6 = .ok (.getfield 53, 3) := by decide +kernel
theorem dM_clear_9 : decode cM_clear 9 = .ok (.istore_n 1, 1) := by decide +kernel
theorem dM_clear_10 : decode cM_clear 10 = .ok (.aload_n 0, 1) := by decide +kernel
theorem dM_clear_11 : decode cM_clear 11 = .ok (.iconst 0, 1) := by decide +kernel
theorem dM_clear_12 : decode cM_clear 12 = .ok (.putfield 53, 3) := by decide +kernel
theorem dM_clear_15 : decode cM_clear 15 = .ok (.aload_n 0, 1) := by decide +kernel
theorem dM_clear_16 : decode cM_clear 16 = .ok (.iconst 0, 1) := by decide +kernel
theorem dM_clear_17 : decode cM_clear 17 = .ok (.putfield 46, 3) := by decide +kernel
theorem dM_clear_20 : decode cM_clear 20 = .ok (.iload_n 1, 1) := by decide +kernel
theorem dM_clear_21 : decode cM_clear 21 = .ok (.ireturn, 1) := by decide +kernel
theorem dM_move_0 : decode cM_move 0 = .ok (.iconst 1, 1) := by decide +kernel
theorem dM_move_1 : decode cM_move 1 = .ok (.istore_n 3, 1) := by decide +kernel
theorem dM_move_2 : decode cM_move 2 = .ok (.iconst 0, 1) := by decide +kernel
theorem dM_move_3 : decode cM_move 3 = .ok (.istore 4, 2) := by decide +kernel
theorem dM_move_5 : decode cM_move 5 = .ok (.iload 4, 2) := by decide +kernel
theorem dM_move_7 : decode cM_move 7 = .ok (.aload_n 0, 1) := by decide +kernel
theorem dM_move_8 : decode cM_move 8 = .ok (.getfield 46, 3) := by decide +kernel
theorem dM_move_11 : decode cM_move 11 = .ok (.if_icmp .ge 53, 3) := by decide +kernel
theorem dM_move_14 : decode cM_move 14 = .ok (.iload_n 3, 1) := by decide +kernel
theorem dM_move_15 : decode cM_move 15 = .ok (.ifCond .eq 41, 3) := by decide +kernel
theorem dM_move_18 : decode cM_move 18 = .ok (.aload_n 0, 1) := by decide +kernel
theorem dM_move_19 : decode cM_move 19 = .ok (.getfield 7, 3) := by decide +kernel
theorem dM_move_22 : decode cM_move 22 = .ok (.iload 4, 2) := by decide +kernel
theorem dM_move_24 : decode cM_move 24 = .ok (.iaload, 1) := by decide +kernel
theorem dM_move_25 : decode cM_move 25 = .ok (.i2l, 1) := by decide +kernel
theorem dM_move_26 : decode cM_move 26 = .ok (.iload_n 1, 1) := by decide +kernel
theorem dM_move_27 : decode cM_move 27 = .ok (.i2l, 1) := by decide +kernel
theorem dM_move_28 : decode cM_move 28 = .ok (.ladd, 1) := by decide +kernel
theorem dM_move_29 : decode cM_move 29 = .ok (.invokestatic 56, 3) := by decide +kernel
theorem dM_move_32 : decode cM_move 32 = .ok (.ifCond .eq 24, 3) := by decide +kernel
theorem dM_move_35 : decode cM_move 35 = .ok (.aload_n 0, 1) := by decide +kernel
theorem dM_move_36 : decode cM_move 36 = .ok (.getfield 13, 3) := by decide +kernel
theorem dM_move_39 : decode cM_move 39 = .ok (.iload 4, 2) := by decide +kernel
theorem dM_move_41 : decode cM_move 41 = .ok (.iaload, 1) := by decide +kernel
theorem dM_move_42 : decode cM_move 42 = .ok (.i2l, 1) := by decide +kernel
theorem dM_move_43 : decode cM_move 43 = .ok (.iload_n 2, 1) := by decide +kernel
theorem dM_move_44 : decode cM_move 44 = .ok (.i2l, 1) := by decide +kernel
theorem dM_move_45 : decode cM_move 45 = .ok (.ladd, 1) := by decide +kernel
theorem dM_move_46 : decode cM_move 46 = .ok (.invokestatic 56, 3) := by decide +kernel
theorem dM_move_49 : decode cM_move 49 = .ok (.ifCond .eq 7, 3) := by decide +kernel
theorem dM_move_52 : decode cM_move 52 = .ok (.iconst 1, 1) := by decide +kernel
theorem dM_move_53 : decode cM_move 53 = .ok (.goto 4, 3) := by decide +kernel
theorem dM_move_56 : decode cM_move 56 = .ok (.iconst 0, 1) := by decide +kernel
theorem dM_move_57 : decode cM_move 57 = .ok (.istore_n 3, 1) := by decide +kernel
theorem dM_move_58 : decode cM_move 58 = .ok (.iinc 4 1, 3) := by decide +kernel
theorem dM_move_61 : decode cM_move 61 = .ok (.goto (-56), 3) := by decide +kernel
theorem dM_move_64 : decode cM_move 64 = .ok (.aload_n 0, 1) := by decide +kernel
theorem dM_move_65 : decode cM_move 65 = .ok (.iload_n 3, 1) := by decide +kernel
theorem dM_move_66 : decode cM_move 66 = .ok (.ifCond .eq 7, 3) := by decide +kernel
theorem dM_move_69 : decode cM_move 69 = .ok (.iconst 0, 1) := by decide +kernel
theorem dM_move_70 : decode cM_move 70 = .ok (.goto 4, 3) := by decide +kernel
theorem dM_move_73 : decode cM_move 73 = .ok (.iconst 1, 1) := by decide +kernel
theorem dM_move_74 : decode cM_move 74 = .ok (.invokevirtual 60, 3) := by decide +kernel
theorem dM_move_77 : decode cM_move 77 = .ok (.ifCond .eq 4, 3) := by decide +kernel
theorem dM_move_80 : decode cM_move 80 = .ok (.return_, 1) := by decide +kernel
theorem dM_move_81 : decode cM_move 81 = .ok (.iconst 0, 1) := by decide +kernel
theorem dM_move_82 : decode cM_move 82 = .ok (.istore 4, 2) := by decide +kernel
theorem dM_move_84 : decode cM_move 84 = .ok (.iload 4, 2) := by decide +kernel
theorem dM_move_86 : decode cM_move 86 = .ok (.aload_n 0, 1) := by decide +kernel
theorem dM_move_87 : decode cM_move 87 = .ok (.getfield 46, 3) := by decide +kernel
theorem dM_move_90 : decode cM_move 90 = .ok (.if_icmp .ge 41, 3) := by decide +kernel
theorem dM_move_93 : decode cM_move 93 = .ok (.aload_n 0, 1) := by decide +kernel
theorem dM_move_94 : decode cM_move 94 = .ok (.getfield 7, 3) := by decide +kernel
theorem dM_move_97 : decode cM_move 97 = .ok (.iload 4, 2) := by decide +kernel
theorem dM_move_99 : decode cM_move 99 = .ok (.aload_n 0, 1) := by decide +kernel
theorem dM_move_100 : decode cM_move 100 = .ok (.getfield 7, 3) := by decide +kernel
theorem dM_move_103 : decode cM_move 103 = .ok (.iload 4, 2) := by decide +kernel
theorem dM_move_105 : decode cM_move 105 = .ok (.iaload, 1) := by decide +kernel
theorem dM_move_106 : decode cM_move 106 = .ok (.iload_n 1, 1) := by decide +kernel
theorem dM_move_107 : decode cM_move 107 = .ok (.iadd, 1) := by decide +kernel
theorem dM_move_108 : decode cM_move 108 = .ok (.iastore, 1) := by decide +kernel
theorem dM_move_109 : decode cM_move 109 = .ok (.aload_n 0, 1) := by decide +kernel
theorem dM_move_110 : decode cM_move 110 = .ok (.getfield 13, 3) := by decide +kernel
theorem dM_move_113 : decode cM_move 113 = .ok (.iload 4, 2) := by decide +kernel
theorem dM_move_115 : decode cM_move 115 = .ok (.aload_n 0, 1) := by decide +kernel
theorem dM_move_116 : decode cM_move 116 = .ok (.getfield 13, 3) := by decide +kernel
theorem dM_move_119 : decode cM_move 119 = .ok (.iload 4, 2) := by decide +kernel
theorem dM_move_121 : decode cM_move 121 = .ok (.iaload, 1) := by decide +kernel
theorem dM_move_122 : decode cM_move 122 = .ok (.iload_n 2, 1) := by decide +kernel
theorem dM_move_123 : decode cM_move 123 = .ok (.iadd, 1) := by decide +kernel
theorem dM_move_124 : decode cM_move 124 = .ok (.iastore, 1) := by decide +kernel
theorem dM_move_125 : decode cM_move 125 = .ok (.iinc 4 1, 3) := by decide +kernel
theorem dM_move_128 : decode cM_move 128 = .ok (.goto (-44), 3) := by decide +kernel
theorem dM_move_131 : decode cM_move 131 = .ok (.return_, 1) := by decide +kernel
theorem dM_parity_0 : decode cM_parity 0 = .ok (.aload_n 0, 1) := by decide +kernel
theorem dM_parity_1 : decode cM_parity 1 = .ok (.iconst 0, 1) := by decide +kernel
theorem dM_parity_2 : decode cM_parity 2 = .ok (.putfield 38, 3) := by decide +kernel
theorem dM_parity_5 : decode cM_parity 5 = .ok (.aload_n 0, 1) := by decide +kernel
theorem dM_parity_6 : decode cM_parity 6 = .ok (.getfield 67, 3) := by decide +kernel
theorem dM_parity_9 : decode cM_parity 9 = .ok (.istore_n 2, 1) := by decide +kernel
theorem dM_parity_10 : decode cM_parity 10 = .ok (.aload_n 0, 1) := by decide +kernel
theorem dM_parity_11 : decode cM_parity 11 = .ok (.iload_n 1, 1) := by decide +kernel
theorem dM_parity_12 : decode cM_parity 12 = .ok (.putfield 67, 3) := by decide +kernel
theorem dM_parity_15 : decode cM_parity 15 = .ok (.iload_n 2, 1) := by decide +kernel
theorem dM_parity_16 : decode cM_parity 16 = .ok (.ireturn, 1) := by decide +kernel
theorem dM_count_0 : decode cM_count 0 = .ok (.aload_n 0, 1) := by decide +kernel
theorem dM_count_1 : decode cM_count 1 = .ok (.iconst 0, 1) := by decide +kernel
theorem dM_count_2 : decode cM_count 2 = .ok (.putfield 38, 3) := by decide +kernel
theorem dM_count_5 : decode cM_count 5 = .ok (.iload_n 1, 1) := by decide +kernel
theorem dM_count_6 : decode cM_count 6 = .ok (.tableswitch 61 0 4 #[34, 39, 44, 50, 56], 34) := by decide +kernel
theorem dM_count_40 : decode cM_count 40 = .ok (.aload_n 0, 1) := by decide +kernel
theorem dM_count_41 : decode cM_count 41 = .ok (.getfield 53, 3) := by decide +kernel
theorem dM_count_44 : decode cM_count 44 = .ok (.ireturn, 1) := by decide +kernel
theorem dM_count_45 : decode cM_count 45 = .ok (.aload_n 0, 1) := by decide +kernel
theorem dM_count_46 : decode cM_count 46 = .ok (.getfield 46, 3) := by decide +kernel
theorem dM_count_49 : decode cM_count 49 = .ok (.ireturn, 1) := by decide +kernel
theorem dM_count_50 : decode cM_count 50 = .ok (.aload_n 0, 1) := by decide +kernel
theorem dM_count_51 : decode cM_count 51 = .ok (.iconst 0, 1) := by decide +kernel
theorem dM_count_52 : decode cM_count 52 = .ok (.invokevirtual 145, 3) := by decide +kernel
theorem dM_count_55 : decode cM_count 55 = .ok (.ireturn, 1) := by decide +kernel
theorem dM_count_56 : decode cM_count 56 = .ok (.aload_n 0, 1) := by decide +kernel
theorem dM_count_57 : decode cM_count 57 = .ok (.iconst 1, 1) := by decide +kernel
theorem dM_count_58 : decode cM_count 58 = .ok (.invokevirtual 145, 3) := by decide +kernel
theorem dM_count_61 : decode cM_count 61 = .ok (.ireturn, 1) := by decide +kernel
theorem dM_count_62 : decode cM_count 62 = .ok (.aload_n 0, 1) := by decide +kernel
theorem dM_count_63 : decode cM_count 63 = .ok (.invokevirtual 149, 3) := by decide +kernel
theorem dM_count_66 : decode cM_count 66 = .ok (.ireturn, 1) := by decide +kernel
theorem dM_count_67 : decode cM_count 67 = .ok (.iconst (-1), 1) := by decide +kernel
theorem dM_count_68 : decode cM_count 68 = .ok (.ireturn, 1) := by decide +kernel
theorem dM_countOf_0 : decode cM_countOf 0 = .ok (.aload_n 0, 1) := by decide +kernel
theorem dM_countOf_1 : decode cM_countOf 1 = .ok (.invokevirtual 139, 3) := by decide +kernel
theorem dM_countOf_4 : decode cM_countOf 4 = .ok (.iconst 0, 1) := by decide +kernel
theorem dM_countOf_5 : decode cM_countOf 5 = .ok (.istore_n 2, 1) := by decide +kernel
theorem dM_countOf_6 : decode cM_countOf 6 = .ok (.iconst 0, 1) := by decide +kernel
theorem dM_countOf_7 : decode cM_countOf 7 = .ok (.istore_n 3, 1) := by decide +kernel
theorem dM_countOf_8 : decode cM_countOf 8 = .ok (.iload_n 3, 1) := by decide +kernel
theorem dM_countOf_9 : decode cM_countOf 9 = .ok (.aload_n 0, 1) := by decide +kernel
theorem dM_countOf_10 : decode cM_countOf 10 = .ok (.getfield 78, 3) := by decide +kernel
theorem dM_countOf_13 : decode cM_countOf 13 = .ok (.if_icmp .ge 27, 3) := by decide +kernel
theorem dM_countOf_16 : decode cM_countOf 16 = .ok (.aload_n 0, 1) := by decide +kernel
theorem dM_countOf_17 : decode cM_countOf 17 = .ok (.getfield 35, 3) := by decide +kernel
theorem dM_countOf_20 : decode cM_countOf 20 = .ok (.iload_n 3, 1) := by decide +kernel
theorem dM_countOf_21 : decode cM_countOf 21 = .ok (.baload, 1) := by decide +kernel
theorem dM_countOf_22 : decode cM_countOf 22 = .ok (.iload_n 1, 1) := by decide +kernel
theorem dM_countOf_23 : decode cM_countOf 23 = .ok (.if_icmp .ne 9, 3) := by decide +kernel
theorem dM_countOf_26 : decode cM_countOf 26 = .ok (.iload_n 2, 1) := by decide +kernel
theorem dM_countOf_27 : decode cM_countOf 27 = .ok (.iconst 1, 1) := by decide +kernel
theorem dM_countOf_28 : decode cM_countOf 28 = .ok (.iadd, 1) := by decide +kernel
theorem dM_countOf_29 : decode cM_countOf 29 = .ok (.goto 4, 3) := by decide +kernel
theorem dM_countOf_32 : decode cM_countOf 32 = .ok (.iload_n 2, 1) := by decide +kernel
theorem dM_countOf_33 : decode cM_countOf 33 = .ok (.istore_n 2, 1) := by decide +kernel
theorem dM_countOf_34 : decode cM_countOf 34 = .ok (.iinc 3 1, 3) := by decide +kernel
theorem dM_countOf_37 : decode cM_countOf 37 = .ok (.goto (-29), 3) := by decide +kernel
theorem dM_countOf_40 : decode cM_countOf 40 = .ok (.iload_n 2, 1) := by decide +kernel
theorem dM_countOf_41 : decode cM_countOf 41 = .ok (.ireturn, 1) := by decide +kernel
theorem dM_makePieces_0 : decode cM_makePieces 0 = .ok (.aload_n 0, 1) := by decide +kernel
theorem dM_makePieces_1 : decode cM_makePieces 1 = .ok (.iconst 0, 1) := by decide +kernel
theorem dM_makePieces_2 : decode cM_makePieces 2 = .ok (.putfield 78, 3) := by decide +kernel
theorem dM_makePieces_5 : decode cM_makePieces 5 = .ok (.iconst 0, 1) := by decide +kernel
theorem dM_makePieces_6 : decode cM_makePieces 6 = .ok (.istore_n 1, 1) := by decide +kernel
theorem dM_makePieces_7 : decode cM_makePieces 7 = .ok (.iload_n 1, 1) := by decide +kernel
theorem dM_makePieces_8 : decode cM_makePieces 8 = .ok (.aload_n 0, 1) := by decide +kernel
theorem dM_makePieces_9 : decode cM_makePieces 9 = .ok (.getfield 53, 3) := by decide +kernel
theorem dM_makePieces_12 : decode cM_makePieces 12 = .ok (.if_icmp .ge 113, 3) := by decide +kernel
theorem dM_makePieces_15 : decode cM_makePieces 15 = .ok (.aload_n 0, 1) := by decide +kernel
theorem dM_makePieces_16 : decode cM_makePieces 16 = .ok (.iload_n 1, 1) := by decide +kernel
theorem dM_makePieces_17 : decode cM_makePieces 17 = .ok (.ifCond .ne 7, 3) := by decide +kernel
theorem dM_makePieces_20 : decode cM_makePieces 20 = .ok (.iconst 0, 1) := by decide +kernel
theorem dM_makePieces_21 : decode cM_makePieces 21 = .ok (.goto 11, 3) := by decide +kernel
theorem dM_makePieces_24 : decode cM_makePieces 24 = .ok (.aload_n 0, 1) := by decide +kernel
theorem dM_makePieces_25 : decode cM_makePieces 25 = .ok (.getfield 20, 3) := by decide +kernel
theorem dM_makePieces_28 : decode cM_makePieces 28 = .ok (.iload_n 1, 1) := by decide +kernel
theorem dM_makePieces_29 : decode cM_makePieces 29 = .ok (.iconst 1, 1) := by decide +kernel
theorem dM_makePieces_30 : decode cM_makePieces 30 = .ok (.isub, 1) := by decide +kernel
theorem dM_makePieces_31 : decode cM_makePieces 31 = .ok (.iaload, 1) := by decide +kernel
theorem dM_makePieces_32 : decode cM_makePieces 32 = .ok (.aload_n 0, 1) := by decide +kernel
theorem dM_makePieces_33 : decode cM_makePieces 33 = .ok (.getfield 20, 3) := by decide +kernel
theorem dM_makePieces_36 : decode cM_makePieces 36 = .ok (.iload_n 1, 1) := by decide +kernel
theorem dM_makePieces_37 : decode cM_makePieces 37 = .ok (.iaload, 1) := by decide +kernel
theorem dM_makePieces_38 : decode cM_makePieces 38 = .ok (.invokevirtual 81, 3) := by decide +kernel
theorem dM_makePieces_41 : decode cM_makePieces 41 = .ok (.iconst 0, 1) := by decide +kernel
theorem dM_makePieces_42 : decode cM_makePieces 42 = .ok (.istore_n 2, 1) := by decide +kernel
theorem dM_makePieces_43 : decode cM_makePieces 43 = .ok (.iload_n 2, 1) := by decide +kernel
theorem dM_makePieces_44 : decode cM_makePieces 44 = .ok (.aload_n 0, 1) := by decide +kernel
theorem dM_makePieces_45 : decode cM_makePieces 45 = .ok (.getfield 71, 3) := by decide +kernel
theorem dM_makePieces_48 : decode cM_makePieces 48 = .ok (.if_icmp .ge 71, 3) := by decide +kernel
theorem dM_makePieces_51 : decode cM_makePieces 51 = .ok (.iload_n 2, 1) := by decide +kernel
theorem dM_makePieces_52 : decode cM_makePieces 52 = .ok (.iconst 1, 1) := by decide +kernel
theorem dM_makePieces_53 : decode cM_makePieces 53 = .ok (.iadd, 1) := by decide +kernel
theorem dM_makePieces_54 : decode cM_makePieces 54 = .ok (.aload_n 0, 1) := by decide +kernel
theorem dM_makePieces_55 : decode cM_makePieces 55 = .ok (.getfield 71, 3) := by decide +kernel
theorem dM_makePieces_58 : decode cM_makePieces 58 = .ok (.irem, 1) := by decide +kernel
theorem dM_makePieces_59 : decode cM_makePieces 59 = .ok (.istore_n 3, 1) := by decide +kernel
theorem dM_makePieces_60 : decode cM_makePieces 60 = .ok (.aload_n 0, 1) := by decide +kernel
theorem dM_makePieces_61 : decode cM_makePieces 61 = .ok (.getfield 29, 3) := by decide +kernel
theorem dM_makePieces_64 : decode cM_makePieces 64 = .ok (.iload_n 2, 1) := by decide +kernel
theorem dM_makePieces_65 : decode cM_makePieces 65 = .ok (.baload, 1) := by decide +kernel
theorem dM_makePieces_66 : decode cM_makePieces 66 = .ok (.ifCond .eq 23, 3) := by decide +kernel
theorem dM_makePieces_69 : decode cM_makePieces 69 = .ok (.aload_n 0, 1) := by decide +kernel
theorem dM_makePieces_70 : decode cM_makePieces 70 = .ok (.getfield 29, 3) := by decide +kernel
theorem dM_makePieces_73 : decode cM_makePieces 73 = .ok (.iload_n 3, 1) := by decide +kernel
theorem dM_makePieces_74 : decode cM_makePieces 74 = .ok (.baload, 1) := by decide +kernel
theorem dM_makePieces_75 : decode cM_makePieces 75 = .ok (.ifCond .eq 14, 3) := by decide +kernel
theorem dM_makePieces_78 : decode cM_makePieces 78 = .ok (.aload_n 0, 1) := by decide +kernel
theorem dM_makePieces_79 : decode cM_makePieces 79 = .ok (.iload_n 2, 1) := by decide +kernel
theorem dM_makePieces_80 : decode cM_makePieces 80 = .ok (.iload_n 2, 1) := by decide +kernel
theorem dM_makePieces_81 : decode cM_makePieces 81 = .ok (.iload_n 3, 1) := by decide +kernel
theorem dM_makePieces_82 : decode cM_makePieces 82 = .ok (.iconst 0, 1) := by decide +kernel
theorem dM_makePieces_83 : decode cM_makePieces 83 = .ok (.invokevirtual 85, 3) := by decide +kernel
theorem dM_makePieces_86 : decode cM_makePieces 86 = .ok (.goto 27, 3) := by decide +kernel
theorem dM_makePieces_89 : decode cM_makePieces 89 = .ok (.aload_n 0, 1) := by decide +kernel
theorem dM_makePieces_90 : decode cM_makePieces 90 = .ok (.getfield 29, 3) := by decide +kernel
theorem dM_makePieces_93 : decode cM_makePieces 93 = .ok (.iload_n 2, 1) := by decide +kernel
theorem dM_makePieces_94 : decode cM_makePieces 94 = .ok (.baload, 1) := by decide +kernel
theorem dM_makePieces_95 : decode cM_makePieces 95 = .ok (.ifCond .eq 18, 3) := by decide +kernel
theorem dM_makePieces_98 : decode cM_makePieces 98 = .ok (.aload_n 0, 1) := by decide +kernel
theorem dM_makePieces_99 : decode cM_makePieces 99 = .ok (.iload_n 2, 1) := by decide +kernel
theorem dM_makePieces_100 : decode cM_makePieces 100 = .ok (.iload_n 3, 1) := by decide +kernel
theorem dM_makePieces_101 : decode cM_makePieces 101 = .ok (.iload_n 2, 1) := by decide +kernel
theorem dM_makePieces_102 : decode cM_makePieces 102 = .ok (.iconst 2, 1) := by decide +kernel
theorem dM_makePieces_103 : decode cM_makePieces 103 = .ok (.iadd, 1) := by decide +kernel
theorem dM_makePieces_104 : decode cM_makePieces 104 = .ok (.aload_n 0, 1) := by decide +kernel
theorem dM_makePieces_105 : decode cM_makePieces 105 = .ok (.getfield 71, 3) := by decide +kernel
theorem dM_makePieces_108 : decode cM_makePieces 108 = .ok (.irem, 1) := by decide +kernel
theorem dM_makePieces_109 : decode cM_makePieces 109 = .ok (.iconst 1, 1) := by decide +kernel
theorem dM_makePieces_110 : decode cM_makePieces 110 = .ok (.invokevirtual 85, 3) := by decide +kernel
theorem dM_makePieces_113 : decode cM_makePieces 113 = .ok (.iinc 2 1, 3) := by decide +kernel
theorem dM_makePieces_116 : decode cM_makePieces 116 = .ok (.goto (-73), 3) := by decide +kernel
theorem dM_makePieces_119 : decode cM_makePieces 119 = .ok (.iinc 1 1, 3) := by decide +kernel
theorem dM_makePieces_122 : decode cM_makePieces 122 = .ok (.goto (-115), 3) := by decide +kernel
theorem dM_makePieces_125 : decode cM_makePieces 125 = .ok (.return_, 1) := by decide +kernel
theorem dM_makeRing_0 : decode cM_makeRing 0 = .ok (.aload_n 0, 1) := by decide +kernel
theorem dM_makeRing_1 : decode cM_makeRing 1 = .ok (.iconst 0, 1) := by decide +kernel
theorem dM_makeRing_2 : decode cM_makeRing 2 = .ok (.putfield 71, 3) := by decide +kernel
theorem dM_makeRing_5 : decode cM_makeRing 5 = .ok (.iload_n 1, 1) := by decide +kernel
theorem dM_makeRing_6 : decode cM_makeRing 6 = .ok (.istore_n 3, 1) := by decide +kernel
theorem dM_makeRing_7 : decode cM_makeRing 7 = .ok (.iload_n 3, 1) := by decide +kernel
theorem dM_makeRing_8 : decode cM_makeRing 8 = .ok (.iload_n 2, 1) := by decide +kernel
theorem dM_makeRing_9 : decode cM_makeRing 9 = .ok (.if_icmp .ge 103, 3) := by decide +kernel
theorem dM_makeRing_12 : decode cM_makeRing 12 = .ok (.iload_n 3, 1) := by decide +kernel
theorem dM_makeRing_13 : decode cM_makeRing 13 = .ok (.iconst 1, 1) := by decide +kernel
theorem dM_makeRing_14 : decode cM_makeRing 14 = .ok (.iadd, 1) := by decide +kernel
theorem dM_makeRing_15 : decode cM_makeRing 15 = .ok (.iload_n 2, 1) := by decide +kernel
theorem dM_makeRing_16 : decode cM_makeRing 16 = .ok (.if_icmp .ge 9, 3) := by decide +kernel
theorem dM_makeRing_19 : decode cM_makeRing 19 = .ok (.iload_n 3, 1) := by decide +kernel
theorem dM_makeRing_20 : decode cM_makeRing 20 = .ok (.iconst 1, 1) := by decide +kernel
theorem dM_makeRing_21 : decode cM_makeRing 21 = .ok (.iadd, 1) := by decide +kernel
theorem dM_makeRing_22 : decode cM_makeRing 22 = .ok (.goto 4, 3) := by decide +kernel
theorem dM_makeRing_25 : decode cM_makeRing 25 = .ok (.iload_n 1, 1) := by decide +kernel
theorem dM_makeRing_26 : decode cM_makeRing 26 = .ok (.istore 4, 2) := by decide +kernel
theorem dM_makeRing_28 : decode cM_makeRing 28 = .ok (.aload_n 0, 1) := by decide +kernel
theorem dM_makeRing_29 : decode cM_makeRing 29 = .ok (.aload_n 0, 1) := by decide +kernel
theorem dM_makeRing_30 : decode cM_makeRing 30 = .ok (.getfield 7, 3) := by decide +kernel
theorem dM_makeRing_33 : decode cM_makeRing 33 = .ok (.iload_n 3, 1) := by decide +kernel
theorem dM_makeRing_34 : decode cM_makeRing 34 = .ok (.iaload, 1) := by decide +kernel
theorem dM_makeRing_35 : decode cM_makeRing 35 = .ok (.aload_n 0, 1) := by decide +kernel
theorem dM_makeRing_36 : decode cM_makeRing 36 = .ok (.getfield 13, 3) := by decide +kernel
theorem dM_makeRing_39 : decode cM_makeRing 39 = .ok (.iload_n 3, 1) := by decide +kernel
theorem dM_makeRing_40 : decode cM_makeRing 40 = .ok (.iaload, 1) := by decide +kernel
theorem dM_makeRing_41 : decode cM_makeRing 41 = .ok (.aload_n 0, 1) := by decide +kernel
theorem dM_makeRing_42 : decode cM_makeRing 42 = .ok (.getfield 16, 3) := by decide +kernel
theorem dM_makeRing_45 : decode cM_makeRing 45 = .ok (.iload_n 3, 1) := by decide +kernel
theorem dM_makeRing_46 : decode cM_makeRing 46 = .ok (.baload, 1) := by decide +kernel
theorem dM_makeRing_47 : decode cM_makeRing 47 = .ok (.invokevirtual 74, 3) := by decide +kernel
theorem dM_makeRing_50 : decode cM_makeRing 50 = .ok (.aload_n 0, 1) := by decide +kernel
theorem dM_makeRing_51 : decode cM_makeRing 51 = .ok (.getfield 16, 3) := by decide +kernel
theorem dM_makeRing_54 : decode cM_makeRing 54 = .ok (.iload_n 3, 1) := by decide +kernel
theorem dM_makeRing_55 : decode cM_makeRing 55 = .ok (.baload, 1) := by decide +kernel
theorem dM_makeRing_56 : decode cM_makeRing 56 = .ok (.ifCond .ne 50, 3) := by decide +kernel
theorem dM_makeRing_59 : decode cM_makeRing 59 = .ok (.aload_n 0, 1) := by decide +kernel
theorem dM_makeRing_60 : decode cM_makeRing 60 = .ok (.getfield 16, 3) := by decide +kernel
theorem dM_makeRing_63 : decode cM_makeRing 63 = .ok (.iload 4, 2) := by decide +kernel
theorem dM_makeRing_65 : decode cM_makeRing 65 = .ok (.baload, 1) := by decide +kernel
theorem dM_makeRing_66 : decode cM_makeRing 66 = .ok (.ifCond .ne 40, 3) := by decide +kernel
theorem dM_makeRing_69 : decode cM_makeRing 69 = .ok (.aload_n 0, 1) := by decide +kernel
theorem dM_makeRing_70 : decode cM_makeRing 70 = .ok (.aload_n 0, 1) := by decide +kernel
theorem dM_makeRing_71 : decode cM_makeRing 71 = .ok (.getfield 7, 3) := by decide +kernel
theorem dM_makeRing_74 : decode cM_makeRing 74 = .ok (.iload_n 3, 1) := by decide +kernel
theorem dM_makeRing_75 : decode cM_makeRing 75 = .ok (.iaload, 1) := by decide +kernel
theorem dM_makeRing_76 : decode cM_makeRing 76 = .ok (.aload_n 0, 1) := by decide +kernel
theorem dM_makeRing_77 : decode cM_makeRing 77 = .ok (.getfield 7, 3) := by decide +kernel
theorem dM_makeRing_80 : decode cM_makeRing 80 = .ok (.iload 4, 2) := by decide +kernel
end
section
/-! decode rows -/
theorem dM_makeRing_82 : decode cM_makeRing 82 = .ok (.iaload, 1) := by decide +kernel
theorem dM_makeRing_83 : decode cM_makeRing 83 = .ok (.iadd, 1) := by decide +kernel
theorem dM_makeRing_84 : decode cM_makeRing 84 = .ok (.iconst 1, 1) := by decide +kernel
theorem dM_makeRing_85 : decode cM_makeRing 85 = .ok (.ishr, 1) := by decide +kernel
theorem dM_makeRing_86 : decode cM_makeRing 86 = .ok (.aload_n 0, 1) := by decide +kernel
theorem dM_makeRing_87 : decode cM_makeRing 87 = .ok (.getfield 13, 3) := by decide +kernel
theorem dM_makeRing_90 : decode cM_makeRing 90 = .ok (.iload_n 3, 1) := by decide +kernel
theorem dM_makeRing_91 : decode cM_makeRing 91 = .ok (.iaload, 1) := by decide +kernel
theorem dM_makeRing_92 : decode cM_makeRing 92 = .ok (.aload_n 0, 1) := by decide +kernel
theorem dM_makeRing_93 : decode cM_makeRing 93 = .ok (.getfield 13, 3) := by decide +kernel
theorem dM_makeRing_96 : decode cM_makeRing 96 = .ok (.iload 4, 2) := by decide +kernel
theorem dM_makeRing_98 : decode cM_makeRing 98 = .ok (.iaload, 1) := by decide +kernel
theorem dM_makeRing_99 : decode cM_makeRing 99 = .ok (.iadd, 1) := by decide +kernel
theorem dM_makeRing_100 : decode cM_makeRing 100 = .ok (.iconst 1, 1) := by decide +kernel
theorem dM_makeRing_101 : decode cM_makeRing 101 = .ok (.ishr, 1) := by decide +kernel
theorem dM_makeRing_102 : decode cM_makeRing 102 = .ok (.iconst 1, 1) := by decide +kernel
theorem dM_makeRing_103 : decode cM_makeRing 103 = .ok (.invokevirtual 74, 3) := by decide +kernel
theorem dM_makeRing_106 : decode cM_makeRing 106 = .ok (.iinc 3 1, 3) := by decide +kernel
theorem dM_makeRing_109 : decode cM_makeRing 109 = .ok (.goto (-102), 3) := by decide +kernel
theorem dM_makeRing_112 : decode cM_makeRing 112 = .ok (.return_, 1) := by decide +kernel
theorem dM_putRing_0 : decode cM_putRing 0 = .ok (.aload_n 0, 1) := by decide +kernel
theorem dM_putRing_1 : decode cM_putRing 1 = .ok (.getfield 23, 3) := by decide +kernel
theorem dM_putRing_4 : decode cM_putRing 4 = .ok (.aload_n 0, 1) := by decide +kernel
theorem dM_putRing_5 : decode cM_putRing 5 = .ok (.getfield 71, 3) := by decide +kernel
theorem dM_putRing_8 : decode cM_putRing 8 = .ok (.iload_n 1, 1) := by decide +kernel
theorem dM_putRing_9 : decode cM_putRing 9 = .ok (.iastore, 1) := by decide +kernel
theorem dM_putRing_10 : decode cM_putRing 10 = .ok (.aload_n 0, 1) := by decide +kernel
theorem dM_putRing_11 : decode cM_putRing 11 = .ok (.getfield 26, 3) := by decide +kernel
theorem dM_putRing_14 : decode cM_putRing 14 = .ok (.aload_n 0, 1) := by decide +kernel
theorem dM_putRing_15 : decode cM_putRing 15 = .ok (.getfield 71, 3) := by decide +kernel
theorem dM_putRing_18 : decode cM_putRing 18 = .ok (.iload_n 2, 1) := by decide +kernel
theorem dM_putRing_19 : decode cM_putRing 19 = .ok (.iastore, 1) := by decide +kernel
theorem dM_putRing_20 : decode cM_putRing 20 = .ok (.aload_n 0, 1) := by decide +kernel
theorem dM_putRing_21 : decode cM_putRing 21 = .ok (.getfield 29, 3) := by decide +kernel
theorem dM_putRing_24 : decode cM_putRing 24 = .ok (.aload_n 0, 1) := by decide +kernel
theorem dM_putRing_25 : decode cM_putRing 25 = .ok (.getfield 71, 3) := by decide +kernel
theorem dM_putRing_28 : decode cM_putRing 28 = .ok (.iload_n 3, 1) := by decide +kernel
theorem dM_putRing_29 : decode cM_putRing 29 = .ok (.bastore, 1) := by decide +kernel
theorem dM_putRing_30 : decode cM_putRing 30 = .ok (.aload_n 0, 1) := by decide +kernel
theorem dM_putRing_31 : decode cM_putRing 31 = .ok (.dup, 1) := by decide +kernel
theorem dM_putRing_32 : decode cM_putRing 32 = .ok (.getfield 71, 3) := by decide +kernel
theorem dM_putRing_35 : decode cM_putRing 35 = .ok (.iconst 1, 1) := by decide +kernel
theorem dM_putRing_36 : decode cM_putRing 36 = .ok (.iadd, 1) := by decide +kernel
theorem dM_putRing_37 : decode cM_putRing 37 = .ok (.putfield 71, 3) := by decide +kernel
theorem dM_putRing_40 : decode cM_putRing 40 = .ok (.return_, 1) := by decide +kernel
theorem dM_putPiece_0 : decode cM_putPiece 0 = .ok (.bipush 6, 2) := by decide +kernel
theorem dM_putPiece_2 : decode cM_putPiece 2 = .ok (.aload_n 0, 1) := by decide +kernel
theorem dM_putPiece_3 : decode cM_putPiece 3 = .ok (.getfield 78, 3) := by decide +kernel
theorem dM_putPiece_6 : decode cM_putPiece 6 = .ok (.imul, 1) := by decide +kernel
theorem dM_putPiece_7 : decode cM_putPiece 7 = .ok (.istore 5, 2) := by decide +kernel
theorem dM_putPiece_9 : decode cM_putPiece 9 = .ok (.aload_n 0, 1) := by decide +kernel
theorem dM_putPiece_10 : decode cM_putPiece 10 = .ok (.getfield 32, 3) := by decide +kernel
theorem dM_putPiece_13 : decode cM_putPiece 13 = .ok (.iload 5, 2) := by decide +kernel
theorem dM_putPiece_15 : decode cM_putPiece 15 = .ok (.aload_n 0, 1) := by decide +kernel
theorem dM_putPiece_16 : decode cM_putPiece 16 = .ok (.getfield 23, 3) := by decide +kernel
theorem dM_putPiece_19 : decode cM_putPiece 19 = .ok (.iload_n 1, 1) := by decide +kernel
theorem dM_putPiece_20 : decode cM_putPiece 20 = .ok (.iaload, 1) := by decide +kernel
theorem dM_putPiece_21 : decode cM_putPiece 21 = .ok (.iastore, 1) := by decide +kernel
theorem dM_putPiece_22 : decode cM_putPiece 22 = .ok (.aload_n 0, 1) := by decide +kernel
theorem dM_putPiece_23 : decode cM_putPiece 23 = .ok (.getfield 32, 3) := by decide +kernel
theorem dM_putPiece_26 : decode cM_putPiece 26 = .ok (.iload 5, 2) := by decide +kernel
theorem dM_putPiece_28 : decode cM_putPiece 28 = .ok (.iconst 1, 1) := by decide +kernel
theorem dM_putPiece_29 : decode cM_putPiece 29 = .ok (.iadd, 1) := by decide +kernel
theorem dM_putPiece_30 : decode cM_putPiece 30 = .ok (.aload_n 0, 1) := by decide +kernel
theorem dM_putPiece_31 : decode cM_putPiece 31 = .ok (.getfield 26, 3) := by decide +kernel
theorem dM_putPiece_34 : decode cM_putPiece 34 = .ok (.iload_n 1, 1) := by decide +kernel
theorem dM_putPiece_35 : decode cM_putPiece 35 = .ok (.iaload, 1) := by decide +kernel
theorem dM_putPiece_36 : decode cM_putPiece 36 = .ok (.iastore, 1) := by decide +kernel
theorem dM_putPiece_37 : decode cM_putPiece 37 = .ok (.aload_n 0, 1) := by decide +kernel
theorem dM_putPiece_38 : decode cM_putPiece 38 = .ok (.getfield 32, 3) := by decide +kernel
theorem dM_putPiece_41 : decode cM_putPiece 41 = .ok (.iload 5, 2) := by decide +kernel
theorem dM_putPiece_43 : decode cM_putPiece 43 = .ok (.iconst 2, 1) := by decide +kernel
theorem dM_putPiece_44 : decode cM_putPiece 44 = .ok (.iadd, 1) := by decide +kernel
theorem dM_putPiece_45 : decode cM_putPiece 45 = .ok (.aload_n 0, 1) := by decide +kernel
theorem dM_putPiece_46 : decode cM_putPiece 46 = .ok (.getfield 23, 3) := by decide +kernel
theorem dM_putPiece_49 : decode cM_putPiece 49 = .ok (.iload_n 2, 1) := by decide +kernel
theorem dM_putPiece_50 : decode cM_putPiece 50 = .ok (.iaload, 1) := by decide +kernel
theorem dM_putPiece_51 : decode cM_putPiece 51 = .ok (.iastore, 1) := by decide +kernel
theorem dM_putPiece_52 : decode cM_putPiece 52 = .ok (.aload_n 0, 1) := by decide +kernel
theorem dM_putPiece_53 : decode cM_putPiece 53 = .ok (.getfield 32, 3) := by decide +kernel
theorem dM_putPiece_56 : decode cM_putPiece 56 = .ok (.iload 5, 2) := by decide +kernel
theorem dM_putPiece_58 : decode cM_putPiece 58 = .ok (.iconst 3, 1) := by decide +kernel
theorem dM_putPiece_59 : decode cM_putPiece 59 = .ok (.iadd, 1) := by decide +kernel
theorem dM_putPiece_60 : decode cM_putPiece 60 = .ok (.aload_n 0, 1) := by decide +kernel
theorem dM_putPiece_61 : decode cM_putPiece 61 = .ok (.getfield 26, 3) := by decide +kernel
theorem dM_putPiece_64 : decode cM_putPiece 64 = .ok (.iload_n 2, 1) := by decide +kernel
theorem dM_putPiece_65 : decode cM_putPiece 65 = .ok (.iaload, 1) := by decide +kernel
theorem dM_putPiece_66 : decode cM_putPiece 66 = .ok (.iastore, 1) := by decide +kernel
theorem dM_putPiece_67 : decode cM_putPiece 67 = .ok (.aload_n 0, 1) := by decide +kernel
theorem dM_putPiece_68 : decode cM_putPiece 68 = .ok (.getfield 32, 3) := by decide +kernel
theorem dM_putPiece_71 : decode cM_putPiece 71 = .ok (.iload 5, 2) := by decide +kernel
theorem dM_putPiece_73 : decode cM_putPiece 73 = .ok (.iconst 4, 1) := by decide +kernel
theorem dM_putPiece_74 : decode cM_putPiece 74 = .ok (.iadd, 1) := by decide +kernel
theorem dM_putPiece_75 : decode cM_putPiece 75 = .ok (.aload_n 0, 1) := by decide +kernel
theorem dM_putPiece_76 : decode cM_putPiece 76 = .ok (.getfield 23, 3) := by decide +kernel
theorem dM_putPiece_79 : decode cM_putPiece 79 = .ok (.iload_n 3, 1) := by decide +kernel
theorem dM_putPiece_80 : decode cM_putPiece 80 = .ok (.iaload, 1) := by decide +kernel
theorem dM_putPiece_81 : decode cM_putPiece 81 = .ok (.iastore, 1) := by decide +kernel
theorem dM_putPiece_82 : decode cM_putPiece 82 = .ok (.aload_n 0, 1) := by decide +kernel
theorem dM_putPiece_83 : decode cM_putPiece 83 = .ok (.getfield 32, 3) := by decide +kernel
theorem dM_putPiece_86 : decode cM_putPiece 86 = .ok (.iload 5, 2) := by decide +kernel
theorem dM_putPiece_88 : decode cM_putPiece 88 = .ok (.iconst 5, 1) := by decide +kernel
theorem dM_putPiece_89 : decode cM_putPiece 89 = .ok (.iadd, 1) := by decide +kernel
theorem dM_putPiece_90 : decode cM_putPiece 90 = .ok (.aload_n 0, 1) := by decide +kernel
theorem dM_putPiece_91 : decode cM_putPiece 91 = .ok (.getfield 26, 3) := by decide +kernel
theorem dM_putPiece_94 : decode cM_putPiece 94 = .ok (.iload_n 3, 1) := by decide +kernel
theorem dM_putPiece_95 : decode cM_putPiece 95 = .ok (.iaload, 1) := by decide +kernel
theorem dM_putPiece_96 : decode cM_putPiece 96 = .ok (.iastore, 1) := by decide +kernel
theorem dM_putPiece_97 : decode cM_putPiece 97 = .ok (.aload_n 0, 1) := by decide +kernel
theorem dM_putPiece_98 : decode cM_putPiece 98 = .ok (.getfield 35, 3) := by decide +kernel
theorem dM_putPiece_101 : decode cM_putPiece 101 = .ok (.aload_n 0, 1) := by decide +kernel
theorem dM_putPiece_102 : decode cM_putPiece 102 = .ok (.getfield 78, 3) := by decide +kernel
theorem dM_putPiece_105 : decode cM_putPiece 105 = .ok (.iload 4, 2) := by decide +kernel
theorem dM_putPiece_107 : decode cM_putPiece 107 = .ok (.bastore, 1) := by decide +kernel
theorem dM_putPiece_108 : decode cM_putPiece 108 = .ok (.aload_n 0, 1) := by decide +kernel
theorem dM_putPiece_109 : decode cM_putPiece 109 = .ok (.dup, 1) := by decide +kernel
theorem dM_putPiece_110 : decode cM_putPiece 110 = .ok (.getfield 78, 3) := by decide +kernel
theorem dM_putPiece_113 : decode cM_putPiece 113 = .ok (.iconst 1, 1) := by decide +kernel
theorem dM_putPiece_114 : decode cM_putPiece 114 = .ok (.iadd, 1) := by decide +kernel
theorem dM_putPiece_115 : decode cM_putPiece 115 = .ok (.putfield 78, 3) := by decide +kernel
theorem dM_putPiece_118 : decode cM_putPiece 118 = .ok (.return_, 1) := by decide +kernel
theorem dM_setPixels_0 : decode cM_setPixels 0 = .ok (.aload_n 0, 1) := by decide +kernel
theorem dM_setPixels_1 : decode cM_setPixels 1 = .ok (.invokevirtual 139, 3) := by decide +kernel
theorem dM_setPixels_4 : decode cM_setPixels 4 = .ok (.iconst 0, 1) := by decide +kernel
theorem dM_setPixels_5 : decode cM_setPixels 5 = .ok (.istore_n 1, 1) := by decide +kernel
theorem dM_setPixels_6 : decode cM_setPixels 6 = .ok (.iconst 0, 1) := by decide +kernel
theorem dM_setPixels_7 : decode cM_setPixels 7 = .ok (.istore_n 2, 1) := by decide +kernel
theorem dM_setPixels_8 : decode cM_setPixels 8 = .ok (.iload_n 2, 1) := by decide +kernel
theorem dM_setPixels_9 : decode cM_setPixels 9 = .ok (.sipush 4096, 3) := by decide +kernel
theorem dM_setPixels_12 : decode cM_setPixels 12 = .ok (.if_icmp .ge 32, 3) := by decide +kernel
theorem dM_setPixels_15 : decode cM_setPixels 15 = .ok (.aload_n 0, 1) := by decide +kernel
theorem dM_setPixels_16 : decode cM_setPixels 16 = .ok (.iload_n 2, 1) := by decide +kernel
theorem dM_setPixels_17 : decode cM_setPixels 17 = .ok (.bipush 64, 2) := by decide +kernel
theorem dM_setPixels_19 : decode cM_setPixels 19 = .ok (.irem, 1) := by decide +kernel
theorem dM_setPixels_20 : decode cM_setPixels 20 = .ok (.iload_n 2, 1) := by decide +kernel
theorem dM_setPixels_21 : decode cM_setPixels 21 = .ok (.bipush 64, 2) := by decide +kernel
theorem dM_setPixels_23 : decode cM_setPixels 23 = .ok (.idiv, 1) := by decide +kernel
theorem dM_setPixels_24 : decode cM_setPixels 24 = .ok (.invokevirtual 142, 3) := by decide +kernel
theorem dM_setPixels_27 : decode cM_setPixels 27 = .ok (.ifCond .eq 9, 3) := by decide +kernel
theorem dM_setPixels_30 : decode cM_setPixels 30 = .ok (.iload_n 1, 1) := by decide +kernel
theorem dM_setPixels_31 : decode cM_setPixels 31 = .ok (.iconst 1, 1) := by decide +kernel
theorem dM_setPixels_32 : decode cM_setPixels 32 = .ok (.iadd, 1) := by decide +kernel
theorem dM_setPixels_33 : decode cM_setPixels 33 = .ok (.goto 4, 3) := by decide +kernel
theorem dM_setPixels_36 : decode cM_setPixels 36 = .ok (.iload_n 1, 1) := by decide +kernel
theorem dM_setPixels_37 : decode cM_setPixels 37 = .ok (.istore_n 1, 1) := by decide +kernel
theorem dM_setPixels_38 : decode cM_setPixels 38 = .ok (.iinc 2 1, 3) := by decide +kernel
theorem dM_setPixels_41 : decode cM_setPixels 41 = .ok (.goto (-33), 3) := by decide +kernel
theorem dM_setPixels_44 : decode cM_setPixels 44 = .ok (.iload_n 1, 1) := by decide +kernel
theorem dM_setPixels_45 : decode cM_setPixels 45 = .ok (.ireturn, 1) := by decide +kernel
theorem dM_isSet_0 : decode cM_isSet 0 = .ok (.aload_n 0, 1) := by decide +kernel
theorem dM_isSet_1 : decode cM_isSet 1 = .ok (.bipush 64, 2) := by decide +kernel
theorem dM_isSet_3 : decode cM_isSet 3 = .ok (.iload_n 1, 1) := by decide +kernel
theorem dM_isSet_4 : decode cM_isSet 4 = .ok (.imul, 1) := by decide +kernel
theorem dM_isSet_5 : decode cM_isSet 5 = .ok (.bipush 32, 2) := by decide +kernel
theorem dM_isSet_7 : decode cM_isSet 7 = .ok (.iadd, 1) := by decide +kernel
theorem dM_isSet_8 : decode cM_isSet 8 = .ok (.bipush 64, 2) := by decide +kernel
theorem dM_isSet_10 : decode cM_isSet 10 = .ok (.bipush 63, 2) := by decide +kernel
theorem dM_isSet_12 : decode cM_isSet 12 = .ok (.iload_n 2, 1) := by decide +kernel
theorem dM_isSet_13 : decode cM_isSet 13 = .ok (.isub, 1) := by decide +kernel
theorem dM_isSet_14 : decode cM_isSet 14 = .ok (.imul, 1) := by decide +kernel
theorem dM_isSet_15 : decode cM_isSet 15 = .ok (.bipush 32, 2) := by decide +kernel
theorem dM_isSet_17 : decode cM_isSet 17 = .ok (.iadd, 1) := by decide +kernel
theorem dM_isSet_18 : decode cM_isSet 18 = .ok (.invokevirtual 135, 3) := by decide +kernel
theorem dM_isSet_21 : decode cM_isSet 21 = .ok (.ireturn, 1) := by decide +kernel
theorem dM_isIn_0 : decode cM_isIn 0 = .ok (.aload_n 0, 1) := by decide +kernel
theorem dM_isIn_1 : decode cM_isIn 1 = .ok (.iload_n 1, 1) := by decide +kernel
theorem dM_isIn_2 : decode cM_isIn 2 = .ok (.iload_n 2, 1) := by decide +kernel
theorem dM_isIn_3 : decode cM_isIn 3 = .ok (.invokevirtual 131, 3) := by decide +kernel
theorem dM_isIn_6 : decode cM_isIn 6 = .ok (.istore_n 3, 1) := by decide +kernel
theorem dM_isIn_7 : decode cM_isIn 7 = .ok (.aload_n 0, 1) := by decide +kernel
theorem dM_isIn_8 : decode cM_isIn 8 = .ok (.getfield 67, 3) := by decide +kernel
theorem dM_isIn_11 : decode cM_isIn 11 = .ok (.ifCond .eq 17, 3) := by decide +kernel
theorem dM_isIn_14 : decode cM_isIn 14 = .ok (.iload_n 3, 1) := by decide +kernel
theorem dM_isIn_15 : decode cM_isIn 15 = .ok (.iconst 2, 1) := by decide +kernel
theorem dM_isIn_16 : decode cM_isIn 16 = .ok (.irem, 1) := by decide +kernel
theorem dM_isIn_17 : decode cM_isIn 17 = .ok (.ifCond .eq 7, 3) := by decide +kernel
theorem dM_isIn_20 : decode cM_isIn 20 = .ok (.iconst 1, 1) := by decide +kernel
theorem dM_isIn_21 : decode cM_isIn 21 = .ok (.goto 16, 3) := by decide +kernel
theorem dM_isIn_24 : decode cM_isIn 24 = .ok (.iconst 0, 1) := by decide +kernel
theorem dM_isIn_25 : decode cM_isIn 25 = .ok (.goto 12, 3) := by decide +kernel
theorem dM_isIn_28 : decode cM_isIn 28 = .ok (.iload_n 3, 1) := by decide +kernel
theorem dM_isIn_29 : decode cM_isIn 29 = .ok (.ifCond .eq 7, 3) := by decide +kernel
theorem dM_isIn_32 : decode cM_isIn 32 = .ok (.iconst 1, 1) := by decide +kernel
theorem dM_isIn_33 : decode cM_isIn 33 = .ok (.goto 4, 3) := by decide +kernel
theorem dM_isIn_36 : decode cM_isIn 36 = .ok (.iconst 0, 1) := by decide +kernel
theorem dM_isIn_37 : decode cM_isIn 37 = .ok (.ireturn, 1) := by decide +kernel
theorem dM_windingOf_0 : decode cM_windingOf 0 = .ok (.iconst 0, 1) := by decide +kernel
theorem dM_windingOf_1 : decode cM_windingOf 1 = .ok (.istore_n 3, 1) := by decide +kernel
theorem dM_windingOf_2 : decode cM_windingOf 2 = .ok (.iconst 0, 1) := by decide +kernel
theorem dM_windingOf_3 : decode cM_windingOf 3 = .ok (.istore 4, 2) := by decide +kernel
theorem dM_windingOf_5 : decode cM_windingOf 5 = .ok (.iload 4, 2) := by decide +kernel
theorem dM_windingOf_7 : decode cM_windingOf 7 = .ok (.aload_n 0, 1) := by decide +kernel
theorem dM_windingOf_8 : decode cM_windingOf 8 = .ok (.getfield 78, 3) := by decide +kernel
theorem dM_windingOf_11 : decode cM_windingOf 11 = .ok (.if_icmp .ge 47, 3) := by decide +kernel
theorem dM_windingOf_14 : decode cM_windingOf 14 = .ok (.iload_n 3, 1) := by decide +kernel
theorem dM_windingOf_15 : decode cM_windingOf 15 = .ok (.aload_n 0, 1) := by decide +kernel
theorem dM_windingOf_16 : decode cM_windingOf 16 = .ok (.getfield 35, 3) := by decide +kernel
theorem dM_windingOf_19 : decode cM_windingOf 19 = .ok (.iload 4, 2) := by decide +kernel
theorem dM_windingOf_21 : decode cM_windingOf 21 = .ok (.baload, 1) := by decide +kernel
theorem dM_windingOf_22 : decode cM_windingOf 22 = .ok (.ifCond .eq 17, 3) := by decide +kernel
theorem dM_windingOf_25 : decode cM_windingOf 25 = .ok (.aload_n 0, 1) := by decide +kernel
theorem dM_windingOf_26 : decode cM_windingOf 26 = .ok (.bipush 6, 2) := by decide +kernel
theorem dM_windingOf_28 : decode cM_windingOf 28 = .ok (.iload 4, 2) := by decide +kernel
theorem dM_windingOf_30 : decode cM_windingOf 30 = .ok (.imul, 1) := by decide +kernel
theorem dM_windingOf_31 : decode cM_windingOf 31 = .ok (.iload_n 1, 1) := by decide +kernel
theorem dM_windingOf_32 : decode cM_windingOf 32 = .ok (.iload_n 2, 1) := by decide +kernel
theorem dM_windingOf_33 : decode cM_windingOf 33 = .ok (.invokevirtual 124, 3) := by decide +kernel
theorem dM_windingOf_36 : decode cM_windingOf 36 = .ok (.goto 14, 3) := by decide +kernel
theorem dM_windingOf_39 : decode cM_windingOf 39 = .ok (.aload_n 0, 1) := by decide +kernel
theorem dM_windingOf_40 : decode cM_windingOf 40 = .ok (.bipush 6, 2) := by decide +kernel
theorem dM_windingOf_42 : decode cM_windingOf 42 = .ok (.iload 4, 2) := by decide +kernel
theorem dM_windingOf_44 : decode cM_windingOf 44 = .ok (.imul, 1) := by decide +kernel
theorem dM_windingOf_45 : decode cM_windingOf 45 = .ok (.iload_n 1, 1) := by decide +kernel
theorem dM_windingOf_46 : decode cM_windingOf 46 = .ok (.iload_n 2, 1) := by decide +kernel
theorem dM_windingOf_47 : decode cM_windingOf 47 = .ok (.invokevirtual 128, 3) := by decide +kernel
theorem dM_windingOf_50 : decode cM_windingOf 50 = .ok (.iadd, 1) := by decide +kernel
theorem dM_windingOf_51 : decode cM_windingOf 51 = .ok (.istore_n 3, 1) := by decide +kernel
theorem dM_windingOf_52 : decode cM_windingOf 52 = .ok (.iinc 4 1, 3) := by decide +kernel
theorem dM_windingOf_55 : decode cM_windingOf 55 = .ok (.goto (-50), 3) := by decide +kernel
theorem dM_windingOf_58 : decode cM_windingOf 58 = .ok (.iload_n 3, 1) := by decide +kernel
theorem dM_windingOf_59 : decode cM_windingOf 59 = .ok (.ireturn, 1) := by decide +kernel
theorem dM_curveCount_0 : decode cM_curveCount 0 = .ok (.aload_n 0, 1) := by decide +kernel
theorem dM_curveCount_1 : decode cM_curveCount 1 = .ok (.getfield 32, 3) := by decide +kernel
theorem dM_curveCount_4 : decode cM_curveCount 4 = .ok (.iload_n 1, 1) := by decide +kernel
theorem dM_curveCount_5 : decode cM_curveCount 5 = .ok (.iconst 1, 1) := by decide +kernel
theorem dM_curveCount_6 : decode cM_curveCount 6 = .ok (.iadd, 1) := by decide +kernel
theorem dM_curveCount_7 : decode cM_curveCount 7 = .ok (.iaload, 1) := by decide +kernel
theorem dM_curveCount_8 : decode cM_curveCount 8 = .ok (.i2l, 1) := by decide +kernel
theorem dM_curveCount_9 : decode cM_curveCount 9 = .ok (.ldc2_w 110, 3) := by decide +kernel
theorem dM_curveCount_12 : decode cM_curveCount 12 = .ok (.aload_n 0, 1) := by decide +kernel
theorem dM_curveCount_13 : decode cM_curveCount 13 = .ok (.getfield 32, 3) := by decide +kernel
theorem dM_curveCount_16 : decode cM_curveCount 16 = .ok (.iload_n 1, 1) := by decide +kernel
theorem dM_curveCount_17 : decode cM_curveCount 17 = .ok (.iconst 3, 1) := by decide +kernel
theorem dM_curveCount_18 : decode cM_curveCount 18 = .ok (.iadd, 1) := by decide +kernel
theorem dM_curveCount_19 : decode cM_curveCount 19 = .ok (.iaload, 1) := by decide +kernel
theorem dM_curveCount_20 : decode cM_curveCount 20 = .ok (.i2l, 1) := by decide +kernel
theorem dM_curveCount_21 : decode cM_curveCount 21 = .ok (.lmul, 1) := by decide +kernel
theorem dM_curveCount_22 : decode cM_curveCount 22 = .ok (.lsub, 1) := by decide +kernel
theorem dM_curveCount_23 : decode cM_curveCount 23 = .ok (.aload_n 0, 1) := by decide +kernel
theorem dM_curveCount_24 : decode cM_curveCount 24 = .ok (.getfield 32, 3) := by decide +kernel
theorem dM_curveCount_27 : decode cM_curveCount 27 = .ok (.iload_n 1, 1) := by decide +kernel
theorem dM_curveCount_28 : decode cM_curveCount 28 = .ok (.iconst 5, 1) := by decide +kernel
theorem dM_curveCount_29 : decode cM_curveCount 29 = .ok (.iadd, 1) := by decide +kernel
theorem dM_curveCount_30 : decode cM_curveCount 30 = .ok (.iaload, 1) := by decide +kernel
theorem dM_curveCount_31 : decode cM_curveCount 31 = .ok (.i2l, 1) := by decide +kernel
theorem dM_curveCount_32 : decode cM_curveCount 32 = .ok (.ladd, 1) := by decide +kernel
theorem dM_curveCount_33 : decode cM_curveCount 33 = .ok (.lstore 4, 2) := by decide +kernel
theorem dM_curveCount_35 : decode cM_curveCount 35 = .ok (.ldc2_w 110, 3) := by decide +kernel
theorem dM_curveCount_38 : decode cM_curveCount 38 = .ok (.aload_n 0, 1) := by decide +kernel
theorem dM_curveCount_39 : decode cM_curveCount 39 = .ok (.getfield 32, 3) := by decide +kernel
theorem dM_curveCount_42 : decode cM_curveCount 42 = .ok (.iload_n 1, 1) := by decide +kernel
theorem dM_curveCount_43 : decode cM_curveCount 43 = .ok (.iconst 3, 1) := by decide +kernel
theorem dM_curveCount_44 : decode cM_curveCount 44 = .ok (.iadd, 1) := by decide +kernel
theorem dM_curveCount_45 : decode cM_curveCount 45 = .ok (.iaload, 1) := by decide +kernel
theorem dM_curveCount_46 : decode cM_curveCount 46 = .ok (.aload_n 0, 1) := by decide +kernel
theorem dM_curveCount_47 : decode cM_curveCount 47 = .ok (.getfield 32, 3) := by decide +kernel
theorem dM_curveCount_50 : decode cM_curveCount 50 = .ok (.iload_n 1, 1) := by decide +kernel
theorem dM_curveCount_51 : decode cM_curveCount 51 = .ok (.iconst 1, 1) := by decide +kernel
theorem dM_curveCount_52 : decode cM_curveCount 52 = .ok (.iadd, 1) := by decide +kernel
theorem dM_curveCount_53 : decode cM_curveCount 53 = .ok (.iaload, 1) := by decide +kernel
theorem dM_curveCount_54 : decode cM_curveCount 54 = .ok (.isub, 1) := by decide +kernel
theorem dM_curveCount_55 : decode cM_curveCount 55 = .ok (.i2l, 1) := by decide +kernel
theorem dM_curveCount_56 : decode cM_curveCount 56 = .ok (.lmul, 1) := by decide +kernel
theorem dM_curveCount_57 : decode cM_curveCount 57 = .ok (.lstore 6, 2) := by decide +kernel
theorem dM_curveCount_59 : decode cM_curveCount 59 = .ok (.aload_n 0, 1) := by decide +kernel
theorem dM_curveCount_60 : decode cM_curveCount 60 = .ok (.getfield 32, 3) := by decide +kernel
theorem dM_curveCount_63 : decode cM_curveCount 63 = .ok (.iload_n 1, 1) := by decide +kernel
theorem dM_curveCount_64 : decode cM_curveCount 64 = .ok (.iconst 1, 1) := by decide +kernel
theorem dM_curveCount_65 : decode cM_curveCount 65 = .ok (.iadd, 1) := by decide +kernel
theorem dM_curveCount_66 : decode cM_curveCount 66 = .ok (.iaload, 1) := by decide +kernel
theorem dM_curveCount_67 : decode cM_curveCount 67 = .ok (.i2l, 1) := by decide +kernel
theorem dM_curveCount_68 : decode cM_curveCount 68 = .ok (.iload_n 3, 1) := by decide +kernel
theorem dM_curveCount_69 : decode cM_curveCount 69 = .ok (.i2l, 1) := by decide +kernel
theorem dM_curveCount_70 : decode cM_curveCount 70 = .ok (.lsub, 1) := by decide +kernel
theorem dM_curveCount_71 : decode cM_curveCount 71 = .ok (.lstore 8, 2) := by decide +kernel
theorem dM_curveCount_73 : decode cM_curveCount 73 = .ok (.aload_n 0, 1) := by decide +kernel
theorem dM_curveCount_74 : decode cM_curveCount 74 = .ok (.getfield 32, 3) := by decide +kernel
theorem dM_curveCount_77 : decode cM_curveCount 77 = .ok (.iload_n 1, 1) := by decide +kernel
theorem dM_curveCount_78 : decode cM_curveCount 78 = .ok (.iaload, 1) := by decide +kernel
theorem dM_curveCount_79 : decode cM_curveCount 79 = .ok (.i2l, 1) := by decide +kernel
theorem dM_curveCount_80 : decode cM_curveCount 80 = .ok (.ldc2_w 110, 3) := by decide +kernel
theorem dM_curveCount_83 : decode cM_curveCount 83 = .ok (.aload_n 0, 1) := by decide +kernel
theorem dM_curveCount_84 : decode cM_curveCount 84 = .ok (.getfield 32, 3) := by decide +kernel
theorem dM_curveCount_87 : decode cM_curveCount 87 = .ok (.iload_n 1, 1) := by decide +kernel
theorem dM_curveCount_88 : decode cM_curveCount 88 = .ok (.iconst 2, 1) := by decide +kernel
theorem dM_curveCount_89 : decode cM_curveCount 89 = .ok (.iadd, 1) := by decide +kernel
theorem dM_curveCount_90 : decode cM_curveCount 90 = .ok (.iaload, 1) := by decide +kernel
theorem dM_curveCount_91 : decode cM_curveCount 91 = .ok (.i2l, 1) := by decide +kernel
theorem dM_curveCount_92 : decode cM_curveCount 92 = .ok (.lmul, 1) := by decide +kernel
theorem dM_curveCount_93 : decode cM_curveCount 93 = .ok (.lsub, 1) := by decide +kernel
theorem dM_curveCount_94 : decode cM_curveCount 94 = .ok (.aload_n 0, 1) := by decide +kernel
theorem dM_curveCount_95 : decode cM_curveCount 95 = .ok (.getfield 32, 3) := by decide +kernel
theorem dM_curveCount_98 : decode cM_curveCount 98 = .ok (.iload_n 1, 1) := by decide +kernel
theorem dM_curveCount_99 : decode cM_curveCount 99 = .ok (.iconst 4, 1) := by decide +kernel
theorem dM_curveCount_100 : decode cM_curveCount 100 = .ok (.iadd, 1) := by decide +kernel
theorem dM_curveCount_101 : decode cM_curveCount 101 = .ok (.iaload, 1) := by decide +kernel
theorem dM_curveCount_102 : decode cM_curveCount 102 = .ok (.i2l, 1) := by decide +kernel
theorem dM_curveCount_103 : decode cM_curveCount 103 = .ok (.ladd, 1) := by decide +kernel
theorem dM_curveCount_104 : decode cM_curveCount 104 = .ok (.lstore 10, 2) := by decide +kernel
theorem dM_curveCount_106 : decode cM_curveCount 106 = .ok (.ldc2_w 110, 3) := by decide +kernel
theorem dM_curveCount_109 : decode cM_curveCount 109 = .ok (.aload_n 0, 1) := by decide +kernel
theorem dM_curveCount_110 : decode cM_curveCount 110 = .ok (.getfield 32, 3) := by decide +kernel
theorem dM_curveCount_113 : decode cM_curveCount 113 = .ok (.iload_n 1, 1) := by decide +kernel
theorem dM_curveCount_114 : decode cM_curveCount 114 = .ok (.iconst 2, 1) := by decide +kernel
theorem dM_curveCount_115 : decode cM_curveCount 115 = .ok (.iadd, 1) := by decide +kernel
theorem dM_curveCount_116 : decode cM_curveCount 116 = .ok (.iaload, 1) := by decide +kernel
theorem dM_curveCount_117 : decode cM_curveCount 117 = .ok (.aload_n 0, 1) := by decide +kernel
theorem dM_curveCount_118 : decode cM_curveCount 118 = .ok (.getfield 32, 3) := by decide +kernel
theorem dM_curveCount_121 : decode cM_curveCount 121 = .ok (.iload_n 1, 1) := by decide +kernel
theorem dM_curveCount_122 : decode cM_curveCount 122 = .ok (.iaload, 1) := by decide +kernel
theorem dM_curveCount_123 : decode cM_curveCount 123 = .ok (.isub, 1) := by decide +kernel
theorem dM_curveCount_124 : decode cM_curveCount 124 = .ok (.i2l, 1) := by decide +kernel
theorem dM_curveCount_125 : decode cM_curveCount 125 = .ok (.lmul, 1) := by decide +kernel
theorem dM_curveCount_126 : decode cM_curveCount 126 = .ok (.lstore 12, 2) := by decide +kernel
theorem dM_curveCount_128 : decode cM_curveCount 128 = .ok (.aload_n 0, 1) := by decide +kernel
theorem dM_curveCount_129 : decode cM_curveCount 129 = .ok (.getfield 32, 3) := by decide +kernel
theorem dM_curveCount_132 : decode cM_curveCount 132 = .ok (.iload_n 1, 1) := by decide +kernel
theorem dM_curveCount_133 : decode cM_curveCount 133 = .ok (.iaload, 1) := by decide +kernel
theorem dM_curveCount_134 : decode cM_curveCount 134 = .ok (.i2l, 1) := by decide +kernel
theorem dM_curveCount_135 : decode cM_curveCount 135 = .ok (.iload_n 2, 1) := by decide +kernel
theorem dM_curveCount_136 : decode cM_curveCount 136 = .ok (.i2l, 1) := by decide +kernel
theorem dM_curveCount_137 : decode cM_curveCount 137 = .ok (.lsub, 1) := by decide +kernel
theorem dM_curveCount_138 : decode cM_curveCount 138 = .ok (.lstore 14, 2) := by decide +kernel
theorem dM_curveCount_140 : decode cM_curveCount 140 = .ok (.lload 8, 2) := by decide +kernel
theorem dM_curveCount_142 : decode cM_curveCount 142 = .ok (.lconst 0, 1) := by decide +kernel
theorem dM_curveCount_143 : decode cM_curveCount 143 = .ok (.lcmp, 1) := by decide +kernel
theorem dM_curveCount_144 : decode cM_curveCount 144 = .ok (.ifCond .le 7, 3) := by decide +kernel
theorem dM_curveCount_147 : decode cM_curveCount 147 = .ok (.iconst 1, 1) := by decide +kernel
theorem dM_curveCount_148 : decode cM_curveCount 148 = .ok (.goto 4, 3) := by decide +kernel
theorem dM_curveCount_151 : decode cM_curveCount 151 = .ok (.iconst 0, 1) := by decide +kernel
theorem dM_curveCount_152 : decode cM_curveCount 152 = .ok (.istore 16, 2) := by decide +kernel
theorem dM_curveCount_154 : decode cM_curveCount 154 = .ok (.aload_n 0, 1) := by decide +kernel
theorem dM_curveCount_155 : decode cM_curveCount 155 = .ok (.getfield 32, 3) := by decide +kernel
theorem dM_curveCount_158 : decode cM_curveCount 158 = .ok (.iload_n 1, 1) := by decide +kernel
theorem dM_curveCount_159 : decode cM_curveCount 159 = .ok (.iconst 5, 1) := by decide +kernel
theorem dM_curveCount_160 : decode cM_curveCount 160 = .ok (.iadd, 1) := by decide +kernel
theorem dM_curveCount_161 : decode cM_curveCount 161 = .ok (.iaload, 1) := by decide +kernel
theorem dM_curveCount_162 : decode cM_curveCount 162 = .ok (.iload_n 3, 1) := by decide +kernel
theorem dM_curveCount_163 : decode cM_curveCount 163 = .ok (.if_icmp .le 7, 3) := by decide +kernel
theorem dM_curveCount_166 : decode cM_curveCount 166 = .ok (.iconst 1, 1) := by decide +kernel
theorem dM_curveCount_167 : decode cM_curveCount 167 = .ok (.goto 4, 3) := by decide +kernel
theorem dM_curveCount_170 : decode cM_curveCount 170 = .ok (.iconst 0, 1) := by decide +kernel
theorem dM_curveCount_171 : decode cM_curveCount 171 = .ok (.istore 17, 2) := by decide +kernel
theorem dM_curveCount_173 : decode cM_curveCount 173 = .ok (.iload 16, 2) := by decide +kernel
theorem dM_curveCount_175 : decode cM_curveCount 175 = .ok (.iload 17, 2) := by decide +kernel
theorem dM_curveCount_177 : decode cM_curveCount 177 = .ok (.if_icmp .eq 63, 3) := by decide +kernel
theorem dM_curveCount_180 : decode cM_curveCount 180 = .ok (.aload_n 0, 1) := by decide +kernel
theorem dM_curveCount_181 : decode cM_curveCount 181 = .ok (.lload 4, 2) := by decide +kernel
theorem dM_curveCount_183 : decode cM_curveCount 183 = .ok (.lload 6, 2) := by decide +kernel
theorem dM_curveCount_185 : decode cM_curveCount 185 = .ok (.lload 8, 2) := by decide +kernel
theorem dM_curveCount_187 : decode cM_curveCount 187 = .ok (.iload 17, 2) := by decide +kernel
theorem dM_curveCount_189 : decode cM_curveCount 189 = .ok (.lload 4, 2) := by decide +kernel
theorem dM_curveCount_191 : decode cM_curveCount 191 = .ok (.lconst 0, 1) := by decide +kernel
theorem dM_curveCount_192 : decode cM_curveCount 192 = .ok (.lcmp, 1) := by decide +kernel
theorem dM_curveCount_193 : decode cM_curveCount 193 = .ok (.ifCond .le 7, 3) := by decide +kernel
theorem dM_curveCount_196 : decode cM_curveCount 196 = .ok (.iconst 1, 1) := by decide +kernel
theorem dM_curveCount_197 : decode cM_curveCount 197 = .ok (.goto 4, 3) := by decide +kernel
theorem dM_curveCount_200 : decode cM_curveCount 200 = .ok (.iconst 0, 1) := by decide +kernel
theorem dM_curveCount_201 : decode cM_curveCount 201 = .ok (.if_icmp .ne 7, 3) := by decide +kernel
theorem dM_curveCount_204 : decode cM_curveCount 204 = .ok (.iconst 1, 1) := by decide +kernel
theorem dM_curveCount_205 : decode cM_curveCount 205 = .ok (.goto 4, 3) := by decide +kernel
theorem dM_curveCount_208 : decode cM_curveCount 208 = .ok (.iconst 0, 1) := by decide +kernel
theorem dM_curveCount_209 : decode cM_curveCount 209 = .ok (.lload 10, 2) := by decide +kernel
theorem dM_curveCount_211 : decode cM_curveCount 211 = .ok (.lload 12, 2) := by decide +kernel
theorem dM_curveCount_213 : decode cM_curveCount 213 = .ok (.lload 14, 2) := by decide +kernel
theorem dM_curveCount_215 : decode cM_curveCount 215 = .ok (.invokevirtual 116, 3) := by decide +kernel
theorem dM_curveCount_218 : decode cM_curveCount 218 = .ok (.istore 18, 2) := by decide +kernel
theorem dM_curveCount_220 : decode cM_curveCount 220 = .ok (.iload 18, 2) := by decide +kernel
theorem dM_curveCount_222 : decode cM_curveCount 222 = .ok (.ifCond .ne 7, 3) := by decide +kernel
theorem dM_curveCount_225 : decode cM_curveCount 225 = .ok (.iconst 0, 1) := by decide +kernel
theorem dM_curveCount_226 : decode cM_curveCount 226 = .ok (.goto 13, 3) := by decide +kernel
theorem dM_curveCount_229 : decode cM_curveCount 229 = .ok (.iload 17, 2) := by decide +kernel
theorem dM_curveCount_231 : decode cM_curveCount 231 = .ok (.ifCond .eq 7, 3) := by decide +kernel
theorem dM_curveCount_234 : decode cM_curveCount 234 = .ok (.iconst 1, 1) := by decide +kernel
theorem dM_curveCount_235 : decode cM_curveCount 235 = .ok (.goto 4, 3) := by decide +kernel
theorem dM_curveCount_238 : decode cM_curveCount 238 = .ok (.iconst (-1), 1) := by decide +kernel
theorem dM_curveCount_239 : decode cM_curveCount 239 = .ok (.ireturn, 1) := by decide +kernel
theorem dM_curveCount_240 : decode cM_curveCount 240 = .ok (.lload 4, 2) := by decide +kernel
theorem dM_curveCount_242 : decode cM_curveCount 242 = .ok (.lconst 0, 1) := by decide +kernel
theorem dM_curveCount_243 : decode cM_curveCount 243 = .ok (.lcmp, 1) := by decide +kernel
theorem dM_curveCount_244 : decode cM_curveCount 244 = .ok (.ifCond .le 31, 3) := by decide +kernel
theorem dM_curveCount_247 : decode cM_curveCount 247 = .ok (.lload 6, 2) := by decide +kernel
theorem dM_curveCount_249 : decode cM_curveCount 249 = .ok (.lconst 0, 1) := by decide +kernel
theorem dM_curveCount_250 : decode cM_curveCount 250 = .ok (.lcmp, 1) := by decide +kernel
theorem dM_curveCount_251 : decode cM_curveCount 251 = .ok (.ifCond .ge 20, 3) := by decide +kernel
theorem dM_curveCount_254 : decode cM_curveCount 254 = .ok (.lload 6, 2) := by decide +kernel
theorem dM_curveCount_256 : decode cM_curveCount 256 = .ok (.lneg, 1) := by decide +kernel
theorem dM_curveCount_257 : decode cM_curveCount 257 = .ok (.ldc2_w 110, 3) := by decide +kernel
theorem dM_curveCount_260 : decode cM_curveCount 260 = .ok (.lload 4, 2) := by decide +kernel
theorem dM_curveCount_262 : decode cM_curveCount 262 = .ok (.lmul, 1) := by decide +kernel
theorem dM_curveCount_263 : decode cM_curveCount 263 = .ok (.lcmp, 1) := by decide +kernel
theorem dM_curveCount_264 : decode cM_curveCount 264 = .ok (.ifCond .ge 7, 3) := by decide +kernel
theorem dM_curveCount_267 : decode cM_curveCount 267 = .ok (.iconst 1, 1) := by decide +kernel
theorem dM_curveCount_268 : decode cM_curveCount 268 = .ok (.goto 38, 3) := by decide +kernel
theorem dM_curveCount_271 : decode cM_curveCount 271 = .ok (.iconst 0, 1) := by decide +kernel
theorem dM_curveCount_272 : decode cM_curveCount 272 = .ok (.goto 34, 3) := by decide +kernel
theorem dM_curveCount_275 : decode cM_curveCount 275 = .ok (.lload 4, 2) := by decide +kernel
theorem dM_curveCount_277 : decode cM_curveCount 277 = .ok (.lconst 0, 1) := by decide +kernel
theorem dM_curveCount_278 : decode cM_curveCount 278 = .ok (.lcmp, 1) := by decide +kernel
theorem dM_curveCount_279 : decode cM_curveCount 279 = .ok (.ifCond .ge 26, 3) := by decide +kernel
theorem dM_curveCount_282 : decode cM_curveCount 282 = .ok (.lload 6, 2) := by decide +kernel
theorem dM_curveCount_284 : decode cM_curveCount 284 = .ok (.lconst 0, 1) := by decide +kernel
theorem dM_curveCount_285 : decode cM_curveCount 285 = .ok (.lcmp, 1) := by decide +kernel
theorem dM_curveCount_286 : decode cM_curveCount 286 = .ok (.ifCond .le 19, 3) := by decide +kernel
theorem dM_curveCount_289 : decode cM_curveCount 289 = .ok (.lload 6, 2) := by decide +kernel
theorem dM_curveCount_291 : decode cM_curveCount 291 = .ok (.ldc2_w 120, 3) := by decide +kernel
theorem dM_curveCount_294 : decode cM_curveCount 294 = .ok (.lload 4, 2) := by decide +kernel
theorem dM_curveCount_296 : decode cM_curveCount 296 = .ok (.lmul, 1) := by decide +kernel
theorem dM_curveCount_297 : decode cM_curveCount 297 = .ok (.lcmp, 1) := by decide +kernel
theorem dM_curveCount_298 : decode cM_curveCount 298 = .ok (.ifCond .ge 7, 3) := by decide +kernel
theorem dM_curveCount_301 : decode cM_curveCount 301 = .ok (.iconst 1, 1) := by decide +kernel
theorem dM_curveCount_302 : decode cM_curveCount 302 = .ok (.goto 4, 3) := by decide +kernel
theorem dM_curveCount_305 : decode cM_curveCount 305 = .ok (.iconst 0, 1) := by decide +kernel
theorem dM_curveCount_306 : decode cM_curveCount 306 = .ok (.istore 18, 2) := by decide +kernel
theorem dM_curveCount_308 : decode cM_curveCount 308 = .ok (.iload 16, 2) := by decide +kernel
theorem dM_curveCount_310 : decode cM_curveCount 310 = .ok (.ifCond .eq 18, 3) := by decide +kernel
theorem dM_curveCount_313 : decode cM_curveCount 313 = .ok (.lload 4, 2) := by decide +kernel
theorem dM_curveCount_315 : decode cM_curveCount 315 = .ok (.lconst 0, 1) := by decide +kernel
theorem dM_curveCount_316 : decode cM_curveCount 316 = .ok (.lcmp, 1) := by decide +kernel
theorem dM_curveCount_317 : decode cM_curveCount 317 = .ok (.ifCond .le 7, 3) := by decide +kernel
theorem dM_curveCount_320 : decode cM_curveCount 320 = .ok (.iconst 1, 1) := by decide +kernel
theorem dM_curveCount_321 : decode cM_curveCount 321 = .ok (.goto 19, 3) := by decide +kernel
theorem dM_curveCount_324 : decode cM_curveCount 324 = .ok (.iconst 0, 1) := by decide +kernel
theorem dM_curveCount_325 : decode cM_curveCount 325 = .ok (.goto 15, 3) := by decide +kernel
theorem dM_curveCount_328 : decode cM_curveCount 328 = .ok (.lload 4, 2) := by decide +kernel
theorem dM_curveCount_330 : decode cM_curveCount 330 = .ok (.lconst 0, 1) := by decide +kernel
theorem dM_curveCount_331 : decode cM_curveCount 331 = .ok (.lcmp, 1) := by decide +kernel
theorem dM_curveCount_332 : decode cM_curveCount 332 = .ok (.ifCond .ge 7, 3) := by decide +kernel
theorem dM_curveCount_335 : decode cM_curveCount 335 = .ok (.iconst 1, 1) := by decide +kernel
theorem dM_curveCount_336 : decode cM_curveCount 336 = .ok (.goto 4, 3) := by decide +kernel
theorem dM_curveCount_339 : decode cM_curveCount 339 = .ok (.iconst 0, 1) := by decide +kernel
theorem dM_curveCount_340 : decode cM_curveCount 340 = .ok (.istore 19, 2) := by decide +kernel
theorem dM_curveCount_342 : decode cM_curveCount 342 = .ok (.iload 18, 2) := by decide +kernel
theorem dM_curveCount_344 : decode cM_curveCount 344 = .ok (.ifCond .eq 28, 3) := by decide +kernel
theorem dM_curveCount_347 : decode cM_curveCount 347 = .ok (.iload 19, 2) := by decide +kernel
theorem dM_curveCount_349 : decode cM_curveCount 349 = .ok (.ifCond .eq 23, 3) := by decide +kernel
theorem dM_curveCount_352 : decode cM_curveCount 352 = .ok (.lload 6, 2) := by decide +kernel
theorem dM_curveCount_354 : decode cM_curveCount 354 = .ok (.lload 6, 2) := by decide +kernel
theorem dM_curveCount_356 : decode cM_curveCount 356 = .ok (.lmul, 1) := by decide +kernel
theorem dM_curveCount_357 : decode cM_curveCount 357 = .ok (.ldc2_w 122, 3) := by decide +kernel
theorem dM_curveCount_360 : decode cM_curveCount 360 = .ok (.lload 4, 2) := by decide +kernel
theorem dM_curveCount_362 : decode cM_curveCount 362 = .ok (.lmul, 1) := by decide +kernel
theorem dM_curveCount_363 : decode cM_curveCount 363 = .ok (.lload 8, 2) := by decide +kernel
theorem dM_curveCount_365 : decode cM_curveCount 365 = .ok (.lmul, 1) := by decide +kernel
theorem dM_curveCount_366 : decode cM_curveCount 366 = .ok (.lsub, 1) := by decide +kernel
theorem dM_curveCount_367 : decode cM_curveCount 367 = .ok (.lconst 0, 1) := by decide +kernel
theorem dM_curveCount_368 : decode cM_curveCount 368 = .ok (.lcmp, 1) := by decide +kernel
theorem dM_curveCount_369 : decode cM_curveCount 369 = .ok (.ifCond .gt 5, 3) := by decide +kernel
theorem dM_curveCount_372 : decode cM_curveCount 372 = .ok (.iconst 0, 1) := by decide +kernel
theorem dM_curveCount_373 : decode cM_curveCount 373 = .ok (.ireturn, 1) := by decide +kernel
end
section
/-! decode rows -/
theorem dM_curveCount_374 : decode cM_curveCount 374 = .ok (.aload_n 0, 1) := by decide +kernel
theorem dM_curveCount_375 : decode cM_curveCount 375 = .ok (.lload 4, 2) := by decide +kernel
theorem dM_curveCount_377 : decode cM_curveCount 377 = .ok (.lload 6, 2) := by decide +kernel
theorem dM_curveCount_379 : decode cM_curveCount 379 = .ok (.lload 8, 2) := by decide +kernel
theorem dM_curveCount_381 : decode cM_curveCount 381 = .ok (.iconst 0, 1) := by decide +kernel
theorem dM_curveCount_382 : decode cM_curveCount 382 = .ok (.lload 10, 2) := by decide +kernel
theorem dM_curveCount_384 : decode cM_curveCount 384 = .ok (.lload 12, 2) := by decide +kernel
theorem dM_curveCount_386 : decode cM_curveCount 386 = .ok (.lload 14, 2) := by decide +kernel
theorem dM_curveCount_388 : decode cM_curveCount 388 = .ok (.invokevirtual 116, 3) := by decide +kernel
theorem dM_curveCount_391 : decode cM_curveCount 391 = .ok (.ifCond .eq 7, 3) := by decide +kernel
theorem dM_curveCount_394 : decode cM_curveCount 394 = .ok (.iconst 1, 1) := by decide +kernel
theorem dM_curveCount_395 : decode cM_curveCount 395 = .ok (.goto 4, 3) := by decide +kernel
theorem dM_curveCount_398 : decode cM_curveCount 398 = .ok (.iconst 0, 1) := by decide +kernel
theorem dM_curveCount_399 : decode cM_curveCount 399 = .ok (.istore 20, 2) := by decide +kernel
theorem dM_curveCount_401 : decode cM_curveCount 401 = .ok (.aload_n 0, 1) := by decide +kernel
theorem dM_curveCount_402 : decode cM_curveCount 402 = .ok (.lload 4, 2) := by decide +kernel
theorem dM_curveCount_404 : decode cM_curveCount 404 = .ok (.lload 6, 2) := by decide +kernel
theorem dM_curveCount_406 : decode cM_curveCount 406 = .ok (.lload 8, 2) := by decide +kernel
theorem dM_curveCount_408 : decode cM_curveCount 408 = .ok (.iconst 1, 1) := by decide +kernel
theorem dM_curveCount_409 : decode cM_curveCount 409 = .ok (.lload 10, 2) := by decide +kernel
theorem dM_curveCount_411 : decode cM_curveCount 411 = .ok (.lload 12, 2) := by decide +kernel
theorem dM_curveCount_413 : decode cM_curveCount 413 = .ok (.lload 14, 2) := by decide +kernel
theorem dM_curveCount_415 : decode cM_curveCount 415 = .ok (.invokevirtual 116, 3) := by decide +kernel
theorem dM_curveCount_418 : decode cM_curveCount 418 = .ok (.ifCond .eq 7, 3) := by decide +kernel
theorem dM_curveCount_421 : decode cM_curveCount 421 = .ok (.iconst 1, 1) := by decide +kernel
theorem dM_curveCount_422 : decode cM_curveCount 422 = .ok (.goto 4, 3) := by decide +kernel
theorem dM_curveCount_425 : decode cM_curveCount 425 = .ok (.iconst 0, 1) := by decide +kernel
theorem dM_curveCount_426 : decode cM_curveCount 426 = .ok (.istore 21, 2) := by decide +kernel
theorem dM_curveCount_428 : decode cM_curveCount 428 = .ok (.iload 16, 2) := by decide +kernel
theorem dM_curveCount_430 : decode cM_curveCount 430 = .ok (.ifCond .eq 11, 3) := by decide +kernel
theorem dM_curveCount_433 : decode cM_curveCount 433 = .ok (.iload 21, 2) := by decide +kernel
theorem dM_curveCount_435 : decode cM_curveCount 435 = .ok (.iload 20, 2) := by decide +kernel
theorem dM_curveCount_437 : decode cM_curveCount 437 = .ok (.isub, 1) := by decide +kernel
theorem dM_curveCount_438 : decode cM_curveCount 438 = .ok (.goto 8, 3) := by decide +kernel
theorem dM_curveCount_441 : decode cM_curveCount 441 = .ok (.iload 20, 2) := by decide +kernel
theorem dM_curveCount_443 : decode cM_curveCount 443 = .ok (.iload 21, 2) := by decide +kernel
theorem dM_curveCount_445 : decode cM_curveCount 445 = .ok (.isub, 1) := by decide +kernel
theorem dM_curveCount_446 : decode cM_curveCount 446 = .ok (.ireturn, 1) := by decide +kernel
theorem dM_isLeft_0 : decode cM_isLeft 0 = .ok (.lload_n 1, 1) := by decide +kernel
theorem dM_isLeft_1 : decode cM_isLeft 1 = .ok (.lconst 0, 1) := by decide +kernel
theorem dM_isLeft_2 : decode cM_isLeft 2 = .ok (.lcmp, 1) := by decide +kernel
theorem dM_isLeft_3 : decode cM_isLeft 3 = .ok (.ifCond .ne 38, 3) := by decide +kernel
theorem dM_isLeft_6 : decode cM_isLeft 6 = .ok (.lload 8, 2) := by decide +kernel
theorem dM_isLeft_8 : decode cM_isLeft 8 = .ok (.lload 5, 2) := by decide +kernel
theorem dM_isLeft_10 : decode cM_isLeft 10 = .ok (.lmul, 1) := by decide +kernel
theorem dM_isLeft_11 : decode cM_isLeft 11 = .ok (.lload 5, 2) := by decide +kernel
theorem dM_isLeft_13 : decode cM_isLeft 13 = .ok (.lmul, 1) := by decide +kernel
theorem dM_isLeft_14 : decode cM_isLeft 14 = .ok (.lload 10, 2) := by decide +kernel
theorem dM_isLeft_16 : decode cM_isLeft 16 = .ok (.lload 5, 2) := by decide +kernel
theorem dM_isLeft_18 : decode cM_isLeft 18 = .ok (.lmul, 1) := by decide +kernel
theorem dM_isLeft_19 : decode cM_isLeft 19 = .ok (.lload_n 3, 1) := by decide +kernel
theorem dM_isLeft_20 : decode cM_isLeft 20 = .ok (.lmul, 1) := by decide +kernel
theorem dM_isLeft_21 : decode cM_isLeft 21 = .ok (.lsub, 1) := by decide +kernel
theorem dM_isLeft_22 : decode cM_isLeft 22 = .ok (.lload 12, 2) := by decide +kernel
theorem dM_isLeft_24 : decode cM_isLeft 24 = .ok (.lload_n 3, 1) := by decide +kernel
theorem dM_isLeft_25 : decode cM_isLeft 25 = .ok (.lmul, 1) := by decide +kernel
theorem dM_isLeft_26 : decode cM_isLeft 26 = .ok (.lload_n 3, 1) := by decide +kernel
theorem dM_isLeft_27 : decode cM_isLeft 27 = .ok (.lmul, 1) := by decide +kernel
theorem dM_isLeft_28 : decode cM_isLeft 28 = .ok (.ladd, 1) := by decide +kernel
theorem dM_isLeft_29 : decode cM_isLeft 29 = .ok (.invokestatic 102, 3) := by decide +kernel
theorem dM_isLeft_32 : decode cM_isLeft 32 = .ok (.ifCond .gt 7, 3) := by decide +kernel
theorem dM_isLeft_35 : decode cM_isLeft 35 = .ok (.iconst 1, 1) := by decide +kernel
theorem dM_isLeft_36 : decode cM_isLeft 36 = .ok (.goto 4, 3) := by decide +kernel
theorem dM_isLeft_39 : decode cM_isLeft 39 = .ok (.iconst 0, 1) := by decide +kernel
theorem dM_isLeft_40 : decode cM_isLeft 40 = .ok (.ireturn, 1) := by decide +kernel
theorem dM_isLeft_41 : decode cM_isLeft 41 = .ok (.lload_n 1, 1) := by decide +kernel
theorem dM_isLeft_42 : decode cM_isLeft 42 = .ok (.lload 10, 2) := by decide +kernel
theorem dM_isLeft_44 : decode cM_isLeft 44 = .ok (.lmul, 1) := by decide +kernel
theorem dM_isLeft_45 : decode cM_isLeft 45 = .ok (.lload 8, 2) := by decide +kernel
theorem dM_isLeft_47 : decode cM_isLeft 47 = .ok (.lload_n 3, 1) := by decide +kernel
theorem dM_isLeft_48 : decode cM_isLeft 48 = .ok (.lmul, 1) := by decide +kernel
theorem dM_isLeft_49 : decode cM_isLeft 49 = .ok (.lsub, 1) := by decide +kernel
theorem dM_isLeft_50 : decode cM_isLeft 50 = .ok (.lstore 14, 2) := by decide +kernel
theorem dM_isLeft_52 : decode cM_isLeft 52 = .ok (.lload_n 1, 1) := by decide +kernel
theorem dM_isLeft_53 : decode cM_isLeft 53 = .ok (.lload 12, 2) := by decide +kernel
theorem dM_isLeft_55 : decode cM_isLeft 55 = .ok (.lmul, 1) := by decide +kernel
theorem dM_isLeft_56 : decode cM_isLeft 56 = .ok (.lload 8, 2) := by decide +kernel
theorem dM_isLeft_58 : decode cM_isLeft 58 = .ok (.lload 5, 2) := by decide +kernel
theorem dM_isLeft_60 : decode cM_isLeft 60 = .ok (.lmul, 1) := by decide +kernel
theorem dM_isLeft_61 : decode cM_isLeft 61 = .ok (.lsub, 1) := by decide +kernel
theorem dM_isLeft_62 : decode cM_isLeft 62 = .ok (.lstore 16, 2) := by decide +kernel
theorem dM_isLeft_64 : decode cM_isLeft 64 = .ok (.lload 16, 2) := by decide +kernel
theorem dM_isLeft_66 : decode cM_isLeft 66 = .ok (.invokestatic 102, 3) := by decide +kernel
theorem dM_isLeft_69 : decode cM_isLeft 69 = .ok (.istore 18, 2) := by decide +kernel
theorem dM_isLeft_71 : decode cM_isLeft 71 = .ok (.lload 14, 2) := by decide +kernel
theorem dM_isLeft_73 : decode cM_isLeft 73 = .ok (.lconst 0, 1) := by decide +kernel
theorem dM_isLeft_74 : decode cM_isLeft 74 = .ok (.lcmp, 1) := by decide +kernel
theorem dM_isLeft_75 : decode cM_isLeft 75 = .ok (.ifCond .eq 59, 3) := by decide +kernel
theorem dM_isLeft_78 : decode cM_isLeft 78 = .ok (.lload 14, 2) := by decide +kernel
theorem dM_isLeft_80 : decode cM_isLeft 80 = .ok (.lconst 0, 1) := by decide +kernel
theorem dM_isLeft_81 : decode cM_isLeft 81 = .ok (.lcmp, 1) := by decide +kernel
theorem dM_isLeft_82 : decode cM_isLeft 82 = .ok (.ifCond .le 9, 3) := by decide +kernel
theorem dM_isLeft_85 : decode cM_isLeft 85 = .ok (.lload 16, 2) := by decide +kernel
theorem dM_isLeft_87 : decode cM_isLeft 87 = .ok (.lneg, 1) := by decide +kernel
theorem dM_isLeft_88 : decode cM_isLeft 88 = .ok (.goto 5, 3) := by decide +kernel
theorem dM_isLeft_91 : decode cM_isLeft 91 = .ok (.lload 16, 2) := by decide +kernel
theorem dM_isLeft_93 : decode cM_isLeft 93 = .ok (.lstore 19, 2) := by decide +kernel
theorem dM_isLeft_95 : decode cM_isLeft 95 = .ok (.lload 14, 2) := by decide +kernel
theorem dM_isLeft_97 : decode cM_isLeft 97 = .ok (.lconst 0, 1) := by decide +kernel
theorem dM_isLeft_98 : decode cM_isLeft 98 = .ok (.lcmp, 1) := by decide +kernel
theorem dM_isLeft_99 : decode cM_isLeft 99 = .ok (.ifCond .le 8, 3) := by decide +kernel
theorem dM_isLeft_102 : decode cM_isLeft 102 = .ok (.lload 14, 2) := by decide +kernel
theorem dM_isLeft_104 : decode cM_isLeft 104 = .ok (.goto 6, 3) := by decide +kernel
theorem dM_isLeft_107 : decode cM_isLeft 107 = .ok (.lload 14, 2) := by decide +kernel
theorem dM_isLeft_109 : decode cM_isLeft 109 = .ok (.lneg, 1) := by decide +kernel
theorem dM_isLeft_110 : decode cM_isLeft 110 = .ok (.lstore 21, 2) := by decide +kernel
theorem dM_isLeft_112 : decode cM_isLeft 112 = .ok (.lload 14, 2) := by decide +kernel
theorem dM_isLeft_114 : decode cM_isLeft 114 = .ok (.invokestatic 102, 3) := by decide +kernel
theorem dM_isLeft_117 : decode cM_isLeft 117 = .ok (.aload_n 0, 1) := by decide +kernel
theorem dM_isLeft_118 : decode cM_isLeft 118 = .ok (.lload_n 1, 1) := by decide +kernel
theorem dM_isLeft_119 : decode cM_isLeft 119 = .ok (.lload_n 3, 1) := by decide +kernel
theorem dM_isLeft_120 : decode cM_isLeft 120 = .ok (.lload 5, 2) := by decide +kernel
theorem dM_isLeft_122 : decode cM_isLeft 122 = .ok (.iload 7, 2) := by decide +kernel
theorem dM_isLeft_124 : decode cM_isLeft 124 = .ok (.lload 19, 2) := by decide +kernel
theorem dM_isLeft_126 : decode cM_isLeft 126 = .ok (.lload 21, 2) := by decide +kernel
theorem dM_isLeft_128 : decode cM_isLeft 128 = .ok (.invokevirtual 112, 3) := by decide +kernel
theorem dM_isLeft_131 : decode cM_isLeft 131 = .ok (.imul, 1) := by decide +kernel
theorem dM_isLeft_132 : decode cM_isLeft 132 = .ok (.istore 18, 2) := by decide +kernel
theorem dM_isLeft_134 : decode cM_isLeft 134 = .ok (.lload_n 1, 1) := by decide +kernel
theorem dM_isLeft_135 : decode cM_isLeft 135 = .ok (.invokestatic 102, 3) := by decide +kernel
theorem dM_isLeft_138 : decode cM_isLeft 138 = .ok (.iload 18, 2) := by decide +kernel
theorem dM_isLeft_140 : decode cM_isLeft 140 = .ok (.imul, 1) := by decide +kernel
theorem dM_isLeft_141 : decode cM_isLeft 141 = .ok (.ifCond .gt 7, 3) := by decide +kernel
theorem dM_isLeft_144 : decode cM_isLeft 144 = .ok (.iconst 1, 1) := by decide +kernel
theorem dM_isLeft_145 : decode cM_isLeft 145 = .ok (.goto 4, 3) := by decide +kernel
theorem dM_isLeft_148 : decode cM_isLeft 148 = .ok (.iconst 0, 1) := by decide +kernel
theorem dM_isLeft_149 : decode cM_isLeft 149 = .ok (.ireturn, 1) := by decide +kernel
theorem dM_signOf_0 : decode cM_signOf 0 = .ok (.lload_n 0, 1) := by decide +kernel
theorem dM_signOf_1 : decode cM_signOf 1 = .ok (.lconst 0, 1) := by decide +kernel
theorem dM_signOf_2 : decode cM_signOf 2 = .ok (.lcmp, 1) := by decide +kernel
theorem dM_signOf_3 : decode cM_signOf 3 = .ok (.ifCond .le 7, 3) := by decide +kernel
theorem dM_signOf_6 : decode cM_signOf 6 = .ok (.iconst 1, 1) := by decide +kernel
theorem dM_signOf_7 : decode cM_signOf 7 = .ok (.goto 14, 3) := by decide +kernel
theorem dM_signOf_10 : decode cM_signOf 10 = .ok (.lload_n 0, 1) := by decide +kernel
theorem dM_signOf_11 : decode cM_signOf 11 = .ok (.lconst 0, 1) := by decide +kernel
theorem dM_signOf_12 : decode cM_signOf 12 = .ok (.lcmp, 1) := by decide +kernel
theorem dM_signOf_13 : decode cM_signOf 13 = .ok (.ifCond .ge 7, 3) := by decide +kernel
theorem dM_signOf_16 : decode cM_signOf 16 = .ok (.iconst (-1), 1) := by decide +kernel
theorem dM_signOf_17 : decode cM_signOf 17 = .ok (.goto 4, 3) := by decide +kernel
theorem dM_signOf_20 : decode cM_signOf 20 = .ok (.iconst 0, 1) := by decide +kernel
theorem dM_signOf_21 : decode cM_signOf 21 = .ok (.ireturn, 1) := by decide +kernel
theorem dM_compareRoot_0 : decode cM_compareRoot 0 = .ok (.lload_n 1, 1) := by decide +kernel
theorem dM_compareRoot_1 : decode cM_compareRoot 1 = .ok (.invokestatic 102, 3) := by decide +kernel
theorem dM_compareRoot_4 : decode cM_compareRoot 4 = .ok (.aload_n 0, 1) := by decide +kernel
theorem dM_compareRoot_5 : decode cM_compareRoot 5 = .ok (.lload_n 1, 1) := by decide +kernel
theorem dM_compareRoot_6 : decode cM_compareRoot 6 = .ok (.lload_n 3, 1) := by decide +kernel
theorem dM_compareRoot_7 : decode cM_compareRoot 7 = .ok (.lload 5, 2) := by decide +kernel
theorem dM_compareRoot_9 : decode cM_compareRoot 9 = .ok (.lload 8, 2) := by decide +kernel
theorem dM_compareRoot_11 : decode cM_compareRoot 11 = .ok (.lload 10, 2) := by decide +kernel
theorem dM_compareRoot_13 : decode cM_compareRoot 13 = .ok (.invokevirtual 106, 3) := by decide +kernel
theorem dM_compareRoot_16 : decode cM_compareRoot 16 = .ok (.imul, 1) := by decide +kernel
theorem dM_compareRoot_17 : decode cM_compareRoot 17 = .ok (.istore 12, 2) := by decide +kernel
theorem dM_compareRoot_19 : decode cM_compareRoot 19 = .ok (.lload_n 1, 1) := by decide +kernel
theorem dM_compareRoot_20 : decode cM_compareRoot 20 = .ok (.invokestatic 102, 3) := by decide +kernel
theorem dM_compareRoot_23 : decode cM_compareRoot 23 = .ok (.ldc2_w 110, 3) := by decide +kernel
theorem dM_compareRoot_26 : decode cM_compareRoot 26 = .ok (.lload_n 1, 1) := by decide +kernel
theorem dM_compareRoot_27 : decode cM_compareRoot 27 = .ok (.lmul, 1) := by decide +kernel
theorem dM_compareRoot_28 : decode cM_compareRoot 28 = .ok (.lload 8, 2) := by decide +kernel
theorem dM_compareRoot_30 : decode cM_compareRoot 30 = .ok (.lmul, 1) := by decide +kernel
theorem dM_compareRoot_31 : decode cM_compareRoot 31 = .ok (.lload_n 3, 1) := by decide +kernel
theorem dM_compareRoot_32 : decode cM_compareRoot 32 = .ok (.lload 10, 2) := by decide +kernel
theorem dM_compareRoot_34 : decode cM_compareRoot 34 = .ok (.lmul, 1) := by decide +kernel
theorem dM_compareRoot_35 : decode cM_compareRoot 35 = .ok (.ladd, 1) := by decide +kernel
theorem dM_compareRoot_36 : decode cM_compareRoot 36 = .ok (.invokestatic 102, 3) := by decide +kernel
theorem dM_compareRoot_39 : decode cM_compareRoot 39 = .ok (.imul, 1) := by decide +kernel
theorem dM_compareRoot_40 : decode cM_compareRoot 40 = .ok (.istore 13, 2) := by decide +kernel
theorem dM_compareRoot_42 : decode cM_compareRoot 42 = .ok (.iload 12, 2) := by decide +kernel
theorem dM_compareRoot_44 : decode cM_compareRoot 44 = .ok (.ifCond .ge 14, 3) := by decide +kernel
theorem dM_compareRoot_47 : decode cM_compareRoot 47 = .ok (.iload 7, 2) := by decide +kernel
theorem dM_compareRoot_49 : decode cM_compareRoot 49 = .ok (.ifCond .eq 7, 3) := by decide +kernel
theorem dM_compareRoot_52 : decode cM_compareRoot 52 = .ok (.iconst 1, 1) := by decide +kernel
theorem dM_compareRoot_53 : decode cM_compareRoot 53 = .ok (.goto 4, 3) := by decide +kernel
theorem dM_compareRoot_56 : decode cM_compareRoot 56 = .ok (.iconst (-1), 1) := by decide +kernel
theorem dM_compareRoot_57 : decode cM_compareRoot 57 = .ok (.ireturn, 1) := by decide +kernel
theorem dM_compareRoot_58 : decode cM_compareRoot 58 = .ok (.iload 12, 2) := by decide +kernel
theorem dM_compareRoot_60 : decode cM_compareRoot 60 = .ok (.ifCond .le 14, 3) := by decide +kernel
theorem dM_compareRoot_63 : decode cM_compareRoot 63 = .ok (.iload 13, 2) := by decide +kernel
theorem dM_compareRoot_65 : decode cM_compareRoot 65 = .ok (.ifCond .ge 7, 3) := by decide +kernel
theorem dM_compareRoot_68 : decode cM_compareRoot 68 = .ok (.iconst 1, 1) := by decide +kernel
theorem dM_compareRoot_69 : decode cM_compareRoot 69 = .ok (.goto 4, 3) := by decide +kernel
theorem dM_compareRoot_72 : decode cM_compareRoot 72 = .ok (.iconst (-1), 1) := by decide +kernel
theorem dM_compareRoot_73 : decode cM_compareRoot 73 = .ok (.ireturn, 1) := by decide +kernel
theorem dM_compareRoot_74 : decode cM_compareRoot 74 = .ok (.iload 7, 2) := by decide +kernel
theorem dM_compareRoot_76 : decode cM_compareRoot 76 = .ok (.ifCond .eq 16, 3) := by decide +kernel
theorem dM_compareRoot_79 : decode cM_compareRoot 79 = .ok (.iload 13, 2) := by decide +kernel
theorem dM_compareRoot_81 : decode cM_compareRoot 81 = .ok (.ifCond .ge 7, 3) := by decide +kernel
theorem dM_compareRoot_84 : decode cM_compareRoot 84 = .ok (.iconst 1, 1) := by decide +kernel
theorem dM_compareRoot_85 : decode cM_compareRoot 85 = .ok (.goto 17, 3) := by decide +kernel
theorem dM_compareRoot_88 : decode cM_compareRoot 88 = .ok (.iconst 0, 1) := by decide +kernel
theorem dM_compareRoot_89 : decode cM_compareRoot 89 = .ok (.goto 13, 3) := by decide +kernel
theorem dM_compareRoot_92 : decode cM_compareRoot 92 = .ok (.iload 13, 2) := by decide +kernel
theorem dM_compareRoot_94 : decode cM_compareRoot 94 = .ok (.ifCond .le 7, 3) := by decide +kernel
theorem dM_compareRoot_97 : decode cM_compareRoot 97 = .ok (.iconst (-1), 1) := by decide +kernel
theorem dM_compareRoot_98 : decode cM_compareRoot 98 = .ok (.goto 4, 3) := by decide +kernel
theorem dM_compareRoot_101 : decode cM_compareRoot 101 = .ok (.iconst 0, 1) := by decide +kernel
theorem dM_compareRoot_102 : decode cM_compareRoot 102 = .ok (.ireturn, 1) := by decide +kernel
theorem dM_signAt_0 : decode cM_signAt 0 = .ok (.aload_n 0, 1) := by decide +kernel
theorem dM_signAt_1 : decode cM_signAt 1 = .ok (.lconst 0, 1) := by decide +kernel
theorem dM_signAt_2 : decode cM_signAt 2 = .ok (.putfield 91, 3) := by decide +kernel
theorem dM_signAt_5 : decode cM_signAt 5 = .ok (.aload_n 0, 1) := by decide +kernel
theorem dM_signAt_6 : decode cM_signAt 6 = .ok (.lconst 0, 1) := by decide +kernel
theorem dM_signAt_7 : decode cM_signAt 7 = .ok (.putfield 95, 3) := by decide +kernel
theorem dM_signAt_10 : decode cM_signAt 10 = .ok (.aload_n 0, 1) := by decide +kernel
theorem dM_signAt_11 : decode cM_signAt 11 = .ok (.lload_n 1, 1) := by decide +kernel
theorem dM_signAt_12 : decode cM_signAt 12 = .ok (.lload 7, 2) := by decide +kernel
theorem dM_signAt_14 : decode cM_signAt 14 = .ok (.lmul, 1) := by decide +kernel
theorem dM_signAt_15 : decode cM_signAt 15 = .ok (.lload_n 3, 1) := by decide +kernel
theorem dM_signAt_16 : decode cM_signAt 16 = .ok (.lload 9, 2) := by decide +kernel
theorem dM_signAt_18 : decode cM_signAt 18 = .ok (.lmul, 1) := by decide +kernel
theorem dM_signAt_19 : decode cM_signAt 19 = .ok (.ladd, 1) := by decide +kernel
theorem dM_signAt_20 : decode cM_signAt 20 = .ok (.lload 7, 2) := by decide +kernel
theorem dM_signAt_22 : decode cM_signAt 22 = .ok (.invokevirtual 98, 3) := by decide +kernel
theorem dM_signAt_25 : decode cM_signAt 25 = .ok (.aload_n 0, 1) := by decide +kernel
theorem dM_signAt_26 : decode cM_signAt 26 = .ok (.lload 5, 2) := by decide +kernel
theorem dM_signAt_28 : decode cM_signAt 28 = .ok (.lload 9, 2) := by decide +kernel
theorem dM_signAt_30 : decode cM_signAt 30 = .ok (.lmul, 1) := by decide +kernel
theorem dM_signAt_31 : decode cM_signAt 31 = .ok (.lload 9, 2) := by decide +kernel
theorem dM_signAt_33 : decode cM_signAt 33 = .ok (.invokevirtual 98, 3) := by decide +kernel
theorem dM_signAt_36 : decode cM_signAt 36 = .ok (.aload_n 0, 1) := by decide +kernel
theorem dM_signAt_37 : decode cM_signAt 37 = .ok (.getfield 91, 3) := by decide +kernel
theorem dM_signAt_40 : decode cM_signAt 40 = .ok (.lconst 0, 1) := by decide +kernel
theorem dM_signAt_41 : decode cM_signAt 41 = .ok (.lcmp, 1) := by decide +kernel
theorem dM_signAt_42 : decode cM_signAt 42 = .ok (.ifCond .eq 13, 3) := by decide +kernel
theorem dM_signAt_45 : decode cM_signAt 45 = .ok (.aload_n 0, 1) := by decide +kernel
theorem dM_signAt_46 : decode cM_signAt 46 = .ok (.getfield 91, 3) := by decide +kernel
theorem dM_signAt_49 : decode cM_signAt 49 = .ok (.invokestatic 102, 3) := by decide +kernel
theorem dM_signAt_52 : decode cM_signAt 52 = .ok (.goto 10, 3) := by decide +kernel
theorem dM_signAt_55 : decode cM_signAt 55 = .ok (.aload_n 0, 1) := by decide +kernel
theorem dM_signAt_56 : decode cM_signAt 56 = .ok (.getfield 95, 3) := by decide +kernel
theorem dM_signAt_59 : decode cM_signAt 59 = .ok (.invokestatic 102, 3) := by decide +kernel
theorem dM_signAt_62 : decode cM_signAt 62 = .ok (.ireturn, 1) := by decide +kernel
theorem dM_addProduct_0 : decode cM_addProduct 0 = .ok (.lload_n 1, 1) := by decide +kernel
theorem dM_addProduct_1 : decode cM_addProduct 1 = .ok (.bipush 24, 2) := by decide +kernel
theorem dM_addProduct_3 : decode cM_addProduct 3 = .ok (.lshr, 1) := by decide +kernel
theorem dM_addProduct_4 : decode cM_addProduct 4 = .ok (.lstore 5, 2) := by decide +kernel
theorem dM_addProduct_6 : decode cM_addProduct 6 = .ok (.lload_n 1, 1) := by decide +kernel
theorem dM_addProduct_7 : decode cM_addProduct 7 = .ok (.ldc2_w 89, 3) := by decide +kernel
theorem dM_addProduct_10 : decode cM_addProduct 10 = .ok (.land, 1) := by decide +kernel
theorem dM_addProduct_11 : decode cM_addProduct 11 = .ok (.lstore 7, 2) := by decide +kernel
theorem dM_addProduct_13 : decode cM_addProduct 13 = .ok (.aload_n 0, 1) := by decide +kernel
theorem dM_addProduct_14 : decode cM_addProduct 14 = .ok (.aload_n 0, 1) := by decide +kernel
theorem dM_addProduct_15 : decode cM_addProduct 15 = .ok (.getfield 91, 3) := by decide +kernel
theorem dM_addProduct_18 : decode cM_addProduct 18 = .ok (.lload 5, 2) := by decide +kernel
theorem dM_addProduct_20 : decode cM_addProduct 20 = .ok (.lload_n 3, 1) := by decide +kernel
theorem dM_addProduct_21 : decode cM_addProduct 21 = .ok (.lmul, 1) := by decide +kernel
theorem dM_addProduct_22 : decode cM_addProduct 22 = .ok (.ladd, 1) := by decide +kernel
theorem dM_addProduct_23 : decode cM_addProduct 23 = .ok (.putfield 91, 3) := by decide +kernel
theorem dM_addProduct_26 : decode cM_addProduct 26 = .ok (.aload_n 0, 1) := by decide +kernel
theorem dM_addProduct_27 : decode cM_addProduct 27 = .ok (.aload_n 0, 1) := by decide +kernel
theorem dM_addProduct_28 : decode cM_addProduct 28 = .ok (.getfield 95, 3) := by decide +kernel
theorem dM_addProduct_31 : decode cM_addProduct 31 = .ok (.lload 7, 2) := by decide +kernel
theorem dM_addProduct_33 : decode cM_addProduct 33 = .ok (.lload_n 3, 1) := by decide +kernel
theorem dM_addProduct_34 : decode cM_addProduct 34 = .ok (.lmul, 1) := by decide +kernel
theorem dM_addProduct_35 : decode cM_addProduct 35 = .ok (.ladd, 1) := by decide +kernel
theorem dM_addProduct_36 : decode cM_addProduct 36 = .ok (.putfield 95, 3) := by decide +kernel
theorem dM_addProduct_39 : decode cM_addProduct 39 = .ok (.aload_n 0, 1) := by decide +kernel
theorem dM_addProduct_40 : decode cM_addProduct 40 = .ok (.aload_n 0, 1) := by decide +kernel
theorem dM_addProduct_41 : decode cM_addProduct 41 = .ok (.getfield 91, 3) := by decide +kernel
theorem dM_addProduct_44 : decode cM_addProduct 44 = .ok (.aload_n 0, 1) := by decide +kernel
theorem dM_addProduct_45 : decode cM_addProduct 45 = .ok (.getfield 95, 3) := by decide +kernel
theorem dM_addProduct_48 : decode cM_addProduct 48 = .ok (.bipush 24, 2) := by decide +kernel
theorem dM_addProduct_50 : decode cM_addProduct 50 = .ok (.lshr, 1) := by decide +kernel
theorem dM_addProduct_51 : decode cM_addProduct 51 = .ok (.ladd, 1) := by decide +kernel
theorem dM_addProduct_52 : decode cM_addProduct 52 = .ok (.putfield 91, 3) := by decide +kernel
theorem dM_addProduct_55 : decode cM_addProduct 55 = .ok (.aload_n 0, 1) := by decide +kernel
theorem dM_addProduct_56 : decode cM_addProduct 56 = .ok (.aload_n 0, 1) := by decide +kernel
theorem dM_addProduct_57 : decode cM_addProduct 57 = .ok (.getfield 95, 3) := by decide +kernel
theorem dM_addProduct_60 : decode cM_addProduct 60 = .ok (.ldc2_w 89, 3) := by decide +kernel
theorem dM_addProduct_63 : decode cM_addProduct 63 = .ok (.land, 1) := by decide +kernel
theorem dM_addProduct_64 : decode cM_addProduct 64 = .ok (.putfield 95, 3) := by decide +kernel
theorem dM_addProduct_67 : decode cM_addProduct 67 = .ok (.return_, 1) := by decide +kernel
theorem dM_lineCount_0 : decode cM_lineCount 0 = .ok (.aload_n 0, 1) := by decide +kernel
theorem dM_lineCount_1 : decode cM_lineCount 1 = .ok (.getfield 32, 3) := by decide +kernel
theorem dM_lineCount_4 : decode cM_lineCount 4 = .ok (.iload_n 1, 1) := by decide +kernel
theorem dM_lineCount_5 : decode cM_lineCount 5 = .ok (.iaload, 1) := by decide +kernel
theorem dM_lineCount_6 : decode cM_lineCount 6 = .ok (.i2l, 1) := by decide +kernel
theorem dM_lineCount_7 : decode cM_lineCount 7 = .ok (.lstore 4, 2) := by decide +kernel
theorem dM_lineCount_9 : decode cM_lineCount 9 = .ok (.aload_n 0, 1) := by decide +kernel
theorem dM_lineCount_10 : decode cM_lineCount 10 = .ok (.getfield 32, 3) := by decide +kernel
theorem dM_lineCount_13 : decode cM_lineCount 13 = .ok (.iload_n 1, 1) := by decide +kernel
theorem dM_lineCount_14 : decode cM_lineCount 14 = .ok (.iconst 1, 1) := by decide +kernel
theorem dM_lineCount_15 : decode cM_lineCount 15 = .ok (.iadd, 1) := by decide +kernel
theorem dM_lineCount_16 : decode cM_lineCount 16 = .ok (.iaload, 1) := by decide +kernel
theorem dM_lineCount_17 : decode cM_lineCount 17 = .ok (.i2l, 1) := by decide +kernel
theorem dM_lineCount_18 : decode cM_lineCount 18 = .ok (.lstore 6, 2) := by decide +kernel
theorem dM_lineCount_20 : decode cM_lineCount 20 = .ok (.aload_n 0, 1) := by decide +kernel
theorem dM_lineCount_21 : decode cM_lineCount 21 = .ok (.getfield 32, 3) := by decide +kernel
theorem dM_lineCount_24 : decode cM_lineCount 24 = .ok (.iload_n 1, 1) := by decide +kernel
theorem dM_lineCount_25 : decode cM_lineCount 25 = .ok (.iconst 4, 1) := by decide +kernel
theorem dM_lineCount_26 : decode cM_lineCount 26 = .ok (.iadd, 1) := by decide +kernel
theorem dM_lineCount_27 : decode cM_lineCount 27 = .ok (.iaload, 1) := by decide +kernel
theorem dM_lineCount_28 : decode cM_lineCount 28 = .ok (.i2l, 1) := by decide +kernel
theorem dM_lineCount_29 : decode cM_lineCount 29 = .ok (.lstore 8, 2) := by decide +kernel
theorem dM_lineCount_31 : decode cM_lineCount 31 = .ok (.aload_n 0, 1) := by decide +kernel
theorem dM_lineCount_32 : decode cM_lineCount 32 = .ok (.getfield 32, 3) := by decide +kernel
theorem dM_lineCount_35 : decode cM_lineCount 35 = .ok (.iload_n 1, 1) := by decide +kernel
theorem dM_lineCount_36 : decode cM_lineCount 36 = .ok (.iconst 5, 1) := by decide +kernel
theorem dM_lineCount_37 : decode cM_lineCount 37 = .ok (.iadd, 1) := by decide +kernel
theorem dM_lineCount_38 : decode cM_lineCount 38 = .ok (.iaload, 1) := by decide +kernel
theorem dM_lineCount_39 : decode cM_lineCount 39 = .ok (.i2l, 1) := by decide +kernel
theorem dM_lineCount_40 : decode cM_lineCount 40 = .ok (.lstore 10, 2) := by decide +kernel
theorem dM_lineCount_42 : decode cM_lineCount 42 = .ok (.lload 6, 2) := by decide +kernel
theorem dM_lineCount_44 : decode cM_lineCount 44 = .ok (.iload_n 3, 1) := by decide +kernel
theorem dM_lineCount_45 : decode cM_lineCount 45 = .ok (.i2l, 1) := by decide +kernel
theorem dM_lineCount_46 : decode cM_lineCount 46 = .ok (.lcmp, 1) := by decide +kernel
theorem dM_lineCount_47 : decode cM_lineCount 47 = .ok (.ifCond .le 7, 3) := by decide +kernel
theorem dM_lineCount_50 : decode cM_lineCount 50 = .ok (.iconst 1, 1) := by decide +kernel
theorem dM_lineCount_51 : decode cM_lineCount 51 = .ok (.goto 4, 3) := by decide +kernel
theorem dM_lineCount_54 : decode cM_lineCount 54 = .ok (.iconst 0, 1) := by decide +kernel
theorem dM_lineCount_55 : decode cM_lineCount 55 = .ok (.istore 12, 2) := by decide +kernel
theorem dM_lineCount_57 : decode cM_lineCount 57 = .ok (.lload 10, 2) := by decide +kernel
theorem dM_lineCount_59 : decode cM_lineCount 59 = .ok (.iload_n 3, 1) := by decide +kernel
theorem dM_lineCount_60 : decode cM_lineCount 60 = .ok (.i2l, 1) := by decide +kernel
theorem dM_lineCount_61 : decode cM_lineCount 61 = .ok (.lcmp, 1) := by decide +kernel
theorem dM_lineCount_62 : decode cM_lineCount 62 = .ok (.ifCond .le 7, 3) := by decide +kernel
theorem dM_lineCount_65 : decode cM_lineCount 65 = .ok (.iconst 1, 1) := by decide +kernel
theorem dM_lineCount_66 : decode cM_lineCount 66 = .ok (.goto 4, 3) := by decide +kernel
theorem dM_lineCount_69 : decode cM_lineCount 69 = .ok (.iconst 0, 1) := by decide +kernel
theorem dM_lineCount_70 : decode cM_lineCount 70 = .ok (.istore 13, 2) := by decide +kernel
theorem dM_lineCount_72 : decode cM_lineCount 72 = .ok (.iload 12, 2) := by decide +kernel
theorem dM_lineCount_74 : decode cM_lineCount 74 = .ok (.iload 13, 2) := by decide +kernel
theorem dM_lineCount_76 : decode cM_lineCount 76 = .ok (.if_icmp .ne 5, 3) := by decide +kernel
theorem dM_lineCount_79 : decode cM_lineCount 79 = .ok (.iconst 0, 1) := by decide +kernel
theorem dM_lineCount_80 : decode cM_lineCount 80 = .ok (.ireturn, 1) := by decide +kernel
theorem dM_lineCount_81 : decode cM_lineCount 81 = .ok (.lload 8, 2) := by decide +kernel
theorem dM_lineCount_83 : decode cM_lineCount 83 = .ok (.lload 4, 2) := by decide +kernel
theorem dM_lineCount_85 : decode cM_lineCount 85 = .ok (.lsub, 1) := by decide +kernel
theorem dM_lineCount_86 : decode cM_lineCount 86 = .ok (.iload_n 3, 1) := by decide +kernel
theorem dM_lineCount_87 : decode cM_lineCount 87 = .ok (.i2l, 1) := by decide +kernel
theorem dM_lineCount_88 : decode cM_lineCount 88 = .ok (.lload 6, 2) := by decide +kernel
theorem dM_lineCount_90 : decode cM_lineCount 90 = .ok (.lsub, 1) := by decide +kernel
theorem dM_lineCount_91 : decode cM_lineCount 91 = .ok (.lmul, 1) := by decide +kernel
theorem dM_lineCount_92 : decode cM_lineCount 92 = .ok (.iload_n 2, 1) := by decide +kernel
theorem dM_lineCount_93 : decode cM_lineCount 93 = .ok (.i2l, 1) := by decide +kernel
theorem dM_lineCount_94 : decode cM_lineCount 94 = .ok (.lload 4, 2) := by decide +kernel
theorem dM_lineCount_96 : decode cM_lineCount 96 = .ok (.lsub, 1) := by decide +kernel
theorem dM_lineCount_97 : decode cM_lineCount 97 = .ok (.lload 10, 2) := by decide +kernel
theorem dM_lineCount_99 : decode cM_lineCount 99 = .ok (.lload 6, 2) := by decide +kernel
theorem dM_lineCount_101 : decode cM_lineCount 101 = .ok (.lsub, 1) := by decide +kernel
theorem dM_lineCount_102 : decode cM_lineCount 102 = .ok (.lmul, 1) := by decide +kernel
theorem dM_lineCount_103 : decode cM_lineCount 103 = .ok (.lsub, 1) := by decide +kernel
theorem dM_lineCount_104 : decode cM_lineCount 104 = .ok (.invokestatic 102, 3) := by decide +kernel
theorem dM_lineCount_107 : decode cM_lineCount 107 = .ok (.lload 10, 2) := by decide +kernel
theorem dM_lineCount_109 : decode cM_lineCount 109 = .ok (.lload 6, 2) := by decide +kernel
theorem dM_lineCount_111 : decode cM_lineCount 111 = .ok (.lsub, 1) := by decide +kernel
theorem dM_lineCount_112 : decode cM_lineCount 112 = .ok (.invokestatic 102, 3) := by decide +kernel
theorem dM_lineCount_115 : decode cM_lineCount 115 = .ok (.imul, 1) := by decide +kernel
theorem dM_lineCount_116 : decode cM_lineCount 116 = .ok (.istore 14, 2) := by decide +kernel
theorem dM_lineCount_118 : decode cM_lineCount 118 = .ok (.iload 14, 2) := by decide +kernel
theorem dM_lineCount_120 : decode cM_lineCount 120 = .ok (.ifCond .le 7, 3) := by decide +kernel
theorem dM_lineCount_123 : decode cM_lineCount 123 = .ok (.iconst 0, 1) := by decide +kernel
theorem dM_lineCount_124 : decode cM_lineCount 124 = .ok (.goto 13, 3) := by decide +kernel
theorem dM_lineCount_127 : decode cM_lineCount 127 = .ok (.iload 13, 2) := by decide +kernel
theorem dM_lineCount_129 : decode cM_lineCount 129 = .ok (.ifCond .eq 7, 3) := by decide +kernel
theorem dM_lineCount_132 : decode cM_lineCount 132 = .ok (.iconst 1, 1) := by decide +kernel
theorem dM_lineCount_133 : decode cM_lineCount 133 = .ok (.goto 4, 3) := by decide +kernel
theorem dM_lineCount_136 : decode cM_lineCount 136 = .ok (.iconst (-1), 1) := by decide +kernel
theorem dM_lineCount_137 : decode cM_lineCount 137 = .ok (.ireturn, 1) := by decide +kernel
theorem dM_winding_0 : decode cM_winding 0 = .ok (.aload_n 0, 1) := by decide +kernel
theorem dM_winding_1 : decode cM_winding 1 = .ok (.iload_n 1, 1) := by decide +kernel
theorem dM_winding_2 : decode cM_winding 2 = .ok (.invokestatic 152, 3) := by decide +kernel
theorem dM_winding_5 : decode cM_winding 5 = .ok (.ifCond .ne 10, 3) := by decide +kernel
theorem dM_winding_8 : decode cM_winding 8 = .ok (.iload_n 2, 1) := by decide +kernel
theorem dM_winding_9 : decode cM_winding 9 = .ok (.invokestatic 152, 3) := by decide +kernel
theorem dM_winding_12 : decode cM_winding 12 = .ok (.ifCond .eq 7, 3) := by decide +kernel
theorem dM_winding_15 : decode cM_winding 15 = .ok (.iconst 1, 1) := by decide +kernel
theorem dM_winding_16 : decode cM_winding 16 = .ok (.goto 4, 3) := by decide +kernel
theorem dM_winding_19 : decode cM_winding 19 = .ok (.iconst 0, 1) := by decide +kernel
theorem dM_winding_20 : decode cM_winding 20 = .ok (.invokevirtual 60, 3) := by decide +kernel
theorem dM_winding_23 : decode cM_winding 23 = .ok (.ifCond .eq 5, 3) := by decide +kernel
theorem dM_winding_26 : decode cM_winding 26 = .ok (.iconst 0, 1) := by decide +kernel
theorem dM_winding_27 : decode cM_winding 27 = .ok (.ireturn, 1) := by decide +kernel
theorem dM_winding_28 : decode cM_winding 28 = .ok (.aload_n 0, 1) := by decide +kernel
theorem dM_winding_29 : decode cM_winding 29 = .ok (.invokevirtual 139, 3) := by decide +kernel
theorem dM_winding_32 : decode cM_winding 32 = .ok (.aload_n 0, 1) := by decide +kernel
theorem dM_winding_33 : decode cM_winding 33 = .ok (.iload_n 1, 1) := by decide +kernel
theorem dM_winding_34 : decode cM_winding 34 = .ok (.iload_n 2, 1) := by decide +kernel
theorem dM_winding_35 : decode cM_winding 35 = .ok (.invokevirtual 131, 3) := by decide +kernel
theorem dM_winding_38 : decode cM_winding 38 = .ok (.ireturn, 1) := by decide +kernel
theorem dM_isFar_0 : decode cM_isFar 0 = .ok (.iload_n 0, 1) := by decide +kernel
theorem dM_isFar_1 : decode cM_isFar 1 = .ok (.sipush (-16384), 3) := by decide +kernel
theorem dM_isFar_4 : decode cM_isFar 4 = .ok (.if_icmp .lt 10, 3) := by decide +kernel
theorem dM_isFar_7 : decode cM_isFar 7 = .ok (.iload_n 0, 1) := by decide +kernel
theorem dM_isFar_8 : decode cM_isFar 8 = .ok (.sipush 16383, 3) := by decide +kernel
theorem dM_isFar_11 : decode cM_isFar 11 = .ok (.if_icmp .le 7, 3) := by decide +kernel
theorem dM_isFar_14 : decode cM_isFar 14 = .ok (.iconst 1, 1) := by decide +kernel
theorem dM_isFar_15 : decode cM_isFar 15 = .ok (.goto 4, 3) := by decide +kernel
theorem dM_isFar_18 : decode cM_isFar 18 = .ok (.iconst 0, 1) := by decide +kernel
theorem dM_isFar_19 : decode cM_isFar 19 = .ok (.ireturn, 1) := by decide +kernel
theorem dM_row_0 : decode cM_row 0 = .ok (.aload_n 0, 1) := by decide +kernel
theorem dM_row_1 : decode cM_row 1 = .ok (.iload_n 1, 1) := by decide +kernel
theorem dM_row_2 : decode cM_row 2 = .ok (.invokestatic 155, 3) := by decide +kernel
theorem dM_row_5 : decode cM_row 5 = .ok (.ifCond .eq 7, 3) := by decide +kernel
theorem dM_row_8 : decode cM_row 8 = .ok (.iconst 0, 1) := by decide +kernel
theorem dM_row_9 : decode cM_row 9 = .ok (.goto 4, 3) := by decide +kernel
theorem dM_row_12 : decode cM_row 12 = .ok (.iconst 1, 1) := by decide +kernel
theorem dM_row_13 : decode cM_row 13 = .ok (.invokevirtual 60, 3) := by decide +kernel
theorem dM_row_16 : decode cM_row 16 = .ok (.ifCond .eq 5, 3) := by decide +kernel
theorem dM_row_19 : decode cM_row 19 = .ok (.lconst 0, 1) := by decide +kernel
theorem dM_row_20 : decode cM_row 20 = .ok (.lreturn, 1) := by decide +kernel
theorem dM_row_21 : decode cM_row 21 = .ok (.aload_n 0, 1) := by decide +kernel
theorem dM_row_22 : decode cM_row 22 = .ok (.invokevirtual 139, 3) := by decide +kernel
theorem dM_row_25 : decode cM_row 25 = .ok (.lconst 0, 1) := by decide +kernel
theorem dM_row_26 : decode cM_row 26 = .ok (.lstore_n 2, 1) := by decide +kernel
theorem dM_row_27 : decode cM_row 27 = .ok (.iconst 0, 1) := by decide +kernel
theorem dM_row_28 : decode cM_row 28 = .ok (.istore 4, 2) := by decide +kernel
theorem dM_row_30 : decode cM_row 30 = .ok (.iload 4, 2) := by decide +kernel
theorem dM_row_32 : decode cM_row 32 = .ok (.bipush 64, 2) := by decide +kernel
theorem dM_row_34 : decode cM_row 34 = .ok (.if_icmp .ge 30, 3) := by decide +kernel
theorem dM_row_37 : decode cM_row 37 = .ok (.aload_n 0, 1) := by decide +kernel
theorem dM_row_38 : decode cM_row 38 = .ok (.iload 4, 2) := by decide +kernel
theorem dM_row_40 : decode cM_row 40 = .ok (.iload_n 1, 1) := by decide +kernel
theorem dM_row_41 : decode cM_row 41 = .ok (.invokevirtual 142, 3) := by decide +kernel
theorem dM_row_44 : decode cM_row 44 = .ok (.ifCond .eq 12, 3) := by decide +kernel
theorem dM_row_47 : decode cM_row 47 = .ok (.lload_n 2, 1) := by decide +kernel
theorem dM_row_48 : decode cM_row 48 = .ok (.lconst 1, 1) := by decide +kernel
theorem dM_row_49 : decode cM_row 49 = .ok (.iload 4, 2) := by decide +kernel
theorem dM_row_51 : decode cM_row 51 = .ok (.lshl, 1) := by decide +kernel
theorem dM_row_52 : decode cM_row 52 = .ok (.lor, 1) := by decide +kernel
theorem dM_row_53 : decode cM_row 53 = .ok (.goto 4, 3) := by decide +kernel
theorem dM_row_56 : decode cM_row 56 = .ok (.lload_n 2, 1) := by decide +kernel
theorem dM_row_57 : decode cM_row 57 = .ok (.lstore_n 2, 1) := by decide +kernel
theorem dM_row_58 : decode cM_row 58 = .ok (.iinc 4 1, 3) := by decide +kernel
theorem dM_row_61 : decode cM_row 61 = .ok (.goto (-31), 3) := by decide +kernel
theorem dM_row_64 : decode cM_row 64 = .ok (.lload_n 2, 1) := by decide +kernel
theorem dM_row_65 : decode cM_row 65 = .ok (.lreturn, 1) := by decide +kernel
theorem dM_isPlace_0 : decode cM_isPlace 0 = .ok (.iload_n 0, 1) := by decide +kernel
theorem dM_isPlace_1 : decode cM_isPlace 1 = .ok (.ifCond .lt 13, 3) := by decide +kernel
theorem dM_isPlace_4 : decode cM_isPlace 4 = .ok (.iload_n 0, 1) := by decide +kernel
theorem dM_isPlace_5 : decode cM_isPlace 5 = .ok (.bipush 64, 2) := by decide +kernel
theorem dM_isPlace_7 : decode cM_isPlace 7 = .ok (.if_icmp .ge 7, 3) := by decide +kernel
theorem dM_isPlace_10 : decode cM_isPlace 10 = .ok (.iconst 1, 1) := by decide +kernel
theorem dM_isPlace_11 : decode cM_isPlace 11 = .ok (.goto 4, 3) := by decide +kernel
theorem dM_isPlace_14 : decode cM_isPlace 14 = .ok (.iconst 0, 1) := by decide +kernel
theorem dM_isPlace_15 : decode cM_isPlace 15 = .ok (.ireturn, 1) := by decide +kernel
theorem dM_share_0 : decode cM_share 0 = .ok (.aload_n 0, 1) := by decide +kernel
theorem dM_share_1 : decode cM_share 1 = .ok (.iload_n 1, 1) := by decide +kernel
theorem dM_share_2 : decode cM_share 2 = .ok (.invokestatic 155, 3) := by decide +kernel
theorem dM_share_5 : decode cM_share 5 = .ok (.ifCond .eq 14, 3) := by decide +kernel
theorem dM_share_8 : decode cM_share 8 = .ok (.iload_n 2, 1) := by decide +kernel
theorem dM_share_9 : decode cM_share 9 = .ok (.invokestatic 155, 3) := by decide +kernel
theorem dM_share_12 : decode cM_share 12 = .ok (.ifCond .eq 7, 3) := by decide +kernel
theorem dM_share_15 : decode cM_share 15 = .ok (.iconst 0, 1) := by decide +kernel
theorem dM_share_16 : decode cM_share 16 = .ok (.goto 4, 3) := by decide +kernel
theorem dM_share_19 : decode cM_share 19 = .ok (.iconst 1, 1) := by decide +kernel
theorem dM_share_20 : decode cM_share 20 = .ok (.invokevirtual 60, 3) := by decide +kernel
theorem dM_share_23 : decode cM_share 23 = .ok (.ifCond .eq 5, 3) := by decide +kernel
theorem dM_share_26 : decode cM_share 26 = .ok (.iconst 0, 1) := by decide +kernel
theorem dM_share_27 : decode cM_share 27 = .ok (.ireturn, 1) := by decide +kernel
theorem dM_share_28 : decode cM_share 28 = .ok (.aload_n 0, 1) := by decide +kernel
end
section
/-! decode rows -/
theorem dM_share_29 : decode cM_share 29 = .ok (.invokevirtual 139, 3) := by decide +kernel
theorem dM_share_32 : decode cM_share 32 = .ok (.iconst 0, 1) := by decide +kernel
theorem dM_share_33 : decode cM_share 33 = .ok (.istore_n 3, 1) := by decide +kernel
theorem dM_share_34 : decode cM_share 34 = .ok (.iconst 0, 1) := by decide +kernel
theorem dM_share_35 : decode cM_share 35 = .ok (.istore 4, 2) := by decide +kernel
theorem dM_share_37 : decode cM_share 37 = .ok (.iload 4, 2) := by decide +kernel
theorem dM_share_39 : decode cM_share 39 = .ok (.bipush 16, 2) := by decide +kernel
theorem dM_share_41 : decode cM_share 41 = .ok (.if_icmp .ge 57, 3) := by decide +kernel
theorem dM_share_44 : decode cM_share 44 = .ok (.aload_n 0, 1) := by decide +kernel
theorem dM_share_45 : decode cM_share 45 = .ok (.bipush 64, 2) := by decide +kernel
theorem dM_share_47 : decode cM_share 47 = .ok (.iload_n 1, 1) := by decide +kernel
theorem dM_share_48 : decode cM_share 48 = .ok (.imul, 1) := by decide +kernel
theorem dM_share_49 : decode cM_share 49 = .ok (.bipush 8, 2) := by decide +kernel
theorem dM_share_51 : decode cM_share 51 = .ok (.iadd, 1) := by decide +kernel
theorem dM_share_52 : decode cM_share 52 = .ok (.bipush 16, 2) := by decide +kernel
theorem dM_share_54 : decode cM_share 54 = .ok (.iload 4, 2) := by decide +kernel
theorem dM_share_56 : decode cM_share 56 = .ok (.iconst 4, 1) := by decide +kernel
theorem dM_share_57 : decode cM_share 57 = .ok (.irem, 1) := by decide +kernel
theorem dM_share_58 : decode cM_share 58 = .ok (.imul, 1) := by decide +kernel
theorem dM_share_59 : decode cM_share 59 = .ok (.iadd, 1) := by decide +kernel
theorem dM_share_60 : decode cM_share 60 = .ok (.bipush 64, 2) := by decide +kernel
theorem dM_share_62 : decode cM_share 62 = .ok (.bipush 63, 2) := by decide +kernel
theorem dM_share_64 : decode cM_share 64 = .ok (.iload_n 2, 1) := by decide +kernel
theorem dM_share_65 : decode cM_share 65 = .ok (.isub, 1) := by decide +kernel
theorem dM_share_66 : decode cM_share 66 = .ok (.imul, 1) := by decide +kernel
theorem dM_share_67 : decode cM_share 67 = .ok (.bipush 8, 2) := by decide +kernel
theorem dM_share_69 : decode cM_share 69 = .ok (.iadd, 1) := by decide +kernel
theorem dM_share_70 : decode cM_share 70 = .ok (.bipush 16, 2) := by decide +kernel
theorem dM_share_72 : decode cM_share 72 = .ok (.iload 4, 2) := by decide +kernel
theorem dM_share_74 : decode cM_share 74 = .ok (.iconst 4, 1) := by decide +kernel
theorem dM_share_75 : decode cM_share 75 = .ok (.idiv, 1) := by decide +kernel
theorem dM_share_76 : decode cM_share 76 = .ok (.imul, 1) := by decide +kernel
theorem dM_share_77 : decode cM_share 77 = .ok (.iadd, 1) := by decide +kernel
theorem dM_share_78 : decode cM_share 78 = .ok (.invokevirtual 135, 3) := by decide +kernel
theorem dM_share_81 : decode cM_share 81 = .ok (.ifCond .eq 9, 3) := by decide +kernel
theorem dM_share_84 : decode cM_share 84 = .ok (.iload_n 3, 1) := by decide +kernel
theorem dM_share_85 : decode cM_share 85 = .ok (.iconst 1, 1) := by decide +kernel
theorem dM_share_86 : decode cM_share 86 = .ok (.iadd, 1) := by decide +kernel
theorem dM_share_87 : decode cM_share 87 = .ok (.goto 4, 3) := by decide +kernel
theorem dM_share_90 : decode cM_share 90 = .ok (.iload_n 3, 1) := by decide +kernel
theorem dM_share_91 : decode cM_share 91 = .ok (.istore_n 3, 1) := by decide +kernel
theorem dM_share_92 : decode cM_share 92 = .ok (.iinc 4 1, 3) := by decide +kernel
theorem dM_share_95 : decode cM_share 95 = .ok (.goto (-58), 3) := by decide +kernel
theorem dM_share_98 : decode cM_share 98 = .ok (.iload_n 3, 1) := by decide +kernel
theorem dM_share_99 : decode cM_share 99 = .ok (.ireturn, 1) := by decide +kernel
theorem dM_spans_0 : decode cM_spans 0 = .ok (.aload_n 0, 1) := by decide +kernel
theorem dM_spans_1 : decode cM_spans 1 = .ok (.iload_n 1, 1) := by decide +kernel
theorem dM_spans_2 : decode cM_spans 2 = .ok (.invokestatic 155, 3) := by decide +kernel
theorem dM_spans_5 : decode cM_spans 5 = .ok (.ifCond .eq 7, 3) := by decide +kernel
theorem dM_spans_8 : decode cM_spans 8 = .ok (.iconst 0, 1) := by decide +kernel
theorem dM_spans_9 : decode cM_spans 9 = .ok (.goto 4, 3) := by decide +kernel
theorem dM_spans_12 : decode cM_spans 12 = .ok (.iconst 1, 1) := by decide +kernel
theorem dM_spans_13 : decode cM_spans 13 = .ok (.invokevirtual 60, 3) := by decide +kernel
theorem dM_spans_16 : decode cM_spans 16 = .ok (.ifCond .eq 5, 3) := by decide +kernel
theorem dM_spans_19 : decode cM_spans 19 = .ok (.iconst 0, 1) := by decide +kernel
theorem dM_spans_20 : decode cM_spans 20 = .ok (.ireturn, 1) := by decide +kernel
theorem dM_spans_21 : decode cM_spans 21 = .ok (.aload_n 0, 1) := by decide +kernel
theorem dM_spans_22 : decode cM_spans 22 = .ok (.invokevirtual 139, 3) := by decide +kernel
theorem dM_spans_25 : decode cM_spans 25 = .ok (.iconst 0, 1) := by decide +kernel
theorem dM_spans_26 : decode cM_spans 26 = .ok (.istore_n 2, 1) := by decide +kernel
theorem dM_spans_27 : decode cM_spans 27 = .ok (.iconst 0, 1) := by decide +kernel
theorem dM_spans_28 : decode cM_spans 28 = .ok (.istore_n 3, 1) := by decide +kernel
theorem dM_spans_29 : decode cM_spans 29 = .ok (.iconst 0, 1) := by decide +kernel
theorem dM_spans_30 : decode cM_spans 30 = .ok (.istore 4, 2) := by decide +kernel
theorem dM_spans_32 : decode cM_spans 32 = .ok (.iload 4, 2) := by decide +kernel
theorem dM_spans_34 : decode cM_spans 34 = .ok (.bipush 64, 2) := by decide +kernel
theorem dM_spans_36 : decode cM_spans 36 = .ok (.if_icmp .ge 38, 3) := by decide +kernel
theorem dM_spans_39 : decode cM_spans 39 = .ok (.aload_n 0, 1) := by decide +kernel
theorem dM_spans_40 : decode cM_spans 40 = .ok (.iload 4, 2) := by decide +kernel
theorem dM_spans_42 : decode cM_spans 42 = .ok (.iload_n 1, 1) := by decide +kernel
theorem dM_spans_43 : decode cM_spans 43 = .ok (.invokevirtual 142, 3) := by decide +kernel
theorem dM_spans_46 : decode cM_spans 46 = .ok (.istore 5, 2) := by decide +kernel
theorem dM_spans_48 : decode cM_spans 48 = .ok (.iload 5, 2) := by decide +kernel
theorem dM_spans_50 : decode cM_spans 50 = .ok (.ifCond .eq 13, 3) := by decide +kernel
theorem dM_spans_53 : decode cM_spans 53 = .ok (.iload_n 3, 1) := by decide +kernel
theorem dM_spans_54 : decode cM_spans 54 = .ok (.ifCond .ne 9, 3) := by decide +kernel
theorem dM_spans_57 : decode cM_spans 57 = .ok (.iload_n 2, 1) := by decide +kernel
theorem dM_spans_58 : decode cM_spans 58 = .ok (.iconst 1, 1) := by decide +kernel
theorem dM_spans_59 : decode cM_spans 59 = .ok (.iadd, 1) := by decide +kernel
theorem dM_spans_60 : decode cM_spans 60 = .ok (.goto 4, 3) := by decide +kernel
theorem dM_spans_63 : decode cM_spans 63 = .ok (.iload_n 2, 1) := by decide +kernel
theorem dM_spans_64 : decode cM_spans 64 = .ok (.istore_n 2, 1) := by decide +kernel
theorem dM_spans_65 : decode cM_spans 65 = .ok (.iload 5, 2) := by decide +kernel
theorem dM_spans_67 : decode cM_spans 67 = .ok (.istore_n 3, 1) := by decide +kernel
theorem dM_spans_68 : decode cM_spans 68 = .ok (.iinc 4 1, 3) := by decide +kernel
theorem dM_spans_71 : decode cM_spans 71 = .ok (.goto (-39), 3) := by decide +kernel
theorem dM_spans_74 : decode cM_spans 74 = .ok (.iload_n 2, 1) := by decide +kernel
theorem dM_spans_75 : decode cM_spans 75 = .ok (.ireturn, 1) := by decide +kernel
theorem dM_span_0 : decode cM_span 0 = .ok (.aload_n 0, 1) := by decide +kernel
theorem dM_span_1 : decode cM_span 1 = .ok (.iload_n 1, 1) := by decide +kernel
theorem dM_span_2 : decode cM_span 2 = .ok (.invokestatic 155, 3) := by decide +kernel
theorem dM_span_5 : decode cM_span 5 = .ok (.ifCond .eq 7, 3) := by decide +kernel
theorem dM_span_8 : decode cM_span 8 = .ok (.iconst 0, 1) := by decide +kernel
theorem dM_span_9 : decode cM_span 9 = .ok (.goto 4, 3) := by decide +kernel
theorem dM_span_12 : decode cM_span 12 = .ok (.iconst 1, 1) := by decide +kernel
theorem dM_span_13 : decode cM_span 13 = .ok (.invokevirtual 60, 3) := by decide +kernel
theorem dM_span_16 : decode cM_span 16 = .ok (.ifCond .eq 5, 3) := by decide +kernel
theorem dM_span_19 : decode cM_span 19 = .ok (.iconst 0, 1) := by decide +kernel
theorem dM_span_20 : decode cM_span 20 = .ok (.ireturn, 1) := by decide +kernel
theorem dM_span_21 : decode cM_span 21 = .ok (.aload_n 0, 1) := by decide +kernel
theorem dM_span_22 : decode cM_span 22 = .ok (.invokevirtual 139, 3) := by decide +kernel
theorem dM_span_25 : decode cM_span 25 = .ok (.iconst (-1), 1) := by decide +kernel
theorem dM_span_26 : decode cM_span 26 = .ok (.istore 4, 2) := by decide +kernel
theorem dM_span_28 : decode cM_span 28 = .ok (.iconst (-1), 1) := by decide +kernel
theorem dM_span_29 : decode cM_span 29 = .ok (.istore 5, 2) := by decide +kernel
theorem dM_span_31 : decode cM_span 31 = .ok (.iconst 0, 1) := by decide +kernel
theorem dM_span_32 : decode cM_span 32 = .ok (.istore 6, 2) := by decide +kernel
theorem dM_span_34 : decode cM_span 34 = .ok (.iconst 0, 1) := by decide +kernel
theorem dM_span_35 : decode cM_span 35 = .ok (.istore 7, 2) := by decide +kernel
theorem dM_span_37 : decode cM_span 37 = .ok (.iload 7, 2) := by decide +kernel
theorem dM_span_39 : decode cM_span 39 = .ok (.bipush 64, 2) := by decide +kernel
theorem dM_span_41 : decode cM_span 41 = .ok (.if_icmp .gt 117, 3) := by decide +kernel
theorem dM_span_44 : decode cM_span 44 = .ok (.iload 7, 2) := by decide +kernel
theorem dM_span_46 : decode cM_span 46 = .ok (.bipush 64, 2) := by decide +kernel
theorem dM_span_48 : decode cM_span 48 = .ok (.if_icmp .ge 17, 3) := by decide +kernel
theorem dM_span_51 : decode cM_span 51 = .ok (.aload_n 0, 1) := by decide +kernel
theorem dM_span_52 : decode cM_span 52 = .ok (.iload 7, 2) := by decide +kernel
theorem dM_span_54 : decode cM_span 54 = .ok (.iload_n 1, 1) := by decide +kernel
theorem dM_span_55 : decode cM_span 55 = .ok (.invokevirtual 142, 3) := by decide +kernel
theorem dM_span_58 : decode cM_span 58 = .ok (.ifCond .eq 7, 3) := by decide +kernel
theorem dM_span_61 : decode cM_span 61 = .ok (.iconst 1, 1) := by decide +kernel
theorem dM_span_62 : decode cM_span 62 = .ok (.goto 4, 3) := by decide +kernel
theorem dM_span_65 : decode cM_span 65 = .ok (.iconst 0, 1) := by decide +kernel
theorem dM_span_66 : decode cM_span 66 = .ok (.istore 8, 2) := by decide +kernel
theorem dM_span_68 : decode cM_span 68 = .ok (.iload 8, 2) := by decide +kernel
theorem dM_span_70 : decode cM_span 70 = .ok (.ifCond .eq 15, 3) := by decide +kernel
theorem dM_span_73 : decode cM_span 73 = .ok (.iload 6, 2) := by decide +kernel
theorem dM_span_75 : decode cM_span 75 = .ok (.ifCond .ne 10, 3) := by decide +kernel
theorem dM_span_78 : decode cM_span 78 = .ok (.iload 4, 2) := by decide +kernel
theorem dM_span_80 : decode cM_span 80 = .ok (.iconst 1, 1) := by decide +kernel
theorem dM_span_81 : decode cM_span 81 = .ok (.iadd, 1) := by decide +kernel
theorem dM_span_82 : decode cM_span 82 = .ok (.goto 5, 3) := by decide +kernel
theorem dM_span_85 : decode cM_span 85 = .ok (.iload 4, 2) := by decide +kernel
theorem dM_span_87 : decode cM_span 87 = .ok (.istore 4, 2) := by decide +kernel
theorem dM_span_89 : decode cM_span 89 = .ok (.iload_n 3, 1) := by decide +kernel
theorem dM_span_90 : decode cM_span 90 = .ok (.ifCond .eq 21, 3) := by decide +kernel
theorem dM_span_93 : decode cM_span 93 = .ok (.iload 6, 2) := by decide +kernel
theorem dM_span_95 : decode cM_span 95 = .ok (.ifCond .eq 12, 3) := by decide +kernel
theorem dM_span_98 : decode cM_span 98 = .ok (.iload 8, 2) := by decide +kernel
theorem dM_span_100 : decode cM_span 100 = .ok (.ifCond .ne 7, 3) := by decide +kernel
theorem dM_span_103 : decode cM_span 103 = .ok (.iconst 1, 1) := by decide +kernel
theorem dM_span_104 : decode cM_span 104 = .ok (.goto 22, 3) := by decide +kernel
theorem dM_span_107 : decode cM_span 107 = .ok (.iconst 0, 1) := by decide +kernel
theorem dM_span_108 : decode cM_span 108 = .ok (.goto 18, 3) := by decide +kernel
theorem dM_span_111 : decode cM_span 111 = .ok (.iload 8, 2) := by decide +kernel
theorem dM_span_113 : decode cM_span 113 = .ok (.ifCond .eq 12, 3) := by decide +kernel
theorem dM_span_116 : decode cM_span 116 = .ok (.iload 6, 2) := by decide +kernel
theorem dM_span_118 : decode cM_span 118 = .ok (.ifCond .ne 7, 3) := by decide +kernel
theorem dM_span_121 : decode cM_span 121 = .ok (.iconst 1, 1) := by decide +kernel
theorem dM_span_122 : decode cM_span 122 = .ok (.goto 4, 3) := by decide +kernel
theorem dM_span_125 : decode cM_span 125 = .ok (.iconst 0, 1) := by decide +kernel
theorem dM_span_126 : decode cM_span 126 = .ok (.istore 9, 2) := by decide +kernel
theorem dM_span_128 : decode cM_span 128 = .ok (.iload 9, 2) := by decide +kernel
theorem dM_span_130 : decode cM_span 130 = .ok (.ifCond .eq 14, 3) := by decide +kernel
theorem dM_span_133 : decode cM_span 133 = .ok (.iload 4, 2) := by decide +kernel
theorem dM_span_135 : decode cM_span 135 = .ok (.iload_n 2, 1) := by decide +kernel
theorem dM_span_136 : decode cM_span 136 = .ok (.if_icmp .ne 8, 3) := by decide +kernel
theorem dM_span_139 : decode cM_span 139 = .ok (.iload 7, 2) := by decide +kernel
theorem dM_span_141 : decode cM_span 141 = .ok (.goto 5, 3) := by decide +kernel
theorem dM_span_144 : decode cM_span 144 = .ok (.iload 5, 2) := by decide +kernel
theorem dM_span_146 : decode cM_span 146 = .ok (.istore 5, 2) := by decide +kernel
theorem dM_span_148 : decode cM_span 148 = .ok (.iload 8, 2) := by decide +kernel
theorem dM_span_150 : decode cM_span 150 = .ok (.istore 6, 2) := by decide +kernel
theorem dM_span_152 : decode cM_span 152 = .ok (.iinc 7 1, 3) := by decide +kernel
theorem dM_span_155 : decode cM_span 155 = .ok (.goto (-118), 3) := by decide +kernel
theorem dM_span_158 : decode cM_span 158 = .ok (.iload 5, 2) := by decide +kernel
theorem dM_span_160 : decode cM_span 160 = .ok (.ireturn, 1) := by decide +kernel
theorem dM_extent_0 : decode cM_extent 0 = .ok (.aload_n 0, 1) := by decide +kernel
theorem dM_extent_1 : decode cM_extent 1 = .ok (.iload_n 1, 1) := by decide +kernel
theorem dM_extent_2 : decode cM_extent 2 = .ok (.ifCond .lt 8, 3) := by decide +kernel
theorem dM_extent_5 : decode cM_extent 5 = .ok (.iload_n 1, 1) := by decide +kernel
theorem dM_extent_6 : decode cM_extent 6 = .ok (.iconst 3, 1) := by decide +kernel
theorem dM_extent_7 : decode cM_extent 7 = .ok (.if_icmp .le 7, 3) := by decide +kernel
theorem dM_extent_10 : decode cM_extent 10 = .ok (.iconst 1, 1) := by decide +kernel
theorem dM_extent_11 : decode cM_extent 11 = .ok (.goto 15, 3) := by decide +kernel
theorem dM_extent_14 : decode cM_extent 14 = .ok (.aload_n 0, 1) := by decide +kernel
theorem dM_extent_15 : decode cM_extent 15 = .ok (.getfield 53, 3) := by decide +kernel
theorem dM_extent_18 : decode cM_extent 18 = .ok (.ifCond .ne 7, 3) := by decide +kernel
theorem dM_extent_21 : decode cM_extent 21 = .ok (.iconst 2, 1) := by decide +kernel
theorem dM_extent_22 : decode cM_extent 22 = .ok (.goto 4, 3) := by decide +kernel
theorem dM_extent_25 : decode cM_extent 25 = .ok (.iconst 0, 1) := by decide +kernel
theorem dM_extent_26 : decode cM_extent 26 = .ok (.invokevirtual 60, 3) := by decide +kernel
theorem dM_extent_29 : decode cM_extent 29 = .ok (.ifCond .eq 5, 3) := by decide +kernel
theorem dM_extent_32 : decode cM_extent 32 = .ok (.iconst 0, 1) := by decide +kernel
theorem dM_extent_33 : decode cM_extent 33 = .ok (.ireturn, 1) := by decide +kernel
theorem dM_extent_34 : decode cM_extent 34 = .ok (.aload_n 0, 1) := by decide +kernel
theorem dM_extent_35 : decode cM_extent 35 = .ok (.invokevirtual 139, 3) := by decide +kernel
theorem dM_extent_38 : decode cM_extent 38 = .ok (.iload_n 1, 1) := by decide +kernel
theorem dM_extent_39 : decode cM_extent 39 = .ok (.iconst 2, 1) := by decide +kernel
theorem dM_extent_40 : decode cM_extent 40 = .ok (.if_icmp .ge 7, 3) := by decide +kernel
theorem dM_extent_43 : decode cM_extent 43 = .ok (.iconst 1, 1) := by decide +kernel
theorem dM_extent_44 : decode cM_extent 44 = .ok (.goto 4, 3) := by decide +kernel
theorem dM_extent_47 : decode cM_extent 47 = .ok (.iconst 0, 1) := by decide +kernel
theorem dM_extent_48 : decode cM_extent 48 = .ok (.istore_n 2, 1) := by decide +kernel
theorem dM_extent_49 : decode cM_extent 49 = .ok (.lconst 0, 1) := by decide +kernel
theorem dM_extent_50 : decode cM_extent 50 = .ok (.lstore_n 3, 1) := by decide +kernel
theorem dM_extent_51 : decode cM_extent 51 = .ok (.iconst 0, 1) := by decide +kernel
theorem dM_extent_52 : decode cM_extent 52 = .ok (.istore 5, 2) := by decide +kernel
theorem dM_extent_54 : decode cM_extent 54 = .ok (.iload 5, 2) := by decide +kernel
theorem dM_extent_56 : decode cM_extent 56 = .ok (.aload_n 0, 1) := by decide +kernel
theorem dM_extent_57 : decode cM_extent 57 = .ok (.getfield 78, 3) := by decide +kernel
theorem dM_extent_60 : decode cM_extent 60 = .ok (.if_icmp .ge 65, 3) := by decide +kernel
theorem dM_extent_63 : decode cM_extent 63 = .ok (.aload_n 0, 1) := by decide +kernel
theorem dM_extent_64 : decode cM_extent 64 = .ok (.bipush 6, 2) := by decide +kernel
theorem dM_extent_66 : decode cM_extent 66 = .ok (.iload 5, 2) := by decide +kernel
theorem dM_extent_68 : decode cM_extent 68 = .ok (.imul, 1) := by decide +kernel
theorem dM_extent_69 : decode cM_extent 69 = .ok (.iload_n 1, 1) := by decide +kernel
theorem dM_extent_70 : decode cM_extent 70 = .ok (.iconst 2, 1) := by decide +kernel
theorem dM_extent_71 : decode cM_extent 71 = .ok (.irem, 1) := by decide +kernel
theorem dM_extent_72 : decode cM_extent 72 = .ok (.iadd, 1) := by decide +kernel
theorem dM_extent_73 : decode cM_extent 73 = .ok (.aload_n 0, 1) := by decide +kernel
theorem dM_extent_74 : decode cM_extent 74 = .ok (.getfield 35, 3) := by decide +kernel
theorem dM_extent_77 : decode cM_extent 77 = .ok (.iload 5, 2) := by decide +kernel
theorem dM_extent_79 : decode cM_extent 79 = .ok (.baload, 1) := by decide +kernel
theorem dM_extent_80 : decode cM_extent 80 = .ok (.iload_n 2, 1) := by decide +kernel
theorem dM_extent_81 : decode cM_extent 81 = .ok (.invokevirtual 162, 3) := by decide +kernel
theorem dM_extent_84 : decode cM_extent 84 = .ok (.lstore 6, 2) := by decide +kernel
theorem dM_extent_86 : decode cM_extent 86 = .ok (.iload 5, 2) := by decide +kernel
theorem dM_extent_88 : decode cM_extent 88 = .ok (.ifCond .eq 24, 3) := by decide +kernel
theorem dM_extent_91 : decode cM_extent 91 = .ok (.iload_n 2, 1) := by decide +kernel
theorem dM_extent_92 : decode cM_extent 92 = .ok (.ifCond .eq 13, 3) := by decide +kernel
theorem dM_extent_95 : decode cM_extent 95 = .ok (.lload 6, 2) := by decide +kernel
theorem dM_extent_97 : decode cM_extent 97 = .ok (.lload_n 3, 1) := by decide +kernel
theorem dM_extent_98 : decode cM_extent 98 = .ok (.lcmp, 1) := by decide +kernel
theorem dM_extent_99 : decode cM_extent 99 = .ok (.ifCond .ge 18, 3) := by decide +kernel
theorem dM_extent_102 : decode cM_extent 102 = .ok (.goto 10, 3) := by decide +kernel
theorem dM_extent_105 : decode cM_extent 105 = .ok (.lload 6, 2) := by decide +kernel
theorem dM_extent_107 : decode cM_extent 107 = .ok (.lload_n 3, 1) := by decide +kernel
theorem dM_extent_108 : decode cM_extent 108 = .ok (.lcmp, 1) := by decide +kernel
theorem dM_extent_109 : decode cM_extent 109 = .ok (.ifCond .le 8, 3) := by decide +kernel
theorem dM_extent_112 : decode cM_extent 112 = .ok (.lload 6, 2) := by decide +kernel
theorem dM_extent_114 : decode cM_extent 114 = .ok (.goto 4, 3) := by decide +kernel
theorem dM_extent_117 : decode cM_extent 117 = .ok (.lload_n 3, 1) := by decide +kernel
theorem dM_extent_118 : decode cM_extent 118 = .ok (.lstore_n 3, 1) := by decide +kernel
theorem dM_extent_119 : decode cM_extent 119 = .ok (.iinc 5 1, 3) := by decide +kernel
theorem dM_extent_122 : decode cM_extent 122 = .ok (.goto (-68), 3) := by decide +kernel
theorem dM_extent_125 : decode cM_extent 125 = .ok (.lload_n 3, 1) := by decide +kernel
theorem dM_extent_126 : decode cM_extent 126 = .ok (.l2i, 1) := by decide +kernel
theorem dM_extent_127 : decode cM_extent 127 = .ok (.ireturn, 1) := by decide +kernel
theorem dM_bound_0 : decode cM_bound 0 = .ok (.aload_n 0, 1) := by decide +kernel
theorem dM_bound_1 : decode cM_bound 1 = .ok (.getfield 32, 3) := by decide +kernel
theorem dM_bound_4 : decode cM_bound 4 = .ok (.iload_n 1, 1) := by decide +kernel
theorem dM_bound_5 : decode cM_bound 5 = .ok (.iaload, 1) := by decide +kernel
theorem dM_bound_6 : decode cM_bound 6 = .ok (.i2l, 1) := by decide +kernel
theorem dM_bound_7 : decode cM_bound 7 = .ok (.lstore 4, 2) := by decide +kernel
theorem dM_bound_9 : decode cM_bound 9 = .ok (.aload_n 0, 1) := by decide +kernel
theorem dM_bound_10 : decode cM_bound 10 = .ok (.getfield 32, 3) := by decide +kernel
theorem dM_bound_13 : decode cM_bound 13 = .ok (.iload_n 1, 1) := by decide +kernel
theorem dM_bound_14 : decode cM_bound 14 = .ok (.iconst 2, 1) := by decide +kernel
theorem dM_bound_15 : decode cM_bound 15 = .ok (.iadd, 1) := by decide +kernel
theorem dM_bound_16 : decode cM_bound 16 = .ok (.iaload, 1) := by decide +kernel
theorem dM_bound_17 : decode cM_bound 17 = .ok (.i2l, 1) := by decide +kernel
theorem dM_bound_18 : decode cM_bound 18 = .ok (.lstore 6, 2) := by decide +kernel
theorem dM_bound_20 : decode cM_bound 20 = .ok (.aload_n 0, 1) := by decide +kernel
theorem dM_bound_21 : decode cM_bound 21 = .ok (.getfield 32, 3) := by decide +kernel
theorem dM_bound_24 : decode cM_bound 24 = .ok (.iload_n 1, 1) := by decide +kernel
theorem dM_bound_25 : decode cM_bound 25 = .ok (.iconst 4, 1) := by decide +kernel
theorem dM_bound_26 : decode cM_bound 26 = .ok (.iadd, 1) := by decide +kernel
theorem dM_bound_27 : decode cM_bound 27 = .ok (.iaload, 1) := by decide +kernel
theorem dM_bound_28 : decode cM_bound 28 = .ok (.i2l, 1) := by decide +kernel
theorem dM_bound_29 : decode cM_bound 29 = .ok (.lstore 8, 2) := by decide +kernel
theorem dM_bound_31 : decode cM_bound 31 = .ok (.iload_n 3, 1) := by decide +kernel
theorem dM_bound_32 : decode cM_bound 32 = .ok (.ifCond .eq 21, 3) := by decide +kernel
theorem dM_bound_35 : decode cM_bound 35 = .ok (.lload 4, 2) := by decide +kernel
theorem dM_bound_37 : decode cM_bound 37 = .ok (.lload 8, 2) := by decide +kernel
theorem dM_bound_39 : decode cM_bound 39 = .ok (.lcmp, 1) := by decide +kernel
theorem dM_bound_40 : decode cM_bound 40 = .ok (.ifCond .ge 8, 3) := by decide +kernel
theorem dM_bound_43 : decode cM_bound 43 = .ok (.lload 4, 2) := by decide +kernel
theorem dM_bound_45 : decode cM_bound 45 = .ok (.goto 23, 3) := by decide +kernel
theorem dM_bound_48 : decode cM_bound 48 = .ok (.lload 8, 2) := by decide +kernel
theorem dM_bound_50 : decode cM_bound 50 = .ok (.goto 18, 3) := by decide +kernel
theorem dM_bound_53 : decode cM_bound 53 = .ok (.lload 4, 2) := by decide +kernel
theorem dM_bound_55 : decode cM_bound 55 = .ok (.lload 8, 2) := by decide +kernel
theorem dM_bound_57 : decode cM_bound 57 = .ok (.lcmp, 1) := by decide +kernel
theorem dM_bound_58 : decode cM_bound 58 = .ok (.ifCond .le 8, 3) := by decide +kernel
theorem dM_bound_61 : decode cM_bound 61 = .ok (.lload 4, 2) := by decide +kernel
theorem dM_bound_63 : decode cM_bound 63 = .ok (.goto 5, 3) := by decide +kernel
theorem dM_bound_66 : decode cM_bound 66 = .ok (.lload 8, 2) := by decide +kernel
theorem dM_bound_68 : decode cM_bound 68 = .ok (.lstore 10, 2) := by decide +kernel
theorem dM_bound_70 : decode cM_bound 70 = .ok (.iload_n 2, 1) := by decide +kernel
theorem dM_bound_71 : decode cM_bound 71 = .ok (.ifCond .ne 6, 3) := by decide +kernel
theorem dM_bound_74 : decode cM_bound 74 = .ok (.lload 10, 2) := by decide +kernel
theorem dM_bound_76 : decode cM_bound 76 = .ok (.lreturn, 1) := by decide +kernel
theorem dM_bound_77 : decode cM_bound 77 = .ok (.lload 4, 2) := by decide +kernel
theorem dM_bound_79 : decode cM_bound 79 = .ok (.ldc2_w 110, 3) := by decide +kernel
theorem dM_bound_82 : decode cM_bound 82 = .ok (.lload 6, 2) := by decide +kernel
theorem dM_bound_84 : decode cM_bound 84 = .ok (.lmul, 1) := by decide +kernel
theorem dM_bound_85 : decode cM_bound 85 = .ok (.lsub, 1) := by decide +kernel
theorem dM_bound_86 : decode cM_bound 86 = .ok (.lload 8, 2) := by decide +kernel
theorem dM_bound_88 : decode cM_bound 88 = .ok (.ladd, 1) := by decide +kernel
theorem dM_bound_89 : decode cM_bound 89 = .ok (.lstore 12, 2) := by decide +kernel
theorem dM_bound_91 : decode cM_bound 91 = .ok (.lload 6, 2) := by decide +kernel
theorem dM_bound_93 : decode cM_bound 93 = .ok (.lload 4, 2) := by decide +kernel
theorem dM_bound_95 : decode cM_bound 95 = .ok (.lsub, 1) := by decide +kernel
theorem dM_bound_96 : decode cM_bound 96 = .ok (.lstore 14, 2) := by decide +kernel
theorem dM_bound_98 : decode cM_bound 98 = .ok (.lload 12, 2) := by decide +kernel
theorem dM_bound_100 : decode cM_bound 100 = .ok (.lconst 0, 1) := by decide +kernel
theorem dM_bound_101 : decode cM_bound 101 = .ok (.lcmp, 1) := by decide +kernel
theorem dM_bound_102 : decode cM_bound 102 = .ok (.ifCond .le 27, 3) := by decide +kernel
theorem dM_bound_105 : decode cM_bound 105 = .ok (.lload 14, 2) := by decide +kernel
theorem dM_bound_107 : decode cM_bound 107 = .ok (.lconst 0, 1) := by decide +kernel
theorem dM_bound_108 : decode cM_bound 108 = .ok (.lcmp, 1) := by decide +kernel
theorem dM_bound_109 : decode cM_bound 109 = .ok (.ifCond .ge 16, 3) := by decide +kernel
theorem dM_bound_112 : decode cM_bound 112 = .ok (.lload 14, 2) := by decide +kernel
theorem dM_bound_114 : decode cM_bound 114 = .ok (.lneg, 1) := by decide +kernel
theorem dM_bound_115 : decode cM_bound 115 = .ok (.lload 12, 2) := by decide +kernel
theorem dM_bound_117 : decode cM_bound 117 = .ok (.lcmp, 1) := by decide +kernel
theorem dM_bound_118 : decode cM_bound 118 = .ok (.ifCond .ge 7, 3) := by decide +kernel
theorem dM_bound_121 : decode cM_bound 121 = .ok (.iconst 1, 1) := by decide +kernel
theorem dM_bound_122 : decode cM_bound 122 = .ok (.goto 35, 3) := by decide +kernel
theorem dM_bound_125 : decode cM_bound 125 = .ok (.iconst 0, 1) := by decide +kernel
theorem dM_bound_126 : decode cM_bound 126 = .ok (.goto 31, 3) := by decide +kernel
theorem dM_bound_129 : decode cM_bound 129 = .ok (.lload 12, 2) := by decide +kernel
theorem dM_bound_131 : decode cM_bound 131 = .ok (.lconst 0, 1) := by decide +kernel
theorem dM_bound_132 : decode cM_bound 132 = .ok (.lcmp, 1) := by decide +kernel
theorem dM_bound_133 : decode cM_bound 133 = .ok (.ifCond .ge 23, 3) := by decide +kernel
theorem dM_bound_136 : decode cM_bound 136 = .ok (.lload 14, 2) := by decide +kernel
theorem dM_bound_138 : decode cM_bound 138 = .ok (.lconst 0, 1) := by decide +kernel
theorem dM_bound_139 : decode cM_bound 139 = .ok (.lcmp, 1) := by decide +kernel
theorem dM_bound_140 : decode cM_bound 140 = .ok (.ifCond .le 16, 3) := by decide +kernel
theorem dM_bound_143 : decode cM_bound 143 = .ok (.lload 14, 2) := by decide +kernel
theorem dM_bound_145 : decode cM_bound 145 = .ok (.lload 12, 2) := by decide +kernel
theorem dM_bound_147 : decode cM_bound 147 = .ok (.lneg, 1) := by decide +kernel
theorem dM_bound_148 : decode cM_bound 148 = .ok (.lcmp, 1) := by decide +kernel
theorem dM_bound_149 : decode cM_bound 149 = .ok (.ifCond .ge 7, 3) := by decide +kernel
theorem dM_bound_152 : decode cM_bound 152 = .ok (.iconst 1, 1) := by decide +kernel
theorem dM_bound_153 : decode cM_bound 153 = .ok (.goto 4, 3) := by decide +kernel
theorem dM_bound_156 : decode cM_bound 156 = .ok (.iconst 0, 1) := by decide +kernel
theorem dM_bound_157 : decode cM_bound 157 = .ok (.istore 16, 2) := by decide +kernel
theorem dM_bound_159 : decode cM_bound 159 = .ok (.iload 16, 2) := by decide +kernel
theorem dM_bound_161 : decode cM_bound 161 = .ok (.ifCond .eq 28, 3) := by decide +kernel
theorem dM_bound_164 : decode cM_bound 164 = .ok (.lload 12, 2) := by decide +kernel
theorem dM_bound_166 : decode cM_bound 166 = .ok (.lconst 0, 1) := by decide +kernel
theorem dM_bound_167 : decode cM_bound 167 = .ok (.lcmp, 1) := by decide +kernel
theorem dM_bound_168 : decode cM_bound 168 = .ok (.ifCond .le 21, 3) := by decide +kernel
theorem dM_bound_171 : decode cM_bound 171 = .ok (.iload_n 3, 1) := by decide +kernel
theorem dM_bound_172 : decode cM_bound 172 = .ok (.ifCond .eq 17, 3) := by decide +kernel
theorem dM_bound_175 : decode cM_bound 175 = .ok (.lload 4, 2) := by decide +kernel
theorem dM_bound_177 : decode cM_bound 177 = .ok (.lload 14, 2) := by decide +kernel
theorem dM_bound_179 : decode cM_bound 179 = .ok (.lload 14, 2) := by decide +kernel
theorem dM_bound_181 : decode cM_bound 181 = .ok (.lmul, 1) := by decide +kernel
theorem dM_bound_182 : decode cM_bound 182 = .ok (.lload 12, 2) := by decide +kernel
theorem dM_bound_184 : decode cM_bound 184 = .ok (.invokestatic 158, 3) := by decide +kernel
theorem dM_bound_187 : decode cM_bound 187 = .ok (.lsub, 1) := by decide +kernel
theorem dM_bound_188 : decode cM_bound 188 = .ok (.lreturn, 1) := by decide +kernel
theorem dM_bound_189 : decode cM_bound 189 = .ok (.iload 16, 2) := by decide +kernel
theorem dM_bound_191 : decode cM_bound 191 = .ok (.ifCond .eq 31, 3) := by decide +kernel
theorem dM_bound_194 : decode cM_bound 194 = .ok (.lload 12, 2) := by decide +kernel
theorem dM_bound_196 : decode cM_bound 196 = .ok (.lconst 0, 1) := by decide +kernel
theorem dM_bound_197 : decode cM_bound 197 = .ok (.lcmp, 1) := by decide +kernel
theorem dM_bound_198 : decode cM_bound 198 = .ok (.ifCond .ge 24, 3) := by decide +kernel
theorem dM_bound_201 : decode cM_bound 201 = .ok (.iload_n 3, 1) := by decide +kernel
theorem dM_bound_202 : decode cM_bound 202 = .ok (.ifCond .ne 20, 3) := by decide +kernel
theorem dM_bound_205 : decode cM_bound 205 = .ok (.lload 4, 2) := by decide +kernel
theorem dM_bound_207 : decode cM_bound 207 = .ok (.lload 14, 2) := by decide +kernel
theorem dM_bound_209 : decode cM_bound 209 = .ok (.lload 14, 2) := by decide +kernel
theorem dM_bound_211 : decode cM_bound 211 = .ok (.lmul, 1) := by decide +kernel
theorem dM_bound_212 : decode cM_bound 212 = .ok (.lload 12, 2) := by decide +kernel
theorem dM_bound_214 : decode cM_bound 214 = .ok (.lneg, 1) := by decide +kernel
theorem dM_bound_215 : decode cM_bound 215 = .ok (.invokestatic 158, 3) := by decide +kernel
theorem dM_bound_218 : decode cM_bound 218 = .ok (.ladd, 1) := by decide +kernel
theorem dM_bound_219 : decode cM_bound 219 = .ok (.goto 5, 3) := by decide +kernel
theorem dM_bound_222 : decode cM_bound 222 = .ok (.lload 10, 2) := by decide +kernel
theorem dM_bound_224 : decode cM_bound 224 = .ok (.lreturn, 1) := by decide +kernel
theorem dM_ceiling_0 : decode cM_ceiling 0 = .ok (.lload_n 0, 1) := by decide +kernel
theorem dM_ceiling_1 : decode cM_ceiling 1 = .ok (.lload_n 2, 1) := by decide +kernel
theorem dM_ceiling_2 : decode cM_ceiling 2 = .ok (.ladd, 1) := by decide +kernel
theorem dM_ceiling_3 : decode cM_ceiling 3 = .ok (.lconst 1, 1) := by decide +kernel
theorem dM_ceiling_4 : decode cM_ceiling 4 = .ok (.lsub, 1) := by decide +kernel
theorem dM_ceiling_5 : decode cM_ceiling 5 = .ok (.lload_n 2, 1) := by decide +kernel
theorem dM_ceiling_6 : decode cM_ceiling 6 = .ok (.ldiv, 1) := by decide +kernel
theorem dM_ceiling_7 : decode cM_ceiling 7 = .ok (.lreturn, 1) := by decide +kernel
end
section
/-! decode rows -/
theorem dJA_fill_0 : decode cJA_fill 0 = .ok (.iconst 0, 1) := by decide +kernel
theorem dJA_fill_1 : decode cJA_fill 1 = .ok (.istore_n 2, 1) := by decide +kernel
theorem dJA_fill_2 : decode cJA_fill 2 = .ok (.aload_n 0, 1) := by decide +kernel
theorem dJA_fill_3 : decode cJA_fill 3 = .ok (.arraylength, 1) := by decide +kernel
theorem dJA_fill_4 : decode cJA_fill 4 = .ok (.istore_n 3, 1) := by decide +kernel
theorem dJA_fill_5 : decode cJA_fill 5 = .ok (.iload_n 2, 1) := by decide +kernel
theorem dJA_fill_6 : decode cJA_fill 6 = .ok (.iload_n 3, 1) := by decide +kernel
theorem dJA_fill_7 : decode cJA_fill 7 = .ok (.if_icmp .ge 13, 3) := by decide +kernel
theorem dJA_fill_10 : decode cJA_fill 10 = .ok (.aload_n 0, 1) := by decide +kernel
theorem dJA_fill_11 : decode cJA_fill 11 = .ok (.iload_n 2, 1) := by decide +kernel
theorem dJA_fill_12 : decode cJA_fill 12 = .ok (.iload_n 1, 1) := by decide +kernel
theorem dJA_fill_13 : decode cJA_fill 13 = .ok (.iastore, 1) := by decide +kernel
theorem dJA_fill_14 : decode cJA_fill 14 = .ok (.iinc 2 1, 3) := by decide +kernel
theorem dJA_fill_17 : decode cJA_fill 17 = .ok (.goto (-12), 3) := by decide +kernel
theorem dJA_fill_20 : decode cJA_fill 20 = .ok (.return_, 1) := by decide +kernel
theorem dJL_bitCount_0 : decode cJL_bitCount 0 = .ok (.lload_n 0, 1) := by decide +kernel
theorem dJL_bitCount_1 : decode cJL_bitCount 1 = .ok (.lload_n 0, 1) := by decide +kernel
theorem dJL_bitCount_2 : decode cJL_bitCount 2 = .ok (.iconst 1, 1) := by decide +kernel
theorem dJL_bitCount_3 : decode cJL_bitCount 3 = .ok (.lushr, 1) := by decide +kernel
theorem dJL_bitCount_4 : decode cJL_bitCount 4 = .ok (.ldc2_w 314, 3) := by decide +kernel
theorem dJL_bitCount_7 : decode cJL_bitCount 7 = .ok (.land, 1) := by decide +kernel
theorem dJL_bitCount_8 : decode cJL_bitCount 8 = .ok (.lsub, 1) := by decide +kernel
theorem dJL_bitCount_9 : decode cJL_bitCount 9 = .ok (.lstore_n 0, 1) := by decide +kernel
theorem dJL_bitCount_10 : decode cJL_bitCount 10 = .ok (.lload_n 0, 1) := by decide +kernel
theorem dJL_bitCount_11 : decode cJL_bitCount 11 = .ok (.ldc2_w 316, 3) := by decide +kernel
theorem dJL_bitCount_14 : decode cJL_bitCount 14 = .ok (.land, 1) := by decide +kernel
theorem dJL_bitCount_15 : decode cJL_bitCount 15 = .ok (.lload_n 0, 1) := by decide +kernel
theorem dJL_bitCount_16 : decode cJL_bitCount 16 = .ok (.iconst 2, 1) := by decide +kernel
theorem dJL_bitCount_17 : decode cJL_bitCount 17 = .ok (.lushr, 1) := by decide +kernel
theorem dJL_bitCount_18 : decode cJL_bitCount 18 = .ok (.ldc2_w 316, 3) := by decide +kernel
theorem dJL_bitCount_21 : decode cJL_bitCount 21 = .ok (.land, 1) := by decide +kernel
theorem dJL_bitCount_22 : decode cJL_bitCount 22 = .ok (.ladd, 1) := by decide +kernel
theorem dJL_bitCount_23 : decode cJL_bitCount 23 = .ok (.lstore_n 0, 1) := by decide +kernel
theorem dJL_bitCount_24 : decode cJL_bitCount 24 = .ok (.lload_n 0, 1) := by decide +kernel
theorem dJL_bitCount_25 : decode cJL_bitCount 25 = .ok (.lload_n 0, 1) := by decide +kernel
theorem dJL_bitCount_26 : decode cJL_bitCount 26 = .ok (.iconst 4, 1) := by decide +kernel
theorem dJL_bitCount_27 : decode cJL_bitCount 27 = .ok (.lushr, 1) := by decide +kernel
theorem dJL_bitCount_28 : decode cJL_bitCount 28 = .ok (.ladd, 1) := by decide +kernel
theorem dJL_bitCount_29 : decode cJL_bitCount 29 = .ok (.ldc2_w 318, 3) := by decide +kernel
theorem dJL_bitCount_32 : decode cJL_bitCount 32 = .ok (.land, 1) := by decide +kernel
theorem dJL_bitCount_33 : decode cJL_bitCount 33 = .ok (.lstore_n 0, 1) := by decide +kernel
theorem dJL_bitCount_34 : decode cJL_bitCount 34 = .ok (.lload_n 0, 1) := by decide +kernel
theorem dJL_bitCount_35 : decode cJL_bitCount 35 = .ok (.lload_n 0, 1) := by decide +kernel
theorem dJL_bitCount_36 : decode cJL_bitCount 36 = .ok (.bipush 8, 2) := by decide +kernel
theorem dJL_bitCount_38 : decode cJL_bitCount 38 = .ok (.lushr, 1) := by decide +kernel
theorem dJL_bitCount_39 : decode cJL_bitCount 39 = .ok (.ladd, 1) := by decide +kernel
theorem dJL_bitCount_40 : decode cJL_bitCount 40 = .ok (.lstore_n 0, 1) := by decide +kernel
theorem dJL_bitCount_41 : decode cJL_bitCount 41 = .ok (.lload_n 0, 1) := by decide +kernel
theorem dJL_bitCount_42 : decode cJL_bitCount 42 = .ok (.lload_n 0, 1) := by decide +kernel
theorem dJL_bitCount_43 : decode cJL_bitCount 43 = .ok (.bipush 16, 2) := by decide +kernel
theorem dJL_bitCount_45 : decode cJL_bitCount 45 = .ok (.lushr, 1) := by decide +kernel
theorem dJL_bitCount_46 : decode cJL_bitCount 46 = .ok (.ladd, 1) := by decide +kernel
theorem dJL_bitCount_47 : decode cJL_bitCount 47 = .ok (.lstore_n 0, 1) := by decide +kernel
theorem dJL_bitCount_48 : decode cJL_bitCount 48 = .ok (.lload_n 0, 1) := by decide +kernel
theorem dJL_bitCount_49 : decode cJL_bitCount 49 = .ok (.lload_n 0, 1) := by decide +kernel
theorem dJL_bitCount_50 : decode cJL_bitCount 50 = .ok (.bipush 32, 2) := by decide +kernel
theorem dJL_bitCount_52 : decode cJL_bitCount 52 = .ok (.lushr, 1) := by decide +kernel
theorem dJL_bitCount_53 : decode cJL_bitCount 53 = .ok (.ladd, 1) := by decide +kernel
theorem dJL_bitCount_54 : decode cJL_bitCount 54 = .ok (.lstore_n 0, 1) := by decide +kernel
theorem dJL_bitCount_55 : decode cJL_bitCount 55 = .ok (.lload_n 0, 1) := by decide +kernel
theorem dJL_bitCount_56 : decode cJL_bitCount 56 = .ok (.l2i, 1) := by decide +kernel
theorem dJL_bitCount_57 : decode cJL_bitCount 57 = .ok (.bipush 127, 2) := by decide +kernel
theorem dJL_bitCount_59 : decode cJL_bitCount 59 = .ok (.iand, 1) := by decide +kernel
theorem dJL_bitCount_60 : decode cJL_bitCount 60 = .ok (.ireturn, 1) := by decide +kernel
theorem dJM_floorDiv_0 : decode cJM_floorDiv 0 = .ok (.iload_n 0, 1) := by decide +kernel
theorem dJM_floorDiv_1 : decode cJM_floorDiv 1 = .ok (.iload_n 1, 1) := by decide +kernel
theorem dJM_floorDiv_2 : decode cJM_floorDiv 2 = .ok (.idiv, 1) := by decide +kernel
theorem dJM_floorDiv_3 : decode cJM_floorDiv 3 = .ok (.istore_n 2, 1) := by decide +kernel
theorem dJM_floorDiv_4 : decode cJM_floorDiv 4 = .ok (.iload_n 0, 1) := by decide +kernel
theorem dJM_floorDiv_5 : decode cJM_floorDiv 5 = .ok (.iload_n 1, 1) := by decide +kernel
theorem dJM_floorDiv_6 : decode cJM_floorDiv 6 = .ok (.ixor, 1) := by decide +kernel
theorem dJM_floorDiv_7 : decode cJM_floorDiv 7 = .ok (.ifCond .ge 14, 3) := by decide +kernel
theorem dJM_floorDiv_10 : decode cJM_floorDiv 10 = .ok (.iload_n 2, 1) := by decide +kernel
theorem dJM_floorDiv_11 : decode cJM_floorDiv 11 = .ok (.iload_n 1, 1) := by decide +kernel
theorem dJM_floorDiv_12 : decode cJM_floorDiv 12 = .ok (.imul, 1) := by decide +kernel
theorem dJM_floorDiv_13 : decode cJM_floorDiv 13 = .ok (.iload_n 0, 1) := by decide +kernel
theorem dJM_floorDiv_14 : decode cJM_floorDiv 14 = .ok (.if_icmp .eq 7, 3) := by decide +kernel
theorem dJM_floorDiv_17 : decode cJM_floorDiv 17 = .ok (.iload_n 2, 1) := by decide +kernel
theorem dJM_floorDiv_18 : decode cJM_floorDiv 18 = .ok (.iconst 1, 1) := by decide +kernel
theorem dJM_floorDiv_19 : decode cJM_floorDiv 19 = .ok (.isub, 1) := by decide +kernel
theorem dJM_floorDiv_20 : decode cJM_floorDiv 20 = .ok (.ireturn, 1) := by decide +kernel
theorem dJM_floorDiv_21 : decode cJM_floorDiv 21 = .ok (.iload_n 2, 1) := by decide +kernel
theorem dJM_floorDiv_22 : decode cJM_floorDiv 22 = .ok (.ireturn, 1) := by decide +kernel
theorem dJM_min_0 : decode cJM_min 0 = .ok (.iload_n 0, 1) := by decide +kernel
theorem dJM_min_1 : decode cJM_min 1 = .ok (.iload_n 1, 1) := by decide +kernel
theorem dJM_min_2 : decode cJM_min 2 = .ok (.if_icmp .gt 7, 3) := by decide +kernel
theorem dJM_min_5 : decode cJM_min 5 = .ok (.iload_n 0, 1) := by decide +kernel
theorem dJM_min_6 : decode cJM_min 6 = .ok (.goto 4, 3) := by decide +kernel
theorem dJM_min_9 : decode cJM_min 9 = .ok (.iload_n 1, 1) := by decide +kernel
theorem dJM_min_10 : decode cJM_min 10 = .ok (.ireturn, 1) := by decide +kernel
theorem dJM_max_0 : decode cJM_max 0 = .ok (.iload_n 0, 1) := by decide +kernel
theorem dJM_max_1 : decode cJM_max 1 = .ok (.iload_n 1, 1) := by decide +kernel
theorem dJM_max_2 : decode cJM_max 2 = .ok (.if_icmp .lt 7, 3) := by decide +kernel
theorem dJM_max_5 : decode cJM_max 5 = .ok (.iload_n 0, 1) := by decide +kernel
theorem dJM_max_6 : decode cJM_max 6 = .ok (.goto 4, 3) := by decide +kernel
theorem dJM_max_9 : decode cJM_max 9 = .ok (.iload_n 1, 1) := by decide +kernel
theorem dJM_max_10 : decode cJM_max 10 = .ok (.ireturn, 1) := by decide +kernel
end
section
/-! decode rows -/
theorem dW_add_0 : decode cW_add 0 = .ok (.aload 4, 2) := by decide +kernel
theorem dW_add_2 : decode cW_add 2 = .ok (.iconst 0, 1) := by decide +kernel
theorem dW_add_3 : decode cW_add 3 = .ok (.aload_n 0, 1) := by decide +kernel
theorem dW_add_4 : decode cW_add 4 = .ok (.iload_n 1, 1) := by decide +kernel
theorem dW_add_5 : decode cW_add 5 = .ok (.iload_n 2, 1) := by decide +kernel
theorem dW_add_6 : decode cW_add 6 = .ok (.iload_n 3, 1) := by decide +kernel
theorem dW_add_7 : decode cW_add 7 = .ok (.invokevirtual 7, 3) := by decide +kernel
theorem dW_add_10 : decode cW_add 10 = .ok (.i2l, 1) := by decide +kernel
theorem dW_add_11 : decode cW_add 11 = .ok (.lastore, 1) := by decide +kernel
theorem dW_add_12 : decode cW_add 12 = .ok (.goto 11, 3) := by decide +kernel
theorem dW_add_15 : decode cW_add 15 = .ok (.astore 5, 2) := by decide +kernel
theorem dW_add_17 : decode cW_add 17 = .ok (.iconst 1, 1) := by decide +kernel
theorem dW_add_18 : decode cW_add 18 = .ok (.ireturn, 1) := by decide +kernel
theorem dW_add_19 : decode cW_add 19 = .ok (.astore 5, 2) := by decide +kernel
theorem dW_add_21 : decode cW_add 21 = .ok (.iconst 2, 1) := by decide +kernel
theorem dW_add_22 : decode cW_add 22 = .ok (.ireturn, 1) := by decide +kernel
theorem dW_add_23 : decode cW_add 23 = .ok (.iconst 0, 1) := by decide +kernel
theorem dW_add_24 : decode cW_add 24 = .ok (.ireturn, 1) := by decide +kernel
theorem dW_close_0 : decode cW_close 0 = .ok (.aload_n 1, 1) := by decide +kernel
theorem dW_close_1 : decode cW_close 1 = .ok (.iconst 0, 1) := by decide +kernel
theorem dW_close_2 : decode cW_close 2 = .ok (.aload_n 0, 1) := by decide +kernel
theorem dW_close_3 : decode cW_close 3 = .ok (.invokevirtual 17, 3) := by decide +kernel
theorem dW_close_6 : decode cW_close 6 = .ok (.i2l, 1) := by decide +kernel
theorem dW_close_7 : decode cW_close 7 = .ok (.lastore, 1) := by decide +kernel
theorem dW_close_8 : decode cW_close 8 = .ok (.goto 6, 3) := by decide +kernel
theorem dW_close_11 : decode cW_close 11 = .ok (.astore_n 2, 1) := by decide +kernel
theorem dW_close_12 : decode cW_close 12 = .ok (.iconst 1, 1) := by decide +kernel
theorem dW_close_13 : decode cW_close 13 = .ok (.ireturn, 1) := by decide +kernel
theorem dW_close_14 : decode cW_close 14 = .ok (.iconst 0, 1) := by decide +kernel
theorem dW_close_15 : decode cW_close 15 = .ok (.ireturn, 1) := by decide +kernel
theorem dW_move_0 : decode cW_move 0 = .ok (.aload_n 0, 1) := by decide +kernel
theorem dW_move_1 : decode cW_move 1 = .ok (.iload_n 1, 1) := by decide +kernel
theorem dW_move_2 : decode cW_move 2 = .ok (.iload_n 2, 1) := by decide +kernel
theorem dW_move_3 : decode cW_move 3 = .ok (.invokevirtual 21, 3) := by decide +kernel
theorem dW_move_6 : decode cW_move 6 = .ok (.goto 6, 3) := by decide +kernel
theorem dW_move_9 : decode cW_move 9 = .ok (.astore_n 3, 1) := by decide +kernel
theorem dW_move_10 : decode cW_move 10 = .ok (.iconst 1, 1) := by decide +kernel
theorem dW_move_11 : decode cW_move 11 = .ok (.ireturn, 1) := by decide +kernel
theorem dW_move_12 : decode cW_move 12 = .ok (.iconst 0, 1) := by decide +kernel
theorem dW_move_13 : decode cW_move 13 = .ok (.ireturn, 1) := by decide +kernel
theorem dW_winding_0 : decode cW_winding 0 = .ok (.aload_n 3, 1) := by decide +kernel
theorem dW_winding_1 : decode cW_winding 1 = .ok (.iconst 0, 1) := by decide +kernel
theorem dW_winding_2 : decode cW_winding 2 = .ok (.aload_n 0, 1) := by decide +kernel
theorem dW_winding_3 : decode cW_winding 3 = .ok (.iload_n 1, 1) := by decide +kernel
theorem dW_winding_4 : decode cW_winding 4 = .ok (.iload_n 2, 1) := by decide +kernel
theorem dW_winding_5 : decode cW_winding 5 = .ok (.invokevirtual 25, 3) := by decide +kernel
theorem dW_winding_8 : decode cW_winding 8 = .ok (.i2l, 1) := by decide +kernel
theorem dW_winding_9 : decode cW_winding 9 = .ok (.lastore, 1) := by decide +kernel
theorem dW_winding_10 : decode cW_winding 10 = .ok (.goto 7, 3) := by decide +kernel
theorem dW_winding_13 : decode cW_winding 13 = .ok (.astore 4, 2) := by decide +kernel
theorem dW_winding_15 : decode cW_winding 15 = .ok (.iconst 1, 1) := by decide +kernel
theorem dW_winding_16 : decode cW_winding 16 = .ok (.ireturn, 1) := by decide +kernel
theorem dW_winding_17 : decode cW_winding 17 = .ok (.iconst 0, 1) := by decide +kernel
theorem dW_winding_18 : decode cW_winding 18 = .ok (.ireturn, 1) := by decide +kernel
theorem dW_row_0 : decode cW_row 0 = .ok (.aload_n 2, 1) := by decide +kernel
theorem dW_row_1 : decode cW_row 1 = .ok (.iconst 0, 1) := by decide +kernel
theorem dW_row_2 : decode cW_row 2 = .ok (.aload_n 0, 1) := by decide +kernel
theorem dW_row_3 : decode cW_row 3 = .ok (.iload_n 1, 1) := by decide +kernel
theorem dW_row_4 : decode cW_row 4 = .ok (.invokevirtual 29, 3) := by decide +kernel
theorem dW_row_7 : decode cW_row 7 = .ok (.lastore, 1) := by decide +kernel
theorem dW_row_8 : decode cW_row 8 = .ok (.goto 6, 3) := by decide +kernel
theorem dW_row_11 : decode cW_row 11 = .ok (.astore_n 3, 1) := by decide +kernel
theorem dW_row_12 : decode cW_row 12 = .ok (.iconst 1, 1) := by decide +kernel
theorem dW_row_13 : decode cW_row 13 = .ok (.ireturn, 1) := by decide +kernel
theorem dW_row_14 : decode cW_row 14 = .ok (.iconst 0, 1) := by decide +kernel
theorem dW_row_15 : decode cW_row 15 = .ok (.ireturn, 1) := by decide +kernel
theorem dW_share_0 : decode cW_share 0 = .ok (.aload_n 3, 1) := by decide +kernel
theorem dW_share_1 : decode cW_share 1 = .ok (.iconst 0, 1) := by decide +kernel
theorem dW_share_2 : decode cW_share 2 = .ok (.aload_n 0, 1) := by decide +kernel
theorem dW_share_3 : decode cW_share 3 = .ok (.iload_n 1, 1) := by decide +kernel
theorem dW_share_4 : decode cW_share 4 = .ok (.iload_n 2, 1) := by decide +kernel
theorem dW_share_5 : decode cW_share 5 = .ok (.invokevirtual 35, 3) := by decide +kernel
theorem dW_share_8 : decode cW_share 8 = .ok (.i2l, 1) := by decide +kernel
theorem dW_share_9 : decode cW_share 9 = .ok (.lastore, 1) := by decide +kernel
theorem dW_share_10 : decode cW_share 10 = .ok (.goto 7, 3) := by decide +kernel
theorem dW_share_13 : decode cW_share 13 = .ok (.astore 4, 2) := by decide +kernel
theorem dW_share_15 : decode cW_share 15 = .ok (.iconst 1, 1) := by decide +kernel
theorem dW_share_16 : decode cW_share 16 = .ok (.ireturn, 1) := by decide +kernel
theorem dW_share_17 : decode cW_share 17 = .ok (.iconst 0, 1) := by decide +kernel
theorem dW_share_18 : decode cW_share 18 = .ok (.ireturn, 1) := by decide +kernel
theorem dW_spans_0 : decode cW_spans 0 = .ok (.aload_n 2, 1) := by decide +kernel
theorem dW_spans_1 : decode cW_spans 1 = .ok (.iconst 0, 1) := by decide +kernel
theorem dW_spans_2 : decode cW_spans 2 = .ok (.aload_n 0, 1) := by decide +kernel
theorem dW_spans_3 : decode cW_spans 3 = .ok (.iload_n 1, 1) := by decide +kernel
theorem dW_spans_4 : decode cW_spans 4 = .ok (.invokevirtual 38, 3) := by decide +kernel
theorem dW_spans_7 : decode cW_spans 7 = .ok (.i2l, 1) := by decide +kernel
theorem dW_spans_8 : decode cW_spans 8 = .ok (.lastore, 1) := by decide +kernel
theorem dW_spans_9 : decode cW_spans 9 = .ok (.goto 6, 3) := by decide +kernel
theorem dW_spans_12 : decode cW_spans 12 = .ok (.astore_n 3, 1) := by decide +kernel
theorem dW_spans_13 : decode cW_spans 13 = .ok (.iconst 1, 1) := by decide +kernel
theorem dW_spans_14 : decode cW_spans 14 = .ok (.ireturn, 1) := by decide +kernel
theorem dW_spans_15 : decode cW_spans 15 = .ok (.iconst 0, 1) := by decide +kernel
theorem dW_spans_16 : decode cW_spans 16 = .ok (.ireturn, 1) := by decide +kernel
theorem dW_span_0 : decode cW_span 0 = .ok (.aload 4, 2) := by decide +kernel
theorem dW_span_2 : decode cW_span 2 = .ok (.iconst 0, 1) := by decide +kernel
theorem dW_span_3 : decode cW_span 3 = .ok (.aload_n 0, 1) := by decide +kernel
theorem dW_span_4 : decode cW_span 4 = .ok (.iload_n 1, 1) := by decide +kernel
theorem dW_span_5 : decode cW_span 5 = .ok (.iload_n 2, 1) := by decide +kernel
theorem dW_span_6 : decode cW_span 6 = .ok (.iload_n 3, 1) := by decide +kernel
theorem dW_span_7 : decode cW_span 7 = .ok (.invokevirtual 42, 3) := by decide +kernel
theorem dW_span_10 : decode cW_span 10 = .ok (.i2l, 1) := by decide +kernel
theorem dW_span_11 : decode cW_span 11 = .ok (.lastore, 1) := by decide +kernel
theorem dW_span_12 : decode cW_span 12 = .ok (.goto 7, 3) := by decide +kernel
theorem dW_span_15 : decode cW_span 15 = .ok (.astore 5, 2) := by decide +kernel
theorem dW_span_17 : decode cW_span 17 = .ok (.iconst 1, 1) := by decide +kernel
theorem dW_span_18 : decode cW_span 18 = .ok (.ireturn, 1) := by decide +kernel
theorem dW_span_19 : decode cW_span 19 = .ok (.iconst 0, 1) := by decide +kernel
theorem dW_span_20 : decode cW_span 20 = .ok (.ireturn, 1) := by decide +kernel
theorem dW_extent_0 : decode cW_extent 0 = .ok (.aload_n 2, 1) := by decide +kernel
theorem dW_extent_1 : decode cW_extent 1 = .ok (.iconst 0, 1) := by decide +kernel
theorem dW_extent_2 : decode cW_extent 2 = .ok (.aload_n 0, 1) := by decide +kernel
theorem dW_extent_3 : decode cW_extent 3 = .ok (.iload_n 1, 1) := by decide +kernel
theorem dW_extent_4 : decode cW_extent 4 = .ok (.invokevirtual 45, 3) := by decide +kernel
theorem dW_extent_7 : decode cW_extent 7 = .ok (.i2l, 1) := by decide +kernel
theorem dW_extent_8 : decode cW_extent 8 = .ok (.lastore, 1) := by decide +kernel
theorem dW_extent_9 : decode cW_extent 9 = .ok (.goto 9, 3) := by decide +kernel
theorem dW_extent_12 : decode cW_extent 12 = .ok (.astore_n 3, 1) := by decide +kernel
theorem dW_extent_13 : decode cW_extent 13 = .ok (.iconst 1, 1) := by decide +kernel
theorem dW_extent_14 : decode cW_extent 14 = .ok (.ireturn, 1) := by decide +kernel
theorem dW_extent_15 : decode cW_extent 15 = .ok (.astore_n 3, 1) := by decide +kernel
theorem dW_extent_16 : decode cW_extent 16 = .ok (.iconst 2, 1) := by decide +kernel
theorem dW_extent_17 : decode cW_extent 17 = .ok (.ireturn, 1) := by decide +kernel
theorem dW_extent_18 : decode cW_extent 18 = .ok (.iconst 0, 1) := by decide +kernel
theorem dW_extent_19 : decode cW_extent 19 = .ok (.ireturn, 1) := by decide +kernel
theorem dW_law_0 : decode cW_law 0 = .ok (.new 8, 3) := by decide +kernel
theorem dW_law_3 : decode cW_law 3 = .ok (.dup, 1) := by decide +kernel
theorem dW_law_4 : decode cW_law 4 = .ok (.invokespecial 48, 3) := by decide +kernel
theorem dW_law_7 : decode cW_law 7 = .ok (.astore_n 1, 1) := by decide +kernel
theorem dW_law_8 : decode cW_law 8 = .ok (.new 49, 3) := by decide +kernel
theorem dW_law_11 : decode cW_law 11 = .ok (.dup, 1) := by decide +kernel
theorem dW_law_12 : decode cW_law 12 = .ok (.invokespecial 51, 3) := by decide +kernel
theorem dW_law_15 : decode cW_law 15 = .ok (.astore_n 2, 1) := by decide +kernel
theorem dW_law_16 : decode cW_law 16 = .ok (.iconst 1, 1) := by decide +kernel
theorem dW_law_17 : decode cW_law 17 = .ok (.newarray .long, 2) := by decide +kernel
theorem dW_law_19 : decode cW_law 19 = .ok (.astore_n 3, 1) := by decide +kernel
theorem dW_law_20 : decode cW_law 20 = .ok (.iconst 0, 1) := by decide +kernel
theorem dW_law_21 : decode cW_law 21 = .ok (.istore 4, 2) := by decide +kernel
theorem dW_law_23 : decode cW_law 23 = .ok (.iload 4, 2) := by decide +kernel
theorem dW_law_25 : decode cW_law 25 = .ok (.aload_n 0, 1) := by decide +kernel
theorem dW_law_26 : decode cW_law 26 = .ok (.arraylength, 1) := by decide +kernel
theorem dW_law_27 : decode cW_law 27 = .ok (.iconst 4, 1) := by decide +kernel
theorem dW_law_28 : decode cW_law 28 = .ok (.isub, 1) := by decide +kernel
theorem dW_law_29 : decode cW_law 29 = .ok (.if_icmp .gt 760, 3) := by decide +kernel
theorem dW_law_32 : decode cW_law 32 = .ok (.aload_n 0, 1) := by decide +kernel
theorem dW_law_33 : decode cW_law 33 = .ok (.iload 4, 2) := by decide +kernel
theorem dW_law_35 : decode cW_law 35 = .ok (.iaload, 1) := by decide +kernel
theorem dW_law_36 : decode cW_law 36 = .ok (.bipush 15, 2) := by decide +kernel
theorem dW_law_38 : decode cW_law 38 = .ok (.iand, 1) := by decide +kernel
theorem dW_law_39 : decode cW_law 39 = .ok (.tableswitch 744 0 12 #[65, 161, 205, 218, 231, 279, 320, 345, 413, 468, 536, 592, 688], 65) := by decide +kernel
theorem dW_law_104 : decode cW_law 104 = .ok (.aload_n 1, 1) := by decide +kernel
theorem dW_law_105 : decode cW_law 105 = .ok (.aload_n 0, 1) := by decide +kernel
theorem dW_law_106 : decode cW_law 106 = .ok (.iload 4, 2) := by decide +kernel
theorem dW_law_108 : decode cW_law 108 = .ok (.iconst 1, 1) := by decide +kernel
theorem dW_law_109 : decode cW_law 109 = .ok (.iadd, 1) := by decide +kernel
theorem dW_law_110 : decode cW_law 110 = .ok (.iaload, 1) := by decide +kernel
theorem dW_law_111 : decode cW_law 111 = .ok (.aload_n 0, 1) := by decide +kernel
theorem dW_law_112 : decode cW_law 112 = .ok (.iload 4, 2) := by decide +kernel
theorem dW_law_114 : decode cW_law 114 = .ok (.iconst 2, 1) := by decide +kernel
theorem dW_law_115 : decode cW_law 115 = .ok (.iadd, 1) := by decide +kernel
theorem dW_law_116 : decode cW_law 116 = .ok (.iaload, 1) := by decide +kernel
theorem dW_law_117 : decode cW_law 117 = .ok (.aload_n 0, 1) := by decide +kernel
theorem dW_law_118 : decode cW_law 118 = .ok (.iload 4, 2) := by decide +kernel
theorem dW_law_120 : decode cW_law 120 = .ok (.iconst 3, 1) := by decide +kernel
theorem dW_law_121 : decode cW_law 121 = .ok (.iadd, 1) := by decide +kernel
theorem dW_law_122 : decode cW_law 122 = .ok (.iaload, 1) := by decide +kernel
theorem dW_law_123 : decode cW_law 123 = .ok (.ifCond .eq 7, 3) := by decide +kernel
theorem dW_law_126 : decode cW_law 126 = .ok (.iconst 1, 1) := by decide +kernel
theorem dW_law_127 : decode cW_law 127 = .ok (.goto 4, 3) := by decide +kernel
theorem dW_law_130 : decode cW_law 130 = .ok (.iconst 0, 1) := by decide +kernel
theorem dW_law_131 : decode cW_law 131 = .ok (.aload_n 3, 1) := by decide +kernel
theorem dW_law_132 : decode cW_law 132 = .ok (.invokestatic 52, 3) := by decide +kernel
theorem dW_law_135 : decode cW_law 135 = .ok (.istore 5, 2) := by decide +kernel
theorem dW_law_137 : decode cW_law 137 = .ok (.aload_n 2, 1) := by decide +kernel
theorem dW_law_138 : decode cW_law 138 = .ok (.aload_n 0, 1) := by decide +kernel
theorem dW_law_139 : decode cW_law 139 = .ok (.iload 4, 2) := by decide +kernel
theorem dW_law_141 : decode cW_law 141 = .ok (.iconst 1, 1) := by decide +kernel
theorem dW_law_142 : decode cW_law 142 = .ok (.iadd, 1) := by decide +kernel
theorem dW_law_143 : decode cW_law 143 = .ok (.iaload, 1) := by decide +kernel
theorem dW_law_144 : decode cW_law 144 = .ok (.aload_n 0, 1) := by decide +kernel
theorem dW_law_145 : decode cW_law 145 = .ok (.iload 4, 2) := by decide +kernel
theorem dW_law_147 : decode cW_law 147 = .ok (.iconst 2, 1) := by decide +kernel
theorem dW_law_148 : decode cW_law 148 = .ok (.iadd, 1) := by decide +kernel
theorem dW_law_149 : decode cW_law 149 = .ok (.iaload, 1) := by decide +kernel
theorem dW_law_150 : decode cW_law 150 = .ok (.aload_n 0, 1) := by decide +kernel
theorem dW_law_151 : decode cW_law 151 = .ok (.iload 4, 2) := by decide +kernel
theorem dW_law_153 : decode cW_law 153 = .ok (.iconst 3, 1) := by decide +kernel
theorem dW_law_154 : decode cW_law 154 = .ok (.iadd, 1) := by decide +kernel
theorem dW_law_155 : decode cW_law 155 = .ok (.iaload, 1) := by decide +kernel
theorem dW_law_156 : decode cW_law 156 = .ok (.ifCond .eq 7, 3) := by decide +kernel
theorem dW_law_159 : decode cW_law 159 = .ok (.iconst 1, 1) := by decide +kernel
theorem dW_law_160 : decode cW_law 160 = .ok (.goto 4, 3) := by decide +kernel
theorem dW_law_163 : decode cW_law 163 = .ok (.iconst 0, 1) := by decide +kernel
theorem dW_law_164 : decode cW_law 164 = .ok (.invokevirtual 57, 3) := by decide +kernel
theorem dW_law_167 : decode cW_law 167 = .ok (.istore 6, 2) := by decide +kernel
theorem dW_law_169 : decode cW_law 169 = .ok (.aload_n 2, 1) := by decide +kernel
theorem dW_law_170 : decode cW_law 170 = .ok (.invokevirtual 58, 3) := by decide +kernel
theorem dW_law_173 : decode cW_law 173 = .ok (.iload 5, 2) := by decide +kernel
theorem dW_law_175 : decode cW_law 175 = .ok (.if_icmp .eq 5, 3) := by decide +kernel
theorem dW_law_178 : decode cW_law 178 = .ok (.iconst 0, 1) := by decide +kernel
theorem dW_law_179 : decode cW_law 179 = .ok (.ireturn, 1) := by decide +kernel
theorem dW_law_180 : decode cW_law 180 = .ok (.iload 5, 2) := by decide +kernel
theorem dW_law_182 : decode cW_law 182 = .ok (.ifCond .ne 15, 3) := by decide +kernel
theorem dW_law_185 : decode cW_law 185 = .ok (.aload_n 3, 1) := by decide +kernel
theorem dW_law_186 : decode cW_law 186 = .ok (.iconst 0, 1) := by decide +kernel
theorem dW_law_187 : decode cW_law 187 = .ok (.laload, 1) := by decide +kernel
theorem dW_law_188 : decode cW_law 188 = .ok (.iload 6, 2) := by decide +kernel
theorem dW_law_190 : decode cW_law 190 = .ok (.i2l, 1) := by decide +kernel
theorem dW_law_191 : decode cW_law 191 = .ok (.lcmp, 1) := by decide +kernel
theorem dW_law_192 : decode cW_law 192 = .ok (.ifCond .eq 5, 3) := by decide +kernel
theorem dW_law_195 : decode cW_law 195 = .ok (.iconst 0, 1) := by decide +kernel
theorem dW_law_196 : decode cW_law 196 = .ok (.ireturn, 1) := by decide +kernel
theorem dW_law_197 : decode cW_law 197 = .ok (.goto 586, 3) := by decide +kernel
theorem dW_law_200 : decode cW_law 200 = .ok (.aload_n 1, 1) := by decide +kernel
theorem dW_law_201 : decode cW_law 201 = .ok (.aload_n 3, 1) := by decide +kernel
theorem dW_law_202 : decode cW_law 202 = .ok (.invokestatic 61, 3) := by decide +kernel
theorem dW_law_205 : decode cW_law 205 = .ok (.istore 5, 2) := by decide +kernel
theorem dW_law_207 : decode cW_law 207 = .ok (.aload_n 2, 1) := by decide +kernel
theorem dW_law_208 : decode cW_law 208 = .ok (.invokevirtual 64, 3) := by decide +kernel
theorem dW_law_211 : decode cW_law 211 = .ok (.istore 6, 2) := by decide +kernel
theorem dW_law_213 : decode cW_law 213 = .ok (.aload_n 2, 1) := by decide +kernel
theorem dW_law_214 : decode cW_law 214 = .ok (.invokevirtual 58, 3) := by decide +kernel
theorem dW_law_217 : decode cW_law 217 = .ok (.iload 5, 2) := by decide +kernel
theorem dW_law_219 : decode cW_law 219 = .ok (.if_icmp .eq 5, 3) := by decide +kernel
theorem dW_law_222 : decode cW_law 222 = .ok (.iconst 0, 1) := by decide +kernel
theorem dW_law_223 : decode cW_law 223 = .ok (.ireturn, 1) := by decide +kernel
theorem dW_law_224 : decode cW_law 224 = .ok (.iload 5, 2) := by decide +kernel
theorem dW_law_226 : decode cW_law 226 = .ok (.ifCond .ne 15, 3) := by decide +kernel
theorem dW_law_229 : decode cW_law 229 = .ok (.aload_n 3, 1) := by decide +kernel
theorem dW_law_230 : decode cW_law 230 = .ok (.iconst 0, 1) := by decide +kernel
theorem dW_law_231 : decode cW_law 231 = .ok (.laload, 1) := by decide +kernel
theorem dW_law_232 : decode cW_law 232 = .ok (.iload 6, 2) := by decide +kernel
theorem dW_law_234 : decode cW_law 234 = .ok (.i2l, 1) := by decide +kernel
theorem dW_law_235 : decode cW_law 235 = .ok (.lcmp, 1) := by decide +kernel
theorem dW_law_236 : decode cW_law 236 = .ok (.ifCond .eq 5, 3) := by decide +kernel
theorem dW_law_239 : decode cW_law 239 = .ok (.iconst 0, 1) := by decide +kernel
theorem dW_law_240 : decode cW_law 240 = .ok (.ireturn, 1) := by decide +kernel
theorem dW_law_241 : decode cW_law 241 = .ok (.goto 542, 3) := by decide +kernel
theorem dW_law_244 : decode cW_law 244 = .ok (.aload_n 1, 1) := by decide +kernel
theorem dW_law_245 : decode cW_law 245 = .ok (.invokevirtual 65, 3) := by decide +kernel
theorem dW_law_248 : decode cW_law 248 = .ok (.aload_n 2, 1) := by decide +kernel
theorem dW_law_249 : decode cW_law 249 = .ok (.invokevirtual 68, 3) := by decide +kernel
theorem dW_law_252 : decode cW_law 252 = .ok (.if_icmp .eq 531, 3) := by decide +kernel
theorem dW_law_255 : decode cW_law 255 = .ok (.iconst 0, 1) := by decide +kernel
theorem dW_law_256 : decode cW_law 256 = .ok (.ireturn, 1) := by decide +kernel
theorem dW_law_257 : decode cW_law 257 = .ok (.aload_n 1, 1) := by decide +kernel
theorem dW_law_258 : decode cW_law 258 = .ok (.invokevirtual 69, 3) := by decide +kernel
theorem dW_law_261 : decode cW_law 261 = .ok (.aload_n 2, 1) := by decide +kernel
theorem dW_law_262 : decode cW_law 262 = .ok (.invokevirtual 72, 3) := by decide +kernel
theorem dW_law_265 : decode cW_law 265 = .ok (.if_icmp .eq 518, 3) := by decide +kernel
theorem dW_law_268 : decode cW_law 268 = .ok (.iconst 0, 1) := by decide +kernel
theorem dW_law_269 : decode cW_law 269 = .ok (.ireturn, 1) := by decide +kernel
theorem dW_law_270 : decode cW_law 270 = .ok (.aload_n 1, 1) := by decide +kernel
theorem dW_law_271 : decode cW_law 271 = .ok (.aload_n 0, 1) := by decide +kernel
theorem dW_law_272 : decode cW_law 272 = .ok (.iload 4, 2) := by decide +kernel
theorem dW_law_274 : decode cW_law 274 = .ok (.iconst 1, 1) := by decide +kernel
theorem dW_law_275 : decode cW_law 275 = .ok (.iadd, 1) := by decide +kernel
theorem dW_law_276 : decode cW_law 276 = .ok (.iaload, 1) := by decide +kernel
theorem dW_law_277 : decode cW_law 277 = .ok (.aload_n 0, 1) := by decide +kernel
theorem dW_law_278 : decode cW_law 278 = .ok (.iload 4, 2) := by decide +kernel
theorem dW_law_280 : decode cW_law 280 = .ok (.iconst 2, 1) := by decide +kernel
theorem dW_law_281 : decode cW_law 281 = .ok (.iadd, 1) := by decide +kernel
theorem dW_law_282 : decode cW_law 282 = .ok (.iaload, 1) := by decide +kernel
theorem dW_law_283 : decode cW_law 283 = .ok (.invokestatic 73, 3) := by decide +kernel
theorem dW_law_286 : decode cW_law 286 = .ok (.istore 5, 2) := by decide +kernel
theorem dW_law_288 : decode cW_law 288 = .ok (.aload_n 2, 1) := by decide +kernel
theorem dW_law_289 : decode cW_law 289 = .ok (.aload_n 0, 1) := by decide +kernel
theorem dW_law_290 : decode cW_law 290 = .ok (.iload 4, 2) := by decide +kernel
theorem dW_law_292 : decode cW_law 292 = .ok (.iconst 1, 1) := by decide +kernel
theorem dW_law_293 : decode cW_law 293 = .ok (.iadd, 1) := by decide +kernel
theorem dW_law_294 : decode cW_law 294 = .ok (.iaload, 1) := by decide +kernel
theorem dW_law_295 : decode cW_law 295 = .ok (.aload_n 0, 1) := by decide +kernel
theorem dW_law_296 : decode cW_law 296 = .ok (.iload 4, 2) := by decide +kernel
theorem dW_law_298 : decode cW_law 298 = .ok (.iconst 2, 1) := by decide +kernel
theorem dW_law_299 : decode cW_law 299 = .ok (.iadd, 1) := by decide +kernel
theorem dW_law_300 : decode cW_law 300 = .ok (.iaload, 1) := by decide +kernel
theorem dW_law_301 : decode cW_law 301 = .ok (.invokevirtual 76, 3) := by decide +kernel
theorem dW_law_304 : decode cW_law 304 = .ok (.aload_n 2, 1) := by decide +kernel
theorem dW_law_305 : decode cW_law 305 = .ok (.invokevirtual 58, 3) := by decide +kernel
theorem dW_law_308 : decode cW_law 308 = .ok (.iload 5, 2) := by decide +kernel
theorem dW_law_310 : decode cW_law 310 = .ok (.if_icmp .eq 5, 3) := by decide +kernel
theorem dW_law_313 : decode cW_law 313 = .ok (.iconst 0, 1) := by decide +kernel
theorem dW_law_314 : decode cW_law 314 = .ok (.ireturn, 1) := by decide +kernel
theorem dW_law_315 : decode cW_law 315 = .ok (.goto 468, 3) := by decide +kernel
theorem dW_law_318 : decode cW_law 318 = .ok (.aload_n 1, 1) := by decide +kernel
theorem dW_law_319 : decode cW_law 319 = .ok (.aload_n 0, 1) := by decide +kernel
theorem dW_law_320 : decode cW_law 320 = .ok (.iload 4, 2) := by decide +kernel
theorem dW_law_322 : decode cW_law 322 = .ok (.iconst 1, 1) := by decide +kernel
theorem dW_law_323 : decode cW_law 323 = .ok (.iadd, 1) := by decide +kernel
theorem dW_law_324 : decode cW_law 324 = .ok (.iaload, 1) := by decide +kernel
theorem dW_law_325 : decode cW_law 325 = .ok (.ifCond .eq 7, 3) := by decide +kernel
theorem dW_law_328 : decode cW_law 328 = .ok (.iconst 1, 1) := by decide +kernel
theorem dW_law_329 : decode cW_law 329 = .ok (.goto 4, 3) := by decide +kernel
theorem dW_law_332 : decode cW_law 332 = .ok (.iconst 0, 1) := by decide +kernel
theorem dW_law_333 : decode cW_law 333 = .ok (.invokevirtual 77, 3) := by decide +kernel
theorem dW_law_336 : decode cW_law 336 = .ok (.aload_n 2, 1) := by decide +kernel
theorem dW_law_337 : decode cW_law 337 = .ok (.aload_n 0, 1) := by decide +kernel
theorem dW_law_338 : decode cW_law 338 = .ok (.iload 4, 2) := by decide +kernel
theorem dW_law_340 : decode cW_law 340 = .ok (.iconst 1, 1) := by decide +kernel
theorem dW_law_341 : decode cW_law 341 = .ok (.iadd, 1) := by decide +kernel
theorem dW_law_342 : decode cW_law 342 = .ok (.iaload, 1) := by decide +kernel
theorem dW_law_343 : decode cW_law 343 = .ok (.ifCond .eq 7, 3) := by decide +kernel
theorem dW_law_346 : decode cW_law 346 = .ok (.iconst 1, 1) := by decide +kernel
theorem dW_law_347 : decode cW_law 347 = .ok (.goto 4, 3) := by decide +kernel
theorem dW_law_350 : decode cW_law 350 = .ok (.iconst 0, 1) := by decide +kernel
theorem dW_law_351 : decode cW_law 351 = .ok (.invokevirtual 81, 3) := by decide +kernel
theorem dW_law_354 : decode cW_law 354 = .ok (.if_icmp .eq 429, 3) := by decide +kernel
theorem dW_law_357 : decode cW_law 357 = .ok (.iconst 0, 1) := by decide +kernel
theorem dW_law_358 : decode cW_law 358 = .ok (.ireturn, 1) := by decide +kernel
theorem dW_law_359 : decode cW_law 359 = .ok (.aload_n 1, 1) := by decide +kernel
theorem dW_law_360 : decode cW_law 360 = .ok (.aload_n 0, 1) := by decide +kernel
theorem dW_law_361 : decode cW_law 361 = .ok (.iload 4, 2) := by decide +kernel
theorem dW_law_363 : decode cW_law 363 = .ok (.iconst 1, 1) := by decide +kernel
theorem dW_law_364 : decode cW_law 364 = .ok (.iadd, 1) := by decide +kernel
theorem dW_law_365 : decode cW_law 365 = .ok (.iaload, 1) := by decide +kernel
theorem dW_law_366 : decode cW_law 366 = .ok (.invokevirtual 82, 3) := by decide +kernel
theorem dW_law_369 : decode cW_law 369 = .ok (.aload_n 2, 1) := by decide +kernel
theorem dW_law_370 : decode cW_law 370 = .ok (.aload_n 0, 1) := by decide +kernel
theorem dW_law_371 : decode cW_law 371 = .ok (.iload 4, 2) := by decide +kernel
theorem dW_law_373 : decode cW_law 373 = .ok (.iconst 1, 1) := by decide +kernel
theorem dW_law_374 : decode cW_law 374 = .ok (.iadd, 1) := by decide +kernel
theorem dW_law_375 : decode cW_law 375 = .ok (.iaload, 1) := by decide +kernel
theorem dW_law_376 : decode cW_law 376 = .ok (.invokevirtual 85, 3) := by decide +kernel
theorem dW_law_379 : decode cW_law 379 = .ok (.if_icmp .eq 404, 3) := by decide +kernel
theorem dW_law_382 : decode cW_law 382 = .ok (.iconst 0, 1) := by decide +kernel
theorem dW_law_383 : decode cW_law 383 = .ok (.ireturn, 1) := by decide +kernel
theorem dW_law_384 : decode cW_law 384 = .ok (.aload_n 1, 1) := by decide +kernel
theorem dW_law_385 : decode cW_law 385 = .ok (.aload_n 0, 1) := by decide +kernel
theorem dW_law_386 : decode cW_law 386 = .ok (.iload 4, 2) := by decide +kernel
theorem dW_law_388 : decode cW_law 388 = .ok (.iconst 1, 1) := by decide +kernel
theorem dW_law_389 : decode cW_law 389 = .ok (.iadd, 1) := by decide +kernel
theorem dW_law_390 : decode cW_law 390 = .ok (.iaload, 1) := by decide +kernel
theorem dW_law_391 : decode cW_law 391 = .ok (.aload_n 0, 1) := by decide +kernel
theorem dW_law_392 : decode cW_law 392 = .ok (.iload 4, 2) := by decide +kernel
theorem dW_law_394 : decode cW_law 394 = .ok (.iconst 2, 1) := by decide +kernel
theorem dW_law_395 : decode cW_law 395 = .ok (.iadd, 1) := by decide +kernel
theorem dW_law_396 : decode cW_law 396 = .ok (.iaload, 1) := by decide +kernel
theorem dW_law_397 : decode cW_law 397 = .ok (.aload_n 3, 1) := by decide +kernel
theorem dW_law_398 : decode cW_law 398 = .ok (.invokestatic 86, 3) := by decide +kernel
theorem dW_law_401 : decode cW_law 401 = .ok (.istore 5, 2) := by decide +kernel
theorem dW_law_403 : decode cW_law 403 = .ok (.aload_n 2, 1) := by decide +kernel
theorem dW_law_404 : decode cW_law 404 = .ok (.aload_n 0, 1) := by decide +kernel
theorem dW_law_405 : decode cW_law 405 = .ok (.iload 4, 2) := by decide +kernel
theorem dW_law_407 : decode cW_law 407 = .ok (.iconst 1, 1) := by decide +kernel
theorem dW_law_408 : decode cW_law 408 = .ok (.iadd, 1) := by decide +kernel
theorem dW_law_409 : decode cW_law 409 = .ok (.iaload, 1) := by decide +kernel
theorem dW_law_410 : decode cW_law 410 = .ok (.aload_n 0, 1) := by decide +kernel
theorem dW_law_411 : decode cW_law 411 = .ok (.iload 4, 2) := by decide +kernel
theorem dW_law_413 : decode cW_law 413 = .ok (.iconst 2, 1) := by decide +kernel
theorem dW_law_414 : decode cW_law 414 = .ok (.iadd, 1) := by decide +kernel
theorem dW_law_415 : decode cW_law 415 = .ok (.iaload, 1) := by decide +kernel
theorem dW_law_416 : decode cW_law 416 = .ok (.invokevirtual 89, 3) := by decide +kernel
theorem dW_law_419 : decode cW_law 419 = .ok (.istore 6, 2) := by decide +kernel
theorem dW_law_421 : decode cW_law 421 = .ok (.aload_n 2, 1) := by decide +kernel
theorem dW_law_422 : decode cW_law 422 = .ok (.invokevirtual 58, 3) := by decide +kernel
theorem dW_law_425 : decode cW_law 425 = .ok (.iload 5, 2) := by decide +kernel
theorem dW_law_427 : decode cW_law 427 = .ok (.if_icmp .eq 5, 3) := by decide +kernel
theorem dW_law_430 : decode cW_law 430 = .ok (.iconst 0, 1) := by decide +kernel
theorem dW_law_431 : decode cW_law 431 = .ok (.ireturn, 1) := by decide +kernel
theorem dW_law_432 : decode cW_law 432 = .ok (.iload 5, 2) := by decide +kernel
theorem dW_law_434 : decode cW_law 434 = .ok (.ifCond .ne 15, 3) := by decide +kernel
theorem dW_law_437 : decode cW_law 437 = .ok (.aload_n 3, 1) := by decide +kernel
theorem dW_law_438 : decode cW_law 438 = .ok (.iconst 0, 1) := by decide +kernel
theorem dW_law_439 : decode cW_law 439 = .ok (.laload, 1) := by decide +kernel
theorem dW_law_440 : decode cW_law 440 = .ok (.iload 6, 2) := by decide +kernel
theorem dW_law_442 : decode cW_law 442 = .ok (.i2l, 1) := by decide +kernel
theorem dW_law_443 : decode cW_law 443 = .ok (.lcmp, 1) := by decide +kernel
theorem dW_law_444 : decode cW_law 444 = .ok (.ifCond .eq 5, 3) := by decide +kernel
theorem dW_law_447 : decode cW_law 447 = .ok (.iconst 0, 1) := by decide +kernel
theorem dW_law_448 : decode cW_law 448 = .ok (.ireturn, 1) := by decide +kernel
theorem dW_law_449 : decode cW_law 449 = .ok (.goto 334, 3) := by decide +kernel
theorem dW_law_452 : decode cW_law 452 = .ok (.aload_n 1, 1) := by decide +kernel
theorem dW_law_453 : decode cW_law 453 = .ok (.aload_n 0, 1) := by decide +kernel
theorem dW_law_454 : decode cW_law 454 = .ok (.iload 4, 2) := by decide +kernel
theorem dW_law_456 : decode cW_law 456 = .ok (.iconst 1, 1) := by decide +kernel
theorem dW_law_457 : decode cW_law 457 = .ok (.iadd, 1) := by decide +kernel
theorem dW_law_458 : decode cW_law 458 = .ok (.iaload, 1) := by decide +kernel
theorem dW_law_459 : decode cW_law 459 = .ok (.aload_n 3, 1) := by decide +kernel
theorem dW_law_460 : decode cW_law 460 = .ok (.invokestatic 90, 3) := by decide +kernel
theorem dW_law_463 : decode cW_law 463 = .ok (.istore 5, 2) := by decide +kernel
theorem dW_law_465 : decode cW_law 465 = .ok (.aload_n 2, 1) := by decide +kernel
theorem dW_law_466 : decode cW_law 466 = .ok (.aload_n 0, 1) := by decide +kernel
theorem dW_law_467 : decode cW_law 467 = .ok (.iload 4, 2) := by decide +kernel
theorem dW_law_469 : decode cW_law 469 = .ok (.iconst 1, 1) := by decide +kernel
theorem dW_law_470 : decode cW_law 470 = .ok (.iadd, 1) := by decide +kernel
theorem dW_law_471 : decode cW_law 471 = .ok (.iaload, 1) := by decide +kernel
theorem dW_law_472 : decode cW_law 472 = .ok (.invokevirtual 93, 3) := by decide +kernel
theorem dW_law_475 : decode cW_law 475 = .ok (.lstore 6, 2) := by decide +kernel
theorem dW_law_477 : decode cW_law 477 = .ok (.aload_n 2, 1) := by decide +kernel
theorem dW_law_478 : decode cW_law 478 = .ok (.invokevirtual 58, 3) := by decide +kernel
theorem dW_law_481 : decode cW_law 481 = .ok (.iload 5, 2) := by decide +kernel
theorem dW_law_483 : decode cW_law 483 = .ok (.if_icmp .eq 5, 3) := by decide +kernel
theorem dW_law_486 : decode cW_law 486 = .ok (.iconst 0, 1) := by decide +kernel
theorem dW_law_487 : decode cW_law 487 = .ok (.ireturn, 1) := by decide +kernel
theorem dW_law_488 : decode cW_law 488 = .ok (.iload 5, 2) := by decide +kernel
theorem dW_law_490 : decode cW_law 490 = .ok (.ifCond .ne 14, 3) := by decide +kernel
theorem dW_law_493 : decode cW_law 493 = .ok (.aload_n 3, 1) := by decide +kernel
theorem dW_law_494 : decode cW_law 494 = .ok (.iconst 0, 1) := by decide +kernel
theorem dW_law_495 : decode cW_law 495 = .ok (.laload, 1) := by decide +kernel
theorem dW_law_496 : decode cW_law 496 = .ok (.lload 6, 2) := by decide +kernel
theorem dW_law_498 : decode cW_law 498 = .ok (.lcmp, 1) := by decide +kernel
theorem dW_law_499 : decode cW_law 499 = .ok (.ifCond .eq 5, 3) := by decide +kernel
theorem dW_law_502 : decode cW_law 502 = .ok (.iconst 0, 1) := by decide +kernel
theorem dW_law_503 : decode cW_law 503 = .ok (.ireturn, 1) := by decide +kernel
theorem dW_law_504 : decode cW_law 504 = .ok (.goto 279, 3) := by decide +kernel
theorem dW_law_507 : decode cW_law 507 = .ok (.aload_n 1, 1) := by decide +kernel
theorem dW_law_508 : decode cW_law 508 = .ok (.aload_n 0, 1) := by decide +kernel
theorem dW_law_509 : decode cW_law 509 = .ok (.iload 4, 2) := by decide +kernel
theorem dW_law_511 : decode cW_law 511 = .ok (.iconst 1, 1) := by decide +kernel
theorem dW_law_512 : decode cW_law 512 = .ok (.iadd, 1) := by decide +kernel
theorem dW_law_513 : decode cW_law 513 = .ok (.iaload, 1) := by decide +kernel
theorem dW_law_514 : decode cW_law 514 = .ok (.aload_n 0, 1) := by decide +kernel
theorem dW_law_515 : decode cW_law 515 = .ok (.iload 4, 2) := by decide +kernel
theorem dW_law_517 : decode cW_law 517 = .ok (.iconst 2, 1) := by decide +kernel
theorem dW_law_518 : decode cW_law 518 = .ok (.iadd, 1) := by decide +kernel
theorem dW_law_519 : decode cW_law 519 = .ok (.iaload, 1) := by decide +kernel
theorem dW_law_520 : decode cW_law 520 = .ok (.aload_n 3, 1) := by decide +kernel
theorem dW_law_521 : decode cW_law 521 = .ok (.invokestatic 94, 3) := by decide +kernel
theorem dW_law_524 : decode cW_law 524 = .ok (.istore 5, 2) := by decide +kernel
theorem dW_law_526 : decode cW_law 526 = .ok (.aload_n 2, 1) := by decide +kernel
theorem dW_law_527 : decode cW_law 527 = .ok (.aload_n 0, 1) := by decide +kernel
theorem dW_law_528 : decode cW_law 528 = .ok (.iload 4, 2) := by decide +kernel
theorem dW_law_530 : decode cW_law 530 = .ok (.iconst 1, 1) := by decide +kernel
theorem dW_law_531 : decode cW_law 531 = .ok (.iadd, 1) := by decide +kernel
theorem dW_law_532 : decode cW_law 532 = .ok (.iaload, 1) := by decide +kernel
theorem dW_law_533 : decode cW_law 533 = .ok (.aload_n 0, 1) := by decide +kernel
theorem dW_law_534 : decode cW_law 534 = .ok (.iload 4, 2) := by decide +kernel
theorem dW_law_536 : decode cW_law 536 = .ok (.iconst 2, 1) := by decide +kernel
theorem dW_law_537 : decode cW_law 537 = .ok (.iadd, 1) := by decide +kernel
theorem dW_law_538 : decode cW_law 538 = .ok (.iaload, 1) := by decide +kernel
theorem dW_law_539 : decode cW_law 539 = .ok (.invokevirtual 96, 3) := by decide +kernel
theorem dW_law_542 : decode cW_law 542 = .ok (.istore 6, 2) := by decide +kernel
theorem dW_law_544 : decode cW_law 544 = .ok (.aload_n 2, 1) := by decide +kernel
theorem dW_law_545 : decode cW_law 545 = .ok (.invokevirtual 58, 3) := by decide +kernel
theorem dW_law_548 : decode cW_law 548 = .ok (.iload 5, 2) := by decide +kernel
theorem dW_law_550 : decode cW_law 550 = .ok (.if_icmp .eq 5, 3) := by decide +kernel
theorem dW_law_553 : decode cW_law 553 = .ok (.iconst 0, 1) := by decide +kernel
theorem dW_law_554 : decode cW_law 554 = .ok (.ireturn, 1) := by decide +kernel
theorem dW_law_555 : decode cW_law 555 = .ok (.iload 5, 2) := by decide +kernel
theorem dW_law_557 : decode cW_law 557 = .ok (.ifCond .ne 15, 3) := by decide +kernel
theorem dW_law_560 : decode cW_law 560 = .ok (.aload_n 3, 1) := by decide +kernel
theorem dW_law_561 : decode cW_law 561 = .ok (.iconst 0, 1) := by decide +kernel
theorem dW_law_562 : decode cW_law 562 = .ok (.laload, 1) := by decide +kernel
theorem dW_law_563 : decode cW_law 563 = .ok (.iload 6, 2) := by decide +kernel
theorem dW_law_565 : decode cW_law 565 = .ok (.i2l, 1) := by decide +kernel
theorem dW_law_566 : decode cW_law 566 = .ok (.lcmp, 1) := by decide +kernel
theorem dW_law_567 : decode cW_law 567 = .ok (.ifCond .eq 5, 3) := by decide +kernel
theorem dW_law_570 : decode cW_law 570 = .ok (.iconst 0, 1) := by decide +kernel
theorem dW_law_571 : decode cW_law 571 = .ok (.ireturn, 1) := by decide +kernel
theorem dW_law_572 : decode cW_law 572 = .ok (.goto 211, 3) := by decide +kernel
theorem dW_law_575 : decode cW_law 575 = .ok (.aload_n 1, 1) := by decide +kernel
end
section
/-! decode rows -/
theorem dW_law_576 : decode cW_law 576 = .ok (.aload_n 0, 1) := by decide +kernel
theorem dW_law_577 : decode cW_law 577 = .ok (.iload 4, 2) := by decide +kernel
theorem dW_law_579 : decode cW_law 579 = .ok (.iconst 1, 1) := by decide +kernel
theorem dW_law_580 : decode cW_law 580 = .ok (.iadd, 1) := by decide +kernel
theorem dW_law_581 : decode cW_law 581 = .ok (.iaload, 1) := by decide +kernel
theorem dW_law_582 : decode cW_law 582 = .ok (.aload_n 3, 1) := by decide +kernel
theorem dW_law_583 : decode cW_law 583 = .ok (.invokestatic 97, 3) := by decide +kernel
theorem dW_law_586 : decode cW_law 586 = .ok (.istore 5, 2) := by decide +kernel
theorem dW_law_588 : decode cW_law 588 = .ok (.aload_n 2, 1) := by decide +kernel
theorem dW_law_589 : decode cW_law 589 = .ok (.aload_n 0, 1) := by decide +kernel
theorem dW_law_590 : decode cW_law 590 = .ok (.iload 4, 2) := by decide +kernel
theorem dW_law_592 : decode cW_law 592 = .ok (.iconst 1, 1) := by decide +kernel
theorem dW_law_593 : decode cW_law 593 = .ok (.iadd, 1) := by decide +kernel
theorem dW_law_594 : decode cW_law 594 = .ok (.iaload, 1) := by decide +kernel
theorem dW_law_595 : decode cW_law 595 = .ok (.invokevirtual 99, 3) := by decide +kernel
theorem dW_law_598 : decode cW_law 598 = .ok (.istore 6, 2) := by decide +kernel
theorem dW_law_600 : decode cW_law 600 = .ok (.aload_n 2, 1) := by decide +kernel
theorem dW_law_601 : decode cW_law 601 = .ok (.invokevirtual 58, 3) := by decide +kernel
theorem dW_law_604 : decode cW_law 604 = .ok (.iload 5, 2) := by decide +kernel
theorem dW_law_606 : decode cW_law 606 = .ok (.if_icmp .eq 5, 3) := by decide +kernel
theorem dW_law_609 : decode cW_law 609 = .ok (.iconst 0, 1) := by decide +kernel
theorem dW_law_610 : decode cW_law 610 = .ok (.ireturn, 1) := by decide +kernel
theorem dW_law_611 : decode cW_law 611 = .ok (.iload 5, 2) := by decide +kernel
theorem dW_law_613 : decode cW_law 613 = .ok (.ifCond .ne 15, 3) := by decide +kernel
theorem dW_law_616 : decode cW_law 616 = .ok (.aload_n 3, 1) := by decide +kernel
theorem dW_law_617 : decode cW_law 617 = .ok (.iconst 0, 1) := by decide +kernel
theorem dW_law_618 : decode cW_law 618 = .ok (.laload, 1) := by decide +kernel
theorem dW_law_619 : decode cW_law 619 = .ok (.iload 6, 2) := by decide +kernel
theorem dW_law_621 : decode cW_law 621 = .ok (.i2l, 1) := by decide +kernel
theorem dW_law_622 : decode cW_law 622 = .ok (.lcmp, 1) := by decide +kernel
theorem dW_law_623 : decode cW_law 623 = .ok (.ifCond .eq 5, 3) := by decide +kernel
theorem dW_law_626 : decode cW_law 626 = .ok (.iconst 0, 1) := by decide +kernel
theorem dW_law_627 : decode cW_law 627 = .ok (.ireturn, 1) := by decide +kernel
theorem dW_law_628 : decode cW_law 628 = .ok (.goto 155, 3) := by decide +kernel
theorem dW_law_631 : decode cW_law 631 = .ok (.aload_n 1, 1) := by decide +kernel
theorem dW_law_632 : decode cW_law 632 = .ok (.aload_n 0, 1) := by decide +kernel
theorem dW_law_633 : decode cW_law 633 = .ok (.iload 4, 2) := by decide +kernel
theorem dW_law_635 : decode cW_law 635 = .ok (.iconst 1, 1) := by decide +kernel
theorem dW_law_636 : decode cW_law 636 = .ok (.iadd, 1) := by decide +kernel
theorem dW_law_637 : decode cW_law 637 = .ok (.iaload, 1) := by decide +kernel
theorem dW_law_638 : decode cW_law 638 = .ok (.aload_n 0, 1) := by decide +kernel
theorem dW_law_639 : decode cW_law 639 = .ok (.iload 4, 2) := by decide +kernel
theorem dW_law_641 : decode cW_law 641 = .ok (.iconst 2, 1) := by decide +kernel
theorem dW_law_642 : decode cW_law 642 = .ok (.iadd, 1) := by decide +kernel
theorem dW_law_643 : decode cW_law 643 = .ok (.iaload, 1) := by decide +kernel
theorem dW_law_644 : decode cW_law 644 = .ok (.aload_n 0, 1) := by decide +kernel
theorem dW_law_645 : decode cW_law 645 = .ok (.iload 4, 2) := by decide +kernel
theorem dW_law_647 : decode cW_law 647 = .ok (.iconst 3, 1) := by decide +kernel
theorem dW_law_648 : decode cW_law 648 = .ok (.iadd, 1) := by decide +kernel
theorem dW_law_649 : decode cW_law 649 = .ok (.iaload, 1) := by decide +kernel
theorem dW_law_650 : decode cW_law 650 = .ok (.ifCond .eq 7, 3) := by decide +kernel
theorem dW_law_653 : decode cW_law 653 = .ok (.iconst 1, 1) := by decide +kernel
theorem dW_law_654 : decode cW_law 654 = .ok (.goto 4, 3) := by decide +kernel
theorem dW_law_657 : decode cW_law 657 = .ok (.iconst 0, 1) := by decide +kernel
theorem dW_law_658 : decode cW_law 658 = .ok (.aload_n 3, 1) := by decide +kernel
theorem dW_law_659 : decode cW_law 659 = .ok (.invokestatic 100, 3) := by decide +kernel
theorem dW_law_662 : decode cW_law 662 = .ok (.istore 5, 2) := by decide +kernel
theorem dW_law_664 : decode cW_law 664 = .ok (.aload_n 2, 1) := by decide +kernel
theorem dW_law_665 : decode cW_law 665 = .ok (.aload_n 0, 1) := by decide +kernel
theorem dW_law_666 : decode cW_law 666 = .ok (.iload 4, 2) := by decide +kernel
theorem dW_law_668 : decode cW_law 668 = .ok (.iconst 1, 1) := by decide +kernel
theorem dW_law_669 : decode cW_law 669 = .ok (.iadd, 1) := by decide +kernel
theorem dW_law_670 : decode cW_law 670 = .ok (.iaload, 1) := by decide +kernel
theorem dW_law_671 : decode cW_law 671 = .ok (.aload_n 0, 1) := by decide +kernel
theorem dW_law_672 : decode cW_law 672 = .ok (.iload 4, 2) := by decide +kernel
theorem dW_law_674 : decode cW_law 674 = .ok (.iconst 2, 1) := by decide +kernel
theorem dW_law_675 : decode cW_law 675 = .ok (.iadd, 1) := by decide +kernel
theorem dW_law_676 : decode cW_law 676 = .ok (.iaload, 1) := by decide +kernel
theorem dW_law_677 : decode cW_law 677 = .ok (.aload_n 0, 1) := by decide +kernel
theorem dW_law_678 : decode cW_law 678 = .ok (.iload 4, 2) := by decide +kernel
theorem dW_law_680 : decode cW_law 680 = .ok (.iconst 3, 1) := by decide +kernel
theorem dW_law_681 : decode cW_law 681 = .ok (.iadd, 1) := by decide +kernel
theorem dW_law_682 : decode cW_law 682 = .ok (.iaload, 1) := by decide +kernel
theorem dW_law_683 : decode cW_law 683 = .ok (.ifCond .eq 7, 3) := by decide +kernel
theorem dW_law_686 : decode cW_law 686 = .ok (.iconst 1, 1) := by decide +kernel
theorem dW_law_687 : decode cW_law 687 = .ok (.goto 4, 3) := by decide +kernel
theorem dW_law_690 : decode cW_law 690 = .ok (.iconst 0, 1) := by decide +kernel
theorem dW_law_691 : decode cW_law 691 = .ok (.invokevirtual 102, 3) := by decide +kernel
theorem dW_law_694 : decode cW_law 694 = .ok (.istore 6, 2) := by decide +kernel
theorem dW_law_696 : decode cW_law 696 = .ok (.aload_n 2, 1) := by decide +kernel
theorem dW_law_697 : decode cW_law 697 = .ok (.invokevirtual 58, 3) := by decide +kernel
theorem dW_law_700 : decode cW_law 700 = .ok (.iload 5, 2) := by decide +kernel
theorem dW_law_702 : decode cW_law 702 = .ok (.if_icmp .eq 5, 3) := by decide +kernel
theorem dW_law_705 : decode cW_law 705 = .ok (.iconst 0, 1) := by decide +kernel
theorem dW_law_706 : decode cW_law 706 = .ok (.ireturn, 1) := by decide +kernel
theorem dW_law_707 : decode cW_law 707 = .ok (.iload 5, 2) := by decide +kernel
theorem dW_law_709 : decode cW_law 709 = .ok (.ifCond .ne 15, 3) := by decide +kernel
theorem dW_law_712 : decode cW_law 712 = .ok (.aload_n 3, 1) := by decide +kernel
theorem dW_law_713 : decode cW_law 713 = .ok (.iconst 0, 1) := by decide +kernel
theorem dW_law_714 : decode cW_law 714 = .ok (.laload, 1) := by decide +kernel
theorem dW_law_715 : decode cW_law 715 = .ok (.iload 6, 2) := by decide +kernel
theorem dW_law_717 : decode cW_law 717 = .ok (.i2l, 1) := by decide +kernel
theorem dW_law_718 : decode cW_law 718 = .ok (.lcmp, 1) := by decide +kernel
theorem dW_law_719 : decode cW_law 719 = .ok (.ifCond .eq 5, 3) := by decide +kernel
theorem dW_law_722 : decode cW_law 722 = .ok (.iconst 0, 1) := by decide +kernel
theorem dW_law_723 : decode cW_law 723 = .ok (.ireturn, 1) := by decide +kernel
theorem dW_law_724 : decode cW_law 724 = .ok (.goto 59, 3) := by decide +kernel
theorem dW_law_727 : decode cW_law 727 = .ok (.aload_n 1, 1) := by decide +kernel
theorem dW_law_728 : decode cW_law 728 = .ok (.aload_n 0, 1) := by decide +kernel
theorem dW_law_729 : decode cW_law 729 = .ok (.iload 4, 2) := by decide +kernel
theorem dW_law_731 : decode cW_law 731 = .ok (.iconst 1, 1) := by decide +kernel
theorem dW_law_732 : decode cW_law 732 = .ok (.iadd, 1) := by decide +kernel
theorem dW_law_733 : decode cW_law 733 = .ok (.iaload, 1) := by decide +kernel
theorem dW_law_734 : decode cW_law 734 = .ok (.aload_n 3, 1) := by decide +kernel
theorem dW_law_735 : decode cW_law 735 = .ok (.invokestatic 103, 3) := by decide +kernel
theorem dW_law_738 : decode cW_law 738 = .ok (.istore 5, 2) := by decide +kernel
theorem dW_law_740 : decode cW_law 740 = .ok (.aload_n 2, 1) := by decide +kernel
theorem dW_law_741 : decode cW_law 741 = .ok (.aload_n 0, 1) := by decide +kernel
theorem dW_law_742 : decode cW_law 742 = .ok (.iload 4, 2) := by decide +kernel
theorem dW_law_744 : decode cW_law 744 = .ok (.iconst 1, 1) := by decide +kernel
theorem dW_law_745 : decode cW_law 745 = .ok (.iadd, 1) := by decide +kernel
theorem dW_law_746 : decode cW_law 746 = .ok (.iaload, 1) := by decide +kernel
theorem dW_law_747 : decode cW_law 747 = .ok (.invokevirtual 105, 3) := by decide +kernel
theorem dW_law_750 : decode cW_law 750 = .ok (.istore 6, 2) := by decide +kernel
theorem dW_law_752 : decode cW_law 752 = .ok (.aload_n 2, 1) := by decide +kernel
theorem dW_law_753 : decode cW_law 753 = .ok (.invokevirtual 58, 3) := by decide +kernel
theorem dW_law_756 : decode cW_law 756 = .ok (.iload 5, 2) := by decide +kernel
theorem dW_law_758 : decode cW_law 758 = .ok (.if_icmp .eq 5, 3) := by decide +kernel
theorem dW_law_761 : decode cW_law 761 = .ok (.iconst 0, 1) := by decide +kernel
theorem dW_law_762 : decode cW_law 762 = .ok (.ireturn, 1) := by decide +kernel
theorem dW_law_763 : decode cW_law 763 = .ok (.iload 5, 2) := by decide +kernel
theorem dW_law_765 : decode cW_law 765 = .ok (.ifCond .ne 15, 3) := by decide +kernel
theorem dW_law_768 : decode cW_law 768 = .ok (.aload_n 3, 1) := by decide +kernel
theorem dW_law_769 : decode cW_law 769 = .ok (.iconst 0, 1) := by decide +kernel
theorem dW_law_770 : decode cW_law 770 = .ok (.laload, 1) := by decide +kernel
theorem dW_law_771 : decode cW_law 771 = .ok (.iload 6, 2) := by decide +kernel
theorem dW_law_773 : decode cW_law 773 = .ok (.i2l, 1) := by decide +kernel
theorem dW_law_774 : decode cW_law 774 = .ok (.lcmp, 1) := by decide +kernel
theorem dW_law_775 : decode cW_law 775 = .ok (.ifCond .eq 5, 3) := by decide +kernel
theorem dW_law_778 : decode cW_law 778 = .ok (.iconst 0, 1) := by decide +kernel
theorem dW_law_779 : decode cW_law 779 = .ok (.ireturn, 1) := by decide +kernel
theorem dW_law_780 : decode cW_law 780 = .ok (.goto 3, 3) := by decide +kernel
theorem dW_law_783 : decode cW_law 783 = .ok (.iinc 4 4, 3) := by decide +kernel
theorem dW_law_786 : decode cW_law 786 = .ok (.goto (-763), 3) := by decide +kernel
theorem dW_law_789 : decode cW_law 789 = .ok (.iconst 1, 1) := by decide +kernel
theorem dW_law_790 : decode cW_law 790 = .ok (.ireturn, 1) := by decide +kernel
end
section
/-! whole numbers as ints and longs: iI, lI; the arrays aI, aB, aL, aQ; rows over them -/
def iI (z : Int) : Int32 := Int32.ofInt z
def lI (z : Int) : Int64 := Int64.ofInt z
def bz (b : Bool) : Int := match b with | true => 1 | false => 0
theorem bz_t : bz true = 1 := rfl
theorem bz_f : bz false = 0 := rfl
theorem bz_in (b : Bool) : 0 ≤ bz b ∧ bz b ≤ 1 := by cases b <;> decide
theorem bz_eq {a b : Bool} : bz a = bz b ↔ a = b := by cases a <;> cases b <;> decide
theorem iI_toInt {z : Int} (h : -2147483648 ≤ z ∧ z ≤ 2147483647) : (iI z).toInt = z := by
  unfold iI
  exact Int32.toInt_ofInt_of_le (by omega) (by omega)
theorem lI_toInt {z : Int} (h : -9223372036854775808 ≤ z ∧ z ≤ 9223372036854775807) : (lI z).toInt = z := by
  unfold lI
  exact Int64.toInt_ofInt_of_le (by omega) (by omega)
theorem iI_add (a b : Int) : iI a + iI b = iI (a + b) := by unfold iI; rw [Int32.ofInt_add]
theorem iI_sub (a b : Int) : iI a - iI b = iI (a - b) := by unfold iI; rw [Int32.ofInt_sub]
theorem iI_mul (a b : Int) : iI a * iI b = iI (a * b) := by unfold iI; rw [Int32.ofInt_mul]
theorem iI_neg (a : Int) : -iI a = iI (-a) := by unfold iI; rw [Int32.ofInt_neg]
theorem lI_add (a b : Int) : lI a + lI b = lI (a + b) := by unfold lI; rw [Int64.ofInt_add]
theorem lI_sub (a b : Int) : lI a - lI b = lI (a - b) := by unfold lI; rw [Int64.ofInt_sub]
theorem lI_mul (a b : Int) : lI a * lI b = lI (a * b) := by unfold lI; rw [Int64.ofInt_mul]
theorem lI_neg (a : Int) : -lI a = lI (-a) := by unfold lI; rw [Int64.ofInt_neg]
theorem iI_lt {a b : Int} (ha : -2147483648 ≤ a ∧ a ≤ 2147483647) (hb : -2147483648 ≤ b ∧ b ≤ 2147483647) : iI a < iI b ↔ a < b := by
  rw [Int32.lt_iff_toInt_lt, iI_toInt ha, iI_toInt hb]
theorem iI_le {a b : Int} (ha : -2147483648 ≤ a ∧ a ≤ 2147483647) (hb : -2147483648 ≤ b ∧ b ≤ 2147483647) : iI a ≤ iI b ↔ a ≤ b := by
  rw [Int32.le_iff_toInt_le, iI_toInt ha, iI_toInt hb]
theorem iI_eq {a b : Int} (ha : -2147483648 ≤ a ∧ a ≤ 2147483647) (hb : -2147483648 ≤ b ∧ b ≤ 2147483647) : iI a = iI b ↔ a = b :=
  ⟨fun h => by have h2 := congrArg Int32.toInt h; rwa [iI_toInt ha, iI_toInt hb] at h2, fun h => by rw [h]⟩
theorem lI_lt {a b : Int} (ha : -9223372036854775808 ≤ a ∧ a ≤ 9223372036854775807) (hb : -9223372036854775808 ≤ b ∧ b ≤ 9223372036854775807) : lI a < lI b ↔ a < b := by
  rw [Int64.lt_iff_toInt_lt, lI_toInt ha, lI_toInt hb]
theorem lI_eq {a b : Int} (ha : -9223372036854775808 ≤ a ∧ a ≤ 9223372036854775807) (hb : -9223372036854775808 ≤ b ∧ b ≤ 9223372036854775807) : lI a = lI b ↔ a = b :=
  ⟨fun h => by have h2 := congrArg Int64.toInt h; rwa [lI_toInt ha, lI_toInt hb] at h2, fun h => by rw [h]⟩
theorem iI_of (x : Int32) : ∃ z : Int, (-2147483648 ≤ z ∧ z ≤ 2147483647) ∧ x = iI z :=
  ⟨x.toInt, ⟨by have := Int32.le_toInt x; omega, by have := Int32.toInt_lt x; omega⟩, by unfold iI; rw [Int32.ofInt_toInt]⟩
theorem lI_of (x : Int64) : ∃ z : Int, (-9223372036854775808 ≤ z ∧ z ≤ 9223372036854775807) ∧ x = lI z :=
  ⟨x.toInt, ⟨by have := Int64.le_toInt x; omega, by have := Int64.toInt_lt x; omega⟩, by unfold lI; rw [Int64.ofInt_toInt]⟩
theorem iI_l {z : Int} (h : -2147483648 ≤ z ∧ z ≤ 2147483647) : (iI z).toInt64 = lI z :=
  Int64.toInt_inj.mp (by rw [Int32.toInt_toInt64, iI_toInt h, lI_toInt (by omega)])
theorem lI_i {z : Int} (h : -2147483648 ≤ z ∧ z ≤ 2147483647) : (lI z).toInt32 = iI z := by
  rw [← iI_l h, Int32.toInt32_toInt64]
theorem iI_n {z : Int} (h : 0 ≤ z ∧ z ≤ 2147483647) : (iI z).toNatClampNeg = z.toNat := by
  show (iI z).toInt.toNat = z.toNat
  rw [iI_toInt (by omega)]
theorem iI_nI (n : Nat) : nI n = iI (n : Int) := by unfold nI iI; rw [Int32.ofInt_eq_ofNat]
theorem xi_in {z : Int} {n : Nat} (hn : n ≤ 2147483647) (h : 0 ≤ z ∧ z < (n : Int)) : vp_in (iI z) n :=
  vp_in_iff.mpr (by rw [iI_toInt (by omega)]; exact h)
theorem iI_div {a b : Int} (ha : 0 ≤ a ∧ a ≤ 2147483647) (hb : 0 < b ∧ b ≤ 2147483647) : iI a / iI b = iI (a / b) := by
  apply Int32.toInt_inj.mp
  have h0 : 0 ≤ a / b := Int.ediv_nonneg ha.1 (by omega)
  have h1 : a / b ≤ a := Int.ediv_le_self _ ha.1
  rw [Int32.toInt_div_of_ne_right _ _ (fun h => by have h2 := congrArg Int32.toInt h; rw [iI_toInt (by omega)] at h2; have h3 : (-1 : Int32).toInt = -1 := by decide +kernel
                                                   omega), iI_toInt (by omega), iI_toInt (by omega), iI_toInt (by omega), Int.tdiv_eq_ediv_of_nonneg ha.1]
theorem lI_div {a b : Int} (ha : 0 ≤ a ∧ a ≤ 9223372036854775807) (hb : 0 < b ∧ b ≤ 9223372036854775807) : lI a / lI b = lI (a / b) := by
  apply Int64.toInt_inj.mp
  have h0 : 0 ≤ a / b := Int.ediv_nonneg ha.1 (by omega)
  have h1 : a / b ≤ a := Int.ediv_le_self _ ha.1
  rw [Int64.toInt_div_of_ne_right _ _ (fun h => by have h2 := congrArg Int64.toInt h; rw [lI_toInt (by omega)] at h2; have h3 : (-1 : Int64).toInt = -1 := by decide +kernel
                                                   omega), lI_toInt (by omega), lI_toInt (by omega), lI_toInt (by omega), Int.tdiv_eq_ediv_of_nonneg ha.1]
/-! arrays -/
def aI (F : Int → Int) : Nat → Int32 := fun k => iI (F (k : Int))
def aL (F : Int → Int) : Nat → Int64 := fun k => lI (F (k : Int))
def aB (B : Int → Bool) : Nat → Int32 := fun k => iI (bz (B (k : Int)))
def aQ (G : Int → Option Nat) : Nat → Option Nat := fun k => G (k : Int)
def up {α : Type} (F : Int → α) (z : Int) (v : α) : Int → α := fun k => if k = z then v else F k
theorem up_s {α : Type} (F : Int → α) (z : Int) (v : α) : up F z v z = v := by simp [up]
theorem up_n {α : Type} (F : Int → α) {z k : Int} (v : α) (h : k ≠ z) : up F z v k = F k := by simp [up, h]
theorem aI_at (F : Int → Int) {z : Int} (h : 0 ≤ z ∧ z ≤ 2147483647) : aI F (iI z).toNatClampNeg = iI (F z) := by
  unfold aI; rw [iI_n h, Int.toNat_of_nonneg h.1]
theorem aL_at (F : Int → Int) {z : Int} (h : 0 ≤ z ∧ z ≤ 2147483647) : aL F (iI z).toNatClampNeg = lI (F z) := by
  unfold aL; rw [iI_n h, Int.toNat_of_nonneg h.1]
theorem aB_at (F : Int → Bool) {z : Int} (h : 0 ≤ z ∧ z ≤ 2147483647) : aB F (iI z).toNatClampNeg = iI (bz (F z)) := by
  unfold aB; rw [iI_n h, Int.toNat_of_nonneg h.1]
theorem aQ_at (F : Int → Option Nat) {z : Int} (h : 0 ≤ z ∧ z ≤ 2147483647) : aQ F (iI z).toNatClampNeg = F z := by
  unfold aQ; rw [iI_n h, Int.toNat_of_nonneg h.1]
theorem xi_same {z : Int} (h : 0 ≤ z ∧ z ≤ 2147483647) (k : Nat) : k = (iI z).toNatClampNeg ↔ (k : Int) = z := by
  rw [iI_n h]; omega
theorem aI_up (F : Int → Int) {z : Int} (v : Int) (h : 0 ≤ z ∧ z ≤ 2147483647) : upd (aI F) (iI z).toNatClampNeg (iI v) = aI (up F z v) := by
  funext k
  unfold upd aI up
  by_cases hk : k = (iI z).toNatClampNeg
  · rw [if_pos hk, if_pos ((xi_same h k).mp hk)]
  · rw [if_neg hk, if_neg (fun q => hk ((xi_same h k).mpr q))]
theorem aL_up (F : Int → Int) {z : Int} (v : Int) (h : 0 ≤ z ∧ z ≤ 2147483647) : vp_updL (aL F) (iI z).toNatClampNeg (lI v) = aL (up F z v) := by
  funext k
  unfold vp_updL aL up
  by_cases hk : k = (iI z).toNatClampNeg
  · rw [if_pos hk, if_pos ((xi_same h k).mp hk)]
  · rw [if_neg hk, if_neg (fun q => hk ((xi_same h k).mpr q))]
theorem xi_narZ (b : Bool) : vp_nar .boolean (iI (bz b)) = iI (bz b) := by cases b <;> decide +kernel
theorem xi_narZ2 (b : Bool) : narrow .boolean (.int (iI (bz b))) = .int (iI (bz b)) := by cases b <;> decide +kernel
theorem xi_fitZ (b : Bool) : fits .boolean (.int (iI (bz b))) = true := by cases b <;> decide +kernel
theorem aB_up (F : Int → Bool) {z : Int} (v : Bool) (h : 0 ≤ z ∧ z ≤ 2147483647) : upd (aB F) (iI z).toNatClampNeg (vp_nar .boolean (iI (bz v))) = aB (up F z v) := by
  funext k
  rw [xi_narZ]
  unfold upd aB up
  by_cases hk : k = (iI z).toNatClampNeg
  · rw [if_pos hk, if_pos ((xi_same h k).mp hk)]
  · rw [if_neg hk, if_neg (fun q => hk ((xi_same h k).mpr q))]
theorem aQ_up (F : Int → Option Nat) {z : Int} (v : Option Nat) (h : 0 ≤ z ∧ z ≤ 2147483647) : va_up (aQ F) (iI z).toNatClampNeg v = aQ (up F z v) := by
  funext k
  unfold va_up aQ up
  by_cases hk : k = (iI z).toNatClampNeg
  · rw [if_pos hk, if_pos ((xi_same h k).mp hk)]
  · rw [if_neg hk, if_neg (fun q => hk ((xi_same h k).mpr q))]
theorem aI_0 : (fun _ => 0 : Nat → Int32) = aI (fun _ => 0) := by funext k; rfl
theorem aL_0 : (fun _ => 0 : Nat → Int64) = aL (fun _ => 0) := by funext k; rfl
theorem aB_0 : (fun _ => 0 : Nat → Int32) = aB (fun _ => false) := by funext k; rfl
theorem aQ_0 : (fun _ => none : Nat → Option Nat) = aQ (fun _ => none) := by funext k; rfl
/-! rows -/
section XI
variable {p : Program} {l : Launch} {e : Env} {R : Room} {s : State} {m : MethodId} {args : Array Value} {below : List Frame} {meth : Method} {c : Code} {H : Heap} {locs : List Loc} {cells slots : Nat} {Q : State → Prop}
variable {cc : ByteArray} {pc : Nat} {ls : Array Slot} {rest : List Value}
theorem x_name {g : JFrame} (k : ∀ (R' : Room) (Q' : State → Prop) (H' : Heap) (locs' : List Loc), R' = R → Q' = Q → H' = H → locs' = locs → W p l e R' s m args below meth c H' locs' cells slots Q' g) : W p l e R s m args below meth c H locs cells slots Q g := k R Q H locs rfl rfl rfl rfl
theorem x_entry {vs : List Value} {n : Nat} (ha : args = vs.toArray) (hn : (lg_sl vs).length ≤ n) (k : ∀ ls : Array Slot, lv_has ls n (lv_args 0 vs) → W p l e R s m args below meth c H locs cells slots Q (F0 m 0 ls [])) : W p l e R s m args below meth c H locs cells slots Q (entryFrame m args n) := by
  refine W.eq (g2 := F0 m 0 ((lg_sl vs ++ List.replicate (n - (lg_sl vs).length) Slot.unset).toArray) []) (by rw [ha]; exact lg_entry_eq m vs n) ?_
  exact k _ (lv_entry vs hn)
theorem xi_top {x y : Value} (h : x = y) (k : W p l e R s m args below meth c H locs cells slots Q (F0 m pc ls (y :: rest))) : W p l e R s m args below meth c H locs cells slots Q (F0 m pc ls (x :: rest)) := by
  rw [h]; exact k
theorem xi_iconst (hexec : p.tables.exec = Jvm.exec) (hb : c.code = cc) {n : Int} (hdg : decode cc pc = .ok (.iconst n, 1))
    (k : W p l e R s m args below meth c H locs cells slots Q (F0 m (pc + 1) ls (.int (iI n) :: rest))) : W p l e R s m args below meth c H locs cells slots Q (F0 m pc ls rest) := lv_iconst hexec hb hdg rfl k
theorem xi_add (hexec : p.tables.exec = Jvm.exec) (hb : c.code = cc) {a b z : Int} (hdg : decode cc pc = .ok (.iadd, 1)) (hz : a + b = z)
    (k : W p l e R s m args below meth c H locs cells slots Q (F0 m (pc + 1) ls (.int (iI z) :: rest))) : W p l e R s m args below meth c H locs cells slots Q (F0 m pc ls (.int (iI b) :: .int (iI a) :: rest)) :=
  lv_iadd hexec hb hdg (by rw [iI_add, hz]; exact k)
theorem xi_sub (hexec : p.tables.exec = Jvm.exec) (hb : c.code = cc) {a b z : Int} (hdg : decode cc pc = .ok (.isub, 1)) (hz : a - b = z)
    (k : W p l e R s m args below meth c H locs cells slots Q (F0 m (pc + 1) ls (.int (iI z) :: rest))) : W p l e R s m args below meth c H locs cells slots Q (F0 m pc ls (.int (iI b) :: .int (iI a) :: rest)) :=
  lv_isub hexec hb hdg (by rw [iI_sub, hz]; exact k)
theorem xi_mul (hexec : p.tables.exec = Jvm.exec) (hb : c.code = cc) {a b z : Int} (hdg : decode cc pc = .ok (.imul, 1)) (hz : a * b = z)
    (k : W p l e R s m args below meth c H locs cells slots Q (F0 m (pc + 1) ls (.int (iI z) :: rest))) : W p l e R s m args below meth c H locs cells slots Q (F0 m pc ls (.int (iI b) :: .int (iI a) :: rest)) :=
  lv_imul hexec hb hdg (by rw [iI_mul, hz]; exact k)
theorem xi_neg (hexec : p.tables.exec = Jvm.exec) (hb : c.code = cc) {a z : Int} (hdg : decode cc pc = .ok (.ineg, 1)) (hz : -a = z)
    (k : W p l e R s m args below meth c H locs cells slots Q (F0 m (pc + 1) ls (.int (iI z) :: rest))) : W p l e R s m args below meth c H locs cells slots Q (F0 m pc ls (.int (iI a) :: rest)) :=
  lv_ineg hexec hb hdg (by rw [iI_neg, hz]; exact k)
theorem xi_div (hexec : p.tables.exec = Jvm.exec) (hb : c.code = cc) {a b z : Int} (hdg : decode cc pc = .ok (.idiv, 1)) (ha : 0 ≤ a ∧ a ≤ 2147483647) (hb0 : 0 < b ∧ b ≤ 2147483647) (hz : a / b = z)
    (k : W p l e R s m args below meth c H locs cells slots Q (F0 m (pc + 1) ls (.int (iI z) :: rest))) : W p l e R s m args below meth c H locs cells slots Q (F0 m pc ls (.int (iI b) :: .int (iI a) :: rest)) :=
  lv_idiv hexec hb hdg (fun h => by have h2 := (iI_eq (b := 0) (by omega) (by omega)).mp h; omega) (by rw [iI_div ha hb0, hz]; exact k)
theorem xi_iinc (hexec : p.tables.exec = Jvm.exec) (hb : c.code = cc) {i nL k : Nat} {n a z : Int} {lv lv' : List (Nat × Value)} (hdg : decode cc pc = .ok (.iinc i n, 3)) (h : lv_has ls nL lv) (hk : lv[k]? = some (i, .int (iI a))) (hz : a + n = z) (hn : i < nL) (hl : (i, Value.int (iI z)) :: lv.filter (fun q => !(q.1 == i) && !(q.1 + 1 == i && q.2.category == 2)) = lv')
    (kk : ∀ ls : Array Slot, lv_has ls nL lv' → W p l e R s m args below meth c H locs cells slots Q (F0 m (pc + 3) ls rest)) : W p l e R s m args below meth c H locs cells slots Q (F0 m pc ls rest) :=
  lv_iinc (v := iI z) hexec hb hdg h hk (by rw [← hz, ← iI_add]; rfl) hn hl kk
theorem xl_add (hexec : p.tables.exec = Jvm.exec) (hb : c.code = cc) {a b z : Int} (hdg : decode cc pc = .ok (.ladd, 1)) (hz : a + b = z)
    (k : W p l e R s m args below meth c H locs cells slots Q (F0 m (pc + 1) ls (.long (lI z) :: rest))) : W p l e R s m args below meth c H locs cells slots Q (F0 m pc ls (.long (lI b) :: .long (lI a) :: rest)) :=
  lv_ladd hexec hb hdg (by rw [lI_add, hz]; exact k)
theorem xl_sub (hexec : p.tables.exec = Jvm.exec) (hb : c.code = cc) {a b z : Int} (hdg : decode cc pc = .ok (.lsub, 1)) (hz : a - b = z)
    (k : W p l e R s m args below meth c H locs cells slots Q (F0 m (pc + 1) ls (.long (lI z) :: rest))) : W p l e R s m args below meth c H locs cells slots Q (F0 m pc ls (.long (lI b) :: .long (lI a) :: rest)) :=
  lv_lsub hexec hb hdg (by rw [lI_sub, hz]; exact k)
theorem xl_mul (hexec : p.tables.exec = Jvm.exec) (hb : c.code = cc) {a b z : Int} (hdg : decode cc pc = .ok (.lmul, 1)) (hz : a * b = z)
    (k : W p l e R s m args below meth c H locs cells slots Q (F0 m (pc + 1) ls (.long (lI z) :: rest))) : W p l e R s m args below meth c H locs cells slots Q (F0 m pc ls (.long (lI b) :: .long (lI a) :: rest)) :=
  lv_lmul hexec hb hdg (by rw [lI_mul, hz]; exact k)
theorem xl_neg (hexec : p.tables.exec = Jvm.exec) (hb : c.code = cc) {a z : Int} (hdg : decode cc pc = .ok (.lneg, 1)) (hz : -a = z)
    (k : W p l e R s m args below meth c H locs cells slots Q (F0 m (pc + 1) ls (.long (lI z) :: rest))) : W p l e R s m args below meth c H locs cells slots Q (F0 m pc ls (.long (lI a) :: rest)) :=
  lv_lneg hexec hb hdg (by rw [lI_neg, hz]; exact k)
theorem xl_div (hexec : p.tables.exec = Jvm.exec) (hb : c.code = cc) {a b z : Int} (hdg : decode cc pc = .ok (.ldiv, 1)) (ha : 0 ≤ a ∧ a ≤ 9223372036854775807) (hb0 : 0 < b ∧ b ≤ 9223372036854775807) (hz : a / b = z)
    (k : W p l e R s m args below meth c H locs cells slots Q (F0 m (pc + 1) ls (.long (lI z) :: rest))) : W p l e R s m args below meth c H locs cells slots Q (F0 m pc ls (.long (lI b) :: .long (lI a) :: rest)) :=
  lv_ldiv hexec hb hdg (fun h => by have h2 := (lI_eq (b := 0) (by omega) (by omega)).mp h; omega) (by rw [lI_div ha hb0, hz]; exact k)
theorem xl_rem (hexec : p.tables.exec = Jvm.exec) (hb : c.code = cc) {a b z : Int} (hdg : decode cc pc = .ok (.lrem, 1)) (ha : 0 ≤ a ∧ a ≤ 9223372036854775807) (hb0 : 0 < b ∧ b ≤ 9223372036854775807) (hz : a % b = z)
    (k : W p l e R s m args below meth c H locs cells slots Q (F0 m (pc + 1) ls (.long (lI z) :: rest))) : W p l e R s m args below meth c H locs cells slots Q (F0 m pc ls (.long (lI b) :: .long (lI a) :: rest)) :=
  lv_lrem hexec hb hdg (fun h => by have h2 := (lI_eq (b := 0) (by omega) (by omega)).mp h; omega) (by
    rw [lI_div ha hb0, lI_mul, lI_sub]
    have h3 : a - a / b * b = z := by rw [← hz, Int.emod_def, Int.mul_comm]
    rw [h3]; exact k)
theorem xl_i2l (hexec : p.tables.exec = Jvm.exec) (hb : c.code = cc) {a : Int} (hdg : decode cc pc = .ok (.i2l, 1)) (ha : -2147483648 ≤ a ∧ a ≤ 2147483647)
    (k : W p l e R s m args below meth c H locs cells slots Q (F0 m (pc + 1) ls (.long (lI a) :: rest))) : W p l e R s m args below meth c H locs cells slots Q (F0 m pc ls (.int (iI a) :: rest)) :=
  lv_i2l hexec hb hdg (iI_l ha) k
theorem xl_l2i (hexec : p.tables.exec = Jvm.exec) (hb : c.code = cc) {a : Int} (hdg : decode cc pc = .ok (.l2i, 1)) (ha : -2147483648 ≤ a ∧ a ≤ 2147483647)
    (k : W p l e R s m args below meth c H locs cells slots Q (F0 m (pc + 1) ls (.int (iI a) :: rest))) : W p l e R s m args below meth c H locs cells slots Q (F0 m pc ls (.long (lI a) :: rest)) :=
  lv_l2i hexec hb hdg (lI_i ha) k
theorem xi_icmp_lt (hexec : p.tables.exec = Jvm.exec) (hb : c.code = cc) {a b : Int} {off : Int} {tgt : Nat} (hdg : decode cc pc = .ok (.if_icmp .lt off, 3)) (ht : (pc : Int) + off = (tgt : Int)) (h1 : -2147483648 ≤ a ∧ a ≤ 2147483647) (h2 : -2147483648 ≤ b ∧ b ≤ 2147483647)
    (kt : a < b → W p l e R s m args below meth c H locs cells slots Q (F0 m tgt ls rest)) (kf : b ≤ a → W p l e R s m args below meth c H locs cells slots Q (F0 m (pc + 3) ls rest)) : W p l e R s m args below meth c H locs cells slots Q (F0 m pc ls (.int (iI b) :: .int (iI a) :: rest)) :=
  lv_icmp_lt hexec hb hdg ht (fun h => kt ((iI_lt h1 h2).mp h)) (fun h => kf (by rw [iI_lt h1 h2] at h; omega))
theorem xi_icmp_ge (hexec : p.tables.exec = Jvm.exec) (hb : c.code = cc) {a b : Int} {off : Int} {tgt : Nat} (hdg : decode cc pc = .ok (.if_icmp .ge off, 3)) (ht : (pc : Int) + off = (tgt : Int)) (h1 : -2147483648 ≤ a ∧ a ≤ 2147483647) (h2 : -2147483648 ≤ b ∧ b ≤ 2147483647)
    (kt : b ≤ a → W p l e R s m args below meth c H locs cells slots Q (F0 m tgt ls rest)) (kf : a < b → W p l e R s m args below meth c H locs cells slots Q (F0 m (pc + 3) ls rest)) : W p l e R s m args below meth c H locs cells slots Q (F0 m pc ls (.int (iI b) :: .int (iI a) :: rest)) :=
  lv_icmp_ge hexec hb hdg ht (fun h => kt ((iI_le h2 h1).mp h)) (fun h => kf (by rw [iI_le h2 h1] at h; omega))
theorem xi_icmp_gt (hexec : p.tables.exec = Jvm.exec) (hb : c.code = cc) {a b : Int} {off : Int} {tgt : Nat} (hdg : decode cc pc = .ok (.if_icmp .gt off, 3)) (ht : (pc : Int) + off = (tgt : Int)) (h1 : -2147483648 ≤ a ∧ a ≤ 2147483647) (h2 : -2147483648 ≤ b ∧ b ≤ 2147483647)
    (kt : b < a → W p l e R s m args below meth c H locs cells slots Q (F0 m tgt ls rest)) (kf : a ≤ b → W p l e R s m args below meth c H locs cells slots Q (F0 m (pc + 3) ls rest)) : W p l e R s m args below meth c H locs cells slots Q (F0 m pc ls (.int (iI b) :: .int (iI a) :: rest)) :=
  lv_icmp_gt hexec hb hdg ht (fun h => kt ((iI_lt h2 h1).mp h)) (fun h => kf (by rw [iI_lt h2 h1] at h; omega))
theorem xi_icmp_le (hexec : p.tables.exec = Jvm.exec) (hb : c.code = cc) {a b : Int} {off : Int} {tgt : Nat} (hdg : decode cc pc = .ok (.if_icmp .le off, 3)) (ht : (pc : Int) + off = (tgt : Int)) (h1 : -2147483648 ≤ a ∧ a ≤ 2147483647) (h2 : -2147483648 ≤ b ∧ b ≤ 2147483647)
    (kt : a ≤ b → W p l e R s m args below meth c H locs cells slots Q (F0 m tgt ls rest)) (kf : b < a → W p l e R s m args below meth c H locs cells slots Q (F0 m (pc + 3) ls rest)) : W p l e R s m args below meth c H locs cells slots Q (F0 m pc ls (.int (iI b) :: .int (iI a) :: rest)) :=
  lv_icmp_le hexec hb hdg ht (fun h => kt ((iI_le h1 h2).mp h)) (fun h => kf (by rw [iI_le h1 h2] at h; omega))
theorem xi_icmp_eq (hexec : p.tables.exec = Jvm.exec) (hb : c.code = cc) {a b : Int} {off : Int} {tgt : Nat} (hdg : decode cc pc = .ok (.if_icmp .eq off, 3)) (ht : (pc : Int) + off = (tgt : Int)) (h1 : -2147483648 ≤ a ∧ a ≤ 2147483647) (h2 : -2147483648 ≤ b ∧ b ≤ 2147483647)
    (kt : a = b → W p l e R s m args below meth c H locs cells slots Q (F0 m tgt ls rest)) (kf : a ≠ b → W p l e R s m args below meth c H locs cells slots Q (F0 m (pc + 3) ls rest)) : W p l e R s m args below meth c H locs cells slots Q (F0 m pc ls (.int (iI b) :: .int (iI a) :: rest)) :=
  lv_icmp_eq hexec hb hdg ht (fun h => kt ((iI_eq h1 h2).mp h)) (fun h => kf (fun q => h ((iI_eq h1 h2).mpr q)))
theorem xi_icmp_ne (hexec : p.tables.exec = Jvm.exec) (hb : c.code = cc) {a b : Int} {off : Int} {tgt : Nat} (hdg : decode cc pc = .ok (.if_icmp .ne off, 3)) (ht : (pc : Int) + off = (tgt : Int)) (h1 : -2147483648 ≤ a ∧ a ≤ 2147483647) (h2 : -2147483648 ≤ b ∧ b ≤ 2147483647)
    (kt : a ≠ b → W p l e R s m args below meth c H locs cells slots Q (F0 m tgt ls rest)) (kf : a = b → W p l e R s m args below meth c H locs cells slots Q (F0 m (pc + 3) ls rest)) : W p l e R s m args below meth c H locs cells slots Q (F0 m pc ls (.int (iI b) :: .int (iI a) :: rest)) :=
  lv_icmp_ne hexec hb hdg ht (fun h => kt (fun q => h ((iI_eq h1 h2).mpr q))) (fun h => kf ((iI_eq h1 h2).mp h))
theorem xi_if_lt (hexec : p.tables.exec = Jvm.exec) (hb : c.code = cc) {a : Int} {off : Int} {tgt : Nat} (hdg : decode cc pc = .ok (.ifCond .lt off, 3)) (ht : (pc : Int) + off = (tgt : Int)) (h1 : -2147483648 ≤ a ∧ a ≤ 2147483647)
    (kt : a < 0 → W p l e R s m args below meth c H locs cells slots Q (F0 m tgt ls rest)) (kf : 0 ≤ a → W p l e R s m args below meth c H locs cells slots Q (F0 m (pc + 3) ls rest)) : W p l e R s m args below meth c H locs cells slots Q (F0 m pc ls (.int (iI a) :: rest)) :=
  lv_if_lt hexec hb hdg ht (fun h => kt ((iI_lt (b := 0) h1 (by omega)).mp h)) (fun h => kf (by have h9 := mt (iI_lt (b := 0) h1 (by omega)).mpr h; omega))
theorem xi_if_ge (hexec : p.tables.exec = Jvm.exec) (hb : c.code = cc) {a : Int} {off : Int} {tgt : Nat} (hdg : decode cc pc = .ok (.ifCond .ge off, 3)) (ht : (pc : Int) + off = (tgt : Int)) (h1 : -2147483648 ≤ a ∧ a ≤ 2147483647)
    (kt : 0 ≤ a → W p l e R s m args below meth c H locs cells slots Q (F0 m tgt ls rest)) (kf : a < 0 → W p l e R s m args below meth c H locs cells slots Q (F0 m (pc + 3) ls rest)) : W p l e R s m args below meth c H locs cells slots Q (F0 m pc ls (.int (iI a) :: rest)) :=
  lv_if_ge hexec hb hdg ht (fun h => kt ((iI_le (a := 0) (by omega) h1).mp h)) (fun h => kf (by have h9 := mt (iI_le (a := 0) (by omega) h1).mpr h; omega))
theorem xi_if_gt (hexec : p.tables.exec = Jvm.exec) (hb : c.code = cc) {a : Int} {off : Int} {tgt : Nat} (hdg : decode cc pc = .ok (.ifCond .gt off, 3)) (ht : (pc : Int) + off = (tgt : Int)) (h1 : -2147483648 ≤ a ∧ a ≤ 2147483647)
    (kt : 0 < a → W p l e R s m args below meth c H locs cells slots Q (F0 m tgt ls rest)) (kf : a ≤ 0 → W p l e R s m args below meth c H locs cells slots Q (F0 m (pc + 3) ls rest)) : W p l e R s m args below meth c H locs cells slots Q (F0 m pc ls (.int (iI a) :: rest)) :=
  lv_if_gt hexec hb hdg ht (fun h => kt ((iI_lt (a := 0) (by omega) h1).mp h)) (fun h => kf (by have h9 := mt (iI_lt (a := 0) (by omega) h1).mpr h; omega))
theorem xi_if_le (hexec : p.tables.exec = Jvm.exec) (hb : c.code = cc) {a : Int} {off : Int} {tgt : Nat} (hdg : decode cc pc = .ok (.ifCond .le off, 3)) (ht : (pc : Int) + off = (tgt : Int)) (h1 : -2147483648 ≤ a ∧ a ≤ 2147483647)
    (kt : a ≤ 0 → W p l e R s m args below meth c H locs cells slots Q (F0 m tgt ls rest)) (kf : 0 < a → W p l e R s m args below meth c H locs cells slots Q (F0 m (pc + 3) ls rest)) : W p l e R s m args below meth c H locs cells slots Q (F0 m pc ls (.int (iI a) :: rest)) :=
  lv_if_le hexec hb hdg ht (fun h => kt ((iI_le (b := 0) h1 (by omega)).mp h)) (fun h => kf (by have h9 := mt (iI_le (b := 0) h1 (by omega)).mpr h; omega))
theorem xi_if_eq (hexec : p.tables.exec = Jvm.exec) (hb : c.code = cc) {a : Int} {off : Int} {tgt : Nat} (hdg : decode cc pc = .ok (.ifCond .eq off, 3)) (ht : (pc : Int) + off = (tgt : Int)) (h1 : -2147483648 ≤ a ∧ a ≤ 2147483647)
    (kt : a = 0 → W p l e R s m args below meth c H locs cells slots Q (F0 m tgt ls rest)) (kf : a ≠ 0 → W p l e R s m args below meth c H locs cells slots Q (F0 m (pc + 3) ls rest)) : W p l e R s m args below meth c H locs cells slots Q (F0 m pc ls (.int (iI a) :: rest)) :=
  lv_if_eq hexec hb hdg ht (fun h => kt ((iI_eq (b := 0) h1 (by omega)).mp h)) (fun h => kf (fun q => h (by rw [q]; rfl)))
theorem xi_if_ne (hexec : p.tables.exec = Jvm.exec) (hb : c.code = cc) {a : Int} {off : Int} {tgt : Nat} (hdg : decode cc pc = .ok (.ifCond .ne off, 3)) (ht : (pc : Int) + off = (tgt : Int)) (h1 : -2147483648 ≤ a ∧ a ≤ 2147483647)
    (kt : a ≠ 0 → W p l e R s m args below meth c H locs cells slots Q (F0 m tgt ls rest)) (kf : a = 0 → W p l e R s m args below meth c H locs cells slots Q (F0 m (pc + 3) ls rest)) : W p l e R s m args below meth c H locs cells slots Q (F0 m pc ls (.int (iI a) :: rest)) :=
  lv_if_ne hexec hb hdg ht (fun h => kt (fun q => h (by rw [q]; rfl))) (fun h => kf ((iI_eq (b := 0) h1 (by omega)).mp h))
/-- a boolean on the stack -/
theorem xb_if_eq (hexec : p.tables.exec = Jvm.exec) (hb : c.code = cc) {b : Bool} {off : Int} {tgt : Nat} (hdg : decode cc pc = .ok (.ifCond .eq off, 3)) (ht : (pc : Int) + off = (tgt : Int))
    (kt : b = false → W p l e R s m args below meth c H locs cells slots Q (F0 m tgt ls rest)) (kf : b = true → W p l e R s m args below meth c H locs cells slots Q (F0 m (pc + 3) ls rest)) : W p l e R s m args below meth c H locs cells slots Q (F0 m pc ls (.int (iI (bz b)) :: rest)) :=
  xi_if_eq hexec hb hdg ht (by have := bz_in b; omega) (fun h => kt (by cases b <;> simp [bz] at h ⊢)) (fun h => kf (by cases b <;> simp [bz] at h ⊢))
theorem xb_if_ne (hexec : p.tables.exec = Jvm.exec) (hb : c.code = cc) {b : Bool} {off : Int} {tgt : Nat} (hdg : decode cc pc = .ok (.ifCond .ne off, 3)) (ht : (pc : Int) + off = (tgt : Int))
    (kt : b = true → W p l e R s m args below meth c H locs cells slots Q (F0 m tgt ls rest)) (kf : b = false → W p l e R s m args below meth c H locs cells slots Q (F0 m (pc + 3) ls rest)) : W p l e R s m args below meth c H locs cells slots Q (F0 m pc ls (.int (iI (bz b)) :: rest)) :=
  xi_if_ne hexec hb hdg ht (by have := bz_in b; omega) (fun h => kt (by cases b <;> simp [bz] at h ⊢)) (fun h => kf (by cases b <;> simp [bz] at h ⊢))
theorem xb_icmp_eq (hexec : p.tables.exec = Jvm.exec) (hb : c.code = cc) {a b : Bool} {off : Int} {tgt : Nat} (hdg : decode cc pc = .ok (.if_icmp .eq off, 3)) (ht : (pc : Int) + off = (tgt : Int))
    (kt : a = b → W p l e R s m args below meth c H locs cells slots Q (F0 m tgt ls rest)) (kf : a ≠ b → W p l e R s m args below meth c H locs cells slots Q (F0 m (pc + 3) ls rest)) : W p l e R s m args below meth c H locs cells slots Q (F0 m pc ls (.int (iI (bz b)) :: .int (iI (bz a)) :: rest)) :=
  xi_icmp_eq hexec hb hdg ht (by have := bz_in a; omega) (by have := bz_in b; omega) (fun h => kt (bz_eq.mp h)) (fun h => kf (fun q => h (by rw [q])))
theorem xb_icmp_ne (hexec : p.tables.exec = Jvm.exec) (hb : c.code = cc) {a b : Bool} {off : Int} {tgt : Nat} (hdg : decode cc pc = .ok (.if_icmp .ne off, 3)) (ht : (pc : Int) + off = (tgt : Int))
    (kt : a ≠ b → W p l e R s m args below meth c H locs cells slots Q (F0 m tgt ls rest)) (kf : a = b → W p l e R s m args below meth c H locs cells slots Q (F0 m (pc + 3) ls rest)) : W p l e R s m args below meth c H locs cells slots Q (F0 m pc ls (.int (iI (bz b)) :: .int (iI (bz a)) :: rest)) :=
  xi_icmp_ne hexec hb hdg ht (by have := bz_in a; omega) (by have := bz_in b; omega) (fun h => kt (fun q => h (by rw [q]))) (fun h => kf (bz_eq.mp h))
/-- two longs compared, and the branch behind it -/
theorem xl_cmpv {a b : Int} (h1 : -9223372036854775808 ≤ a ∧ a ≤ 9223372036854775807) (h2 : -9223372036854775808 ≤ b ∧ b ≤ 9223372036854775807) : lg_cmp (lI a) (lI b) = iI (if b < a then 1 else if a = b then 0 else -1) := by
  unfold lg_cmp
  by_cases h : b < a
  · rw [if_pos ((lI_lt h2 h1).mpr h), if_pos h]; rfl
  · rw [if_neg (fun q => h ((lI_lt h2 h1).mp q)), if_neg h]
    by_cases h3 : a = b
    · rw [if_pos (by rw [h3]), if_pos h3]; rfl
    · rw [if_neg (fun q => h3 ((lI_eq h1 h2).mp q)), if_neg h3]; rfl
theorem xl_cmp (hexec : p.tables.exec = Jvm.exec) (hb : c.code = cc) {a b z : Int} (hdg : decode cc pc = .ok (.lcmp, 1)) (h1 : -9223372036854775808 ≤ a ∧ a ≤ 9223372036854775807) (h2 : -9223372036854775808 ≤ b ∧ b ≤ 9223372036854775807) (hz : (if b < a then 1 else if a = b then 0 else -1) = z)
    (k : W p l e R s m args below meth c H locs cells slots Q (F0 m (pc + 1) ls (.int (iI z) :: rest))) : W p l e R s m args below meth c H locs cells slots Q (F0 m pc ls (.long (lI b) :: .long (lI a) :: rest)) :=
  W.lcmp hexec hb hdg (by rw [xl_cmpv h1 h2, hz]; exact k)
theorem xl_lt (hexec : p.tables.exec = Jvm.exec) (hb : c.code = cc) {a b : Int} {off : Int} {tgt : Nat} (hdg : decode cc pc = .ok (.lcmp, 1)) (hd2 : decode cc (pc + 1) = .ok (.ifCond .lt off, 3)) (ht : ((pc + 1 : Nat) : Int) + off = (tgt : Int)) (h1 : -9223372036854775808 ≤ a ∧ a ≤ 9223372036854775807) (h2 : -9223372036854775808 ≤ b ∧ b ≤ 9223372036854775807)
    (kt : a < b → W p l e R s m args below meth c H locs cells slots Q (F0 m tgt ls rest)) (kf : b ≤ a → W p l e R s m args below meth c H locs cells slots Q (F0 m (pc + 4) ls rest)) : W p l e R s m args below meth c H locs cells slots Q (F0 m pc ls (.long (lI b) :: .long (lI a) :: rest)) :=
  xl_cmp hexec hb hdg h1 h2 rfl (xi_if_lt hexec hb hd2 ht (by split <;> (try split) <;> omega) (fun h => kt (by split at h <;> (try split at h) <;> omega)) (fun h => kf (by split at h <;> (try split at h) <;> omega)))
theorem xl_ge (hexec : p.tables.exec = Jvm.exec) (hb : c.code = cc) {a b : Int} {off : Int} {tgt : Nat} (hdg : decode cc pc = .ok (.lcmp, 1)) (hd2 : decode cc (pc + 1) = .ok (.ifCond .ge off, 3)) (ht : ((pc + 1 : Nat) : Int) + off = (tgt : Int)) (h1 : -9223372036854775808 ≤ a ∧ a ≤ 9223372036854775807) (h2 : -9223372036854775808 ≤ b ∧ b ≤ 9223372036854775807)
    (kt : b ≤ a → W p l e R s m args below meth c H locs cells slots Q (F0 m tgt ls rest)) (kf : a < b → W p l e R s m args below meth c H locs cells slots Q (F0 m (pc + 4) ls rest)) : W p l e R s m args below meth c H locs cells slots Q (F0 m pc ls (.long (lI b) :: .long (lI a) :: rest)) :=
  xl_cmp hexec hb hdg h1 h2 rfl (xi_if_ge hexec hb hd2 ht (by split <;> (try split) <;> omega) (fun h => kt (by split at h <;> (try split at h) <;> omega)) (fun h => kf (by split at h <;> (try split at h) <;> omega)))
theorem xl_gt (hexec : p.tables.exec = Jvm.exec) (hb : c.code = cc) {a b : Int} {off : Int} {tgt : Nat} (hdg : decode cc pc = .ok (.lcmp, 1)) (hd2 : decode cc (pc + 1) = .ok (.ifCond .gt off, 3)) (ht : ((pc + 1 : Nat) : Int) + off = (tgt : Int)) (h1 : -9223372036854775808 ≤ a ∧ a ≤ 9223372036854775807) (h2 : -9223372036854775808 ≤ b ∧ b ≤ 9223372036854775807)
    (kt : b < a → W p l e R s m args below meth c H locs cells slots Q (F0 m tgt ls rest)) (kf : a ≤ b → W p l e R s m args below meth c H locs cells slots Q (F0 m (pc + 4) ls rest)) : W p l e R s m args below meth c H locs cells slots Q (F0 m pc ls (.long (lI b) :: .long (lI a) :: rest)) :=
  xl_cmp hexec hb hdg h1 h2 rfl (xi_if_gt hexec hb hd2 ht (by split <;> (try split) <;> omega) (fun h => kt (by split at h <;> (try split at h) <;> omega)) (fun h => kf (by split at h <;> (try split at h) <;> omega)))
theorem xl_le (hexec : p.tables.exec = Jvm.exec) (hb : c.code = cc) {a b : Int} {off : Int} {tgt : Nat} (hdg : decode cc pc = .ok (.lcmp, 1)) (hd2 : decode cc (pc + 1) = .ok (.ifCond .le off, 3)) (ht : ((pc + 1 : Nat) : Int) + off = (tgt : Int)) (h1 : -9223372036854775808 ≤ a ∧ a ≤ 9223372036854775807) (h2 : -9223372036854775808 ≤ b ∧ b ≤ 9223372036854775807)
    (kt : a ≤ b → W p l e R s m args below meth c H locs cells slots Q (F0 m tgt ls rest)) (kf : b < a → W p l e R s m args below meth c H locs cells slots Q (F0 m (pc + 4) ls rest)) : W p l e R s m args below meth c H locs cells slots Q (F0 m pc ls (.long (lI b) :: .long (lI a) :: rest)) :=
  xl_cmp hexec hb hdg h1 h2 rfl (xi_if_le hexec hb hd2 ht (by split <;> (try split) <;> omega) (fun h => kt (by split at h <;> (try split at h) <;> omega)) (fun h => kf (by split at h <;> (try split at h) <;> omega)))
theorem xl_eq (hexec : p.tables.exec = Jvm.exec) (hb : c.code = cc) {a b : Int} {off : Int} {tgt : Nat} (hdg : decode cc pc = .ok (.lcmp, 1)) (hd2 : decode cc (pc + 1) = .ok (.ifCond .eq off, 3)) (ht : ((pc + 1 : Nat) : Int) + off = (tgt : Int)) (h1 : -9223372036854775808 ≤ a ∧ a ≤ 9223372036854775807) (h2 : -9223372036854775808 ≤ b ∧ b ≤ 9223372036854775807)
    (kt : a = b → W p l e R s m args below meth c H locs cells slots Q (F0 m tgt ls rest)) (kf : a ≠ b → W p l e R s m args below meth c H locs cells slots Q (F0 m (pc + 4) ls rest)) : W p l e R s m args below meth c H locs cells slots Q (F0 m pc ls (.long (lI b) :: .long (lI a) :: rest)) :=
  xl_cmp hexec hb hdg h1 h2 rfl (xi_if_eq hexec hb hd2 ht (by split <;> (try split) <;> omega) (fun h => kt (by split at h <;> (try split at h) <;> omega)) (fun h => kf (by split at h <;> (try split at h) <;> omega)))
theorem xl_ne (hexec : p.tables.exec = Jvm.exec) (hb : c.code = cc) {a b : Int} {off : Int} {tgt : Nat} (hdg : decode cc pc = .ok (.lcmp, 1)) (hd2 : decode cc (pc + 1) = .ok (.ifCond .ne off, 3)) (ht : ((pc + 1 : Nat) : Int) + off = (tgt : Int)) (h1 : -9223372036854775808 ≤ a ∧ a ≤ 9223372036854775807) (h2 : -9223372036854775808 ≤ b ∧ b ≤ 9223372036854775807)
    (kt : a ≠ b → W p l e R s m args below meth c H locs cells slots Q (F0 m tgt ls rest)) (kf : a = b → W p l e R s m args below meth c H locs cells slots Q (F0 m (pc + 4) ls rest)) : W p l e R s m args below meth c H locs cells slots Q (F0 m pc ls (.long (lI b) :: .long (lI a) :: rest)) :=
  xl_cmp hexec hb hdg h1 h2 rfl (xi_if_ne hexec hb hd2 ht (by split <;> (try split) <;> omega) (fun h => kt (by split at h <;> (try split at h) <;> omega)) (fun h => kf (by split at h <;> (try split at h) <;> omega)))
end XI
section XA
variable {p : Program} {l : Launch} {e : Env} {R : Room} {s : State} {m : MethodId} {args : Array Value} {below : List Frame} {meth : Method} {c : Code} {H : Heap} {locs : List Loc} {cells slots : Nat} {Q : State → Prop}
variable {cc : ByteArray} {pc : Nat} {ls : Array Slot} {rest : List Value} {D : va_G} {cl : List vw_C} {tys : List (ClassId × FieldType)} {ws : va_W} {A : Nat → Prop} {H0 : Heap} {a : Nat}
theorem xa_iald (hexec : p.tables.exec = Jvm.exec) (hb : c.code = cc) (hK : va_K D cl tys s) (hP : va_P D cl ws H) (q0 t0 : Nat) {cA : ClassId} {n : Nat} {F : Int → Int} (ha : ws[q0]? = some (a, .inl (cA, n, .inl (aI F)))) (ht : tys[t0]? = some (cA, .int)) {z : Int} (hn : n ≤ 2147483647) (hz : 0 ≤ z ∧ z < (n : Int)) (hdg : decode cc pc = .ok (.iaload, 1))
    (kk : W p l e R s m args below meth c H locs cells slots Q (F0 m (pc + 1) ls (.int (iI (F z)) :: rest))) : W p l e R s m args below meth c H locs cells slots Q (F0 m pc ls (.int (iI z) :: .ref a :: rest)) :=
  va_iald hexec hb hK hP q0 t0 ha ht (xi_in hn hz) hdg (by rw [aI_at F (by omega)]; exact kk)
theorem xa_zald (hexec : p.tables.exec = Jvm.exec) (hb : c.code = cc) (hK : va_K D cl tys s) (hP : va_P D cl ws H) (q0 t0 : Nat) {cA : ClassId} {n : Nat} {F : Int → Bool} (ha : ws[q0]? = some (a, .inl (cA, n, .inl (aB F)))) (ht : tys[t0]? = some (cA, .boolean)) {z : Int} (hn : n ≤ 2147483647) (hz : 0 ≤ z ∧ z < (n : Int)) (hdg : decode cc pc = .ok (.baload, 1))
    (kk : W p l e R s m args below meth c H locs cells slots Q (F0 m (pc + 1) ls (.int (iI (bz (F z))) :: rest))) : W p l e R s m args below meth c H locs cells slots Q (F0 m pc ls (.int (iI z) :: .ref a :: rest)) :=
  va_zald hexec hb hK hP q0 t0 ha ht (xi_in hn hz) hdg (by rw [aB_at F (by omega)]; exact kk)
theorem xa_lald (hexec : p.tables.exec = Jvm.exec) (hb : c.code = cc) (hK : va_K D cl tys s) (hP : va_P D cl ws H) (q0 t0 : Nat) {cA : ClassId} {n : Nat} {F : Int → Int} (ha : ws[q0]? = some (a, .inl (cA, n, .inr (.inl (aL F))))) (ht : tys[t0]? = some (cA, .long)) {z : Int} (hn : n ≤ 2147483647) (hz : 0 ≤ z ∧ z < (n : Int)) (hdg : decode cc pc = .ok (.laload, 1))
    (kk : W p l e R s m args below meth c H locs cells slots Q (F0 m (pc + 1) ls (.long (lI (F z)) :: rest))) : W p l e R s m args below meth c H locs cells slots Q (F0 m pc ls (.int (iI z) :: .ref a :: rest)) :=
  va_lald hexec hb hK hP q0 t0 ha ht (xi_in hn hz) hdg (by rw [aL_at F (by omega)]; exact kk)
theorem xa_aldq (hexec : p.tables.exec = Jvm.exec) (hb : c.code = cc) (hK : va_K D cl tys s) (hP : va_P D cl ws H) (q0 t0 : Nat) {cA : ClassId} {C : String} {n : Nat} {F : Int → Option Nat} (ha : ws[q0]? = some (a, .inl (cA, n, .inr (.inr (.inr (.inr (aQ F))))))) (ht : tys[t0]? = some (cA, .object C)) {z : Int} (hn : n ≤ 2147483647) (hz : 0 ≤ z ∧ z < (n : Int)) (hdg : decode cc pc = .ok (.aaload, 1))
    (kk : W p l e R s m args below meth c H locs cells slots Q (F0 m (pc + 1) ls (va_rf (F z) :: rest))) : W p l e R s m args below meth c H locs cells slots Q (F0 m pc ls (.int (iI z) :: .ref a :: rest)) :=
  va_aldq hexec hb hK hP q0 t0 ha ht (xi_in hn hz) hdg (by rw [aQ_at F (by omega)]; exact kk)
theorem xa_iast (hexec : p.tables.exec = Jvm.exec) (hb : c.code = cc) (hK : va_K D cl tys s) (hP : va_P D cl ws H) (hD : va_D A ws) (hS : va_S A H0 H locs) (q0 t0 : Nat) {cA : ClassId} {n : Nat} {F : Int → Int} (ha : ws[q0]? = some (a, .inl (cA, n, .inl (aI F)))) (ht : tys[t0]? = some (cA, .int)) {z v : Int} (hn : n ≤ 2147483647) (hz : 0 ≤ z ∧ z < (n : Int)) (hdg : decode cc pc = .ok (.iastore, 1))
    (kk : ∀ (H1 : Heap) (locs1 : List Loc), va_P D cl (ws.set q0 (a, .inl (cA, n, .inl (aI (up F z v))))) H1 → va_D A (ws.set q0 (a, .inl (cA, n, .inl (aI (up F z v))))) → va_S A H0 H1 locs1 → W p l e R s m args below meth c H1 locs1 cells slots Q (F0 m (pc + 1) ls rest)) : W p l e R s m args below meth c H locs cells slots Q (F0 m pc ls (.int (iI v) :: .int (iI z) :: .ref a :: rest)) :=
  va_iast hexec hb hK hP hD hS q0 t0 ha ht (xi_in hn hz) hdg (fun H1 locs1 h1 h2 h3 => by rw [aI_up F v (by omega)] at h1 h2; exact kk H1 locs1 h1 h2 h3)
theorem xa_zast (hexec : p.tables.exec = Jvm.exec) (hb : c.code = cc) (hK : va_K D cl tys s) (hP : va_P D cl ws H) (hD : va_D A ws) (hS : va_S A H0 H locs) (q0 t0 : Nat) {cA : ClassId} {n : Nat} {F : Int → Bool} (ha : ws[q0]? = some (a, .inl (cA, n, .inl (aB F)))) (ht : tys[t0]? = some (cA, .boolean)) {z : Int} {v : Bool} (hn : n ≤ 2147483647) (hz : 0 ≤ z ∧ z < (n : Int)) (hdg : decode cc pc = .ok (.bastore, 1))
    (kk : ∀ (H1 : Heap) (locs1 : List Loc), va_P D cl (ws.set q0 (a, .inl (cA, n, .inl (aB (up F z v))))) H1 → va_D A (ws.set q0 (a, .inl (cA, n, .inl (aB (up F z v))))) → va_S A H0 H1 locs1 → W p l e R s m args below meth c H1 locs1 cells slots Q (F0 m (pc + 1) ls rest)) : W p l e R s m args below meth c H locs cells slots Q (F0 m pc ls (.int (iI (bz v)) :: .int (iI z) :: .ref a :: rest)) :=
  va_zast hexec hb hK hP hD hS q0 t0 ha ht (xi_in hn hz) hdg (fun H1 locs1 h1 h2 h3 => by rw [aB_up F v (by omega)] at h1 h2; exact kk H1 locs1 h1 h2 h3)
theorem xa_last (hexec : p.tables.exec = Jvm.exec) (hb : c.code = cc) (hK : va_K D cl tys s) (hP : va_P D cl ws H) (hD : va_D A ws) (hS : va_S A H0 H locs) (q0 t0 : Nat) {cA : ClassId} {n : Nat} {F : Int → Int} (ha : ws[q0]? = some (a, .inl (cA, n, .inr (.inl (aL F))))) (ht : tys[t0]? = some (cA, .long)) {z v : Int} (hn : n ≤ 2147483647) (hz : 0 ≤ z ∧ z < (n : Int)) (hdg : decode cc pc = .ok (.lastore, 1))
    (kk : ∀ (H1 : Heap) (locs1 : List Loc), va_P D cl (ws.set q0 (a, .inl (cA, n, .inr (.inl (aL (up F z v)))))) H1 → va_D A (ws.set q0 (a, .inl (cA, n, .inr (.inl (aL (up F z v)))))) → va_S A H0 H1 locs1 → W p l e R s m args below meth c H1 locs1 cells slots Q (F0 m (pc + 1) ls rest)) : W p l e R s m args below meth c H locs cells slots Q (F0 m pc ls (.long (lI v) :: .int (iI z) :: .ref a :: rest)) :=
  va_last hexec hb hK hP hD hS q0 t0 ha ht (xi_in hn hz) hdg (fun H1 locs1 h1 h2 h3 => by rw [aL_up F v (by omega)] at h1 h2; exact kk H1 locs1 h1 h2 h3)
theorem xa_astq (hexec : p.tables.exec = Jvm.exec) (hb : c.code = cc) (hK : va_K D cl tys s) (hP : va_P D cl ws H) (hD : va_D A ws) (hS : va_S A H0 H locs) (q0 t0 qk ci : Nat) {cA : ClassId} {r : vw_C} {n v : Nat} {vs : List Value} {F : Int → Option Nat} (ha : ws[q0]? = some (a, .inl (cA, n, .inr (.inr (.inr (.inr (aQ F))))))) (ht : tys[t0]? = some (cA, .object r.1)) (hv : ws[qk]? = some (v, .inr (ci, vs))) (hc : cl[ci]? = some r) {z : Int} (hn : n ≤ 2147483647) (hz : 0 ≤ z ∧ z < (n : Int)) (hdg : decode cc pc = .ok (.aastore, 1))
    (kk : ∀ (H1 : Heap) (locs1 : List Loc), va_P D cl (ws.set q0 (a, .inl (cA, n, .inr (.inr (.inr (.inr (aQ (up F z (some v))))))))) H1 → va_D A (ws.set q0 (a, .inl (cA, n, .inr (.inr (.inr (.inr (aQ (up F z (some v))))))))) → va_S A H0 H1 locs1 → W p l e R s m args below meth c H1 locs1 cells slots Q (F0 m (pc + 1) ls rest)) : W p l e R s m args below meth c H locs cells slots Q (F0 m pc ls (.ref v :: .int (iI z) :: .ref a :: rest)) :=
  va_astq hexec hb hK hP hD hS q0 t0 qk ci ha ht hv hc (xi_in hn hz) hdg (fun H1 locs1 h1 h2 h3 => by rw [aQ_up F (some v) (by omega)] at h1 h2; exact kk H1 locs1 h1 h2 h3)
theorem xa_astqN (hexec : p.tables.exec = Jvm.exec) (hb : c.code = cc) (hK : va_K D cl tys s) (hP : va_P D cl ws H) (hD : va_D A ws) (hS : va_S A H0 H locs) (q0 t0 : Nat) {cA : ClassId} {C : String} {n : Nat} {F : Int → Option Nat} (ha : ws[q0]? = some (a, .inl (cA, n, .inr (.inr (.inr (.inr (aQ F))))))) (ht : tys[t0]? = some (cA, .object C)) {z : Int} (hn : n ≤ 2147483647) (hz : 0 ≤ z ∧ z < (n : Int)) (hdg : decode cc pc = .ok (.aastore, 1))
    (kk : ∀ (H1 : Heap) (locs1 : List Loc), va_P D cl (ws.set q0 (a, .inl (cA, n, .inr (.inr (.inr (.inr (aQ (up F z none)))))))) H1 → va_D A (ws.set q0 (a, .inl (cA, n, .inr (.inr (.inr (.inr (aQ (up F z none)))))))) → va_S A H0 H1 locs1 → W p l e R s m args below meth c H1 locs1 cells slots Q (F0 m (pc + 1) ls rest)) : W p l e R s m args below meth c H locs cells slots Q (F0 m pc ls (.null :: .int (iI z) :: .ref a :: rest)) :=
  va_astqN hexec hb hK hP hD hS q0 t0 ha ht (xi_in hn hz) hdg (fun H1 locs1 h1 h2 h3 => by rw [aQ_up F none (by omega)] at h1 h2; exact kk H1 locs1 h1 h2 h3)
end XA
/-! cells of a pool -/
theorem xp_one {D : va_G} {cl : List vw_C} {ws : va_W} {H : Heap} {a k : Nat} {e : va_E} (h : va_P D cl ws H) (hk : ws[k]? = some (a, e)) : va_P D cl [(a, e)] H := h.by (fun _ => k) (fun j q hj => by
  cases j with
  | zero => simp at hj; rw [← hj]; exact hk
  | succ j => simp at hj)
theorem xp_oneD {A : Nat → Prop} {ws : va_W} {a k : Nat} {e : va_E} (h : va_D A ws) (hk : ws[k]? = some (a, e)) : va_D A [(a, e)] := ⟨fun i j p q hi hj _ => by
    cases i with
    | zero => cases j with
      | zero => rfl
      | succ j => simp at hj
    | succ i => simp at hi, fun j q hj => by
    cases j with
    | zero => simp at hj; rw [← hj]; exact h.2 k _ hk
    | succ j => simp at hj⟩
/-- one cell has been written by a callee, the rest is as it was -/
theorem xp_set {D : va_G} {cl : List vw_C} {A : Nat → Prop} {ws : va_W} {H H1 : Heap} {a k : Nat} {e0 e : va_E} (hP : va_P D cl ws H) (hD : va_D A ws) (hk : ws[k]? = some (a, e0)) (h1 : va_P D cl [(a, e)] H1) (hq : ∀ q : Nat, q < H.size → ¬ va_A [(a, e0)] H.size q → H1[q]? = H[q]?) : va_P D cl (ws.set k (a, e)) H1 := by
  intro j q hj
  by_cases hjk : j = k
  · subst hjk
    have hlt : j < ws.length := (List.getElem?_eq_some_iff.mp hk).1
    rw [List.getElem?_set_self hlt] at hj
    cases hj
    exact h1 0 _ rfl
  · rw [List.getElem?_set_ne (fun z => hjk z.symm)] at hj
    refine (hP j q hj).kept (hq q.1 (hP j q hj).lt ?_)
    rintro (⟨i, e2, hi⟩ | hi)
    · cases i with
      | zero =>
        simp at hi
        exact hjk (hD.1 j k q (a, e0) hj hk hi.1.symm)
      | succ i => simp at hi
    · exact absurd (hP j q hj).lt (Nat.not_lt.mpr hi)
theorem xw_free {A : Nat → Prop} {ws : va_W} {H0 H : Heap} {locs : List Loc} (hD : va_D A ws) (hS : va_S A H0 H locs) (hA : ∀ q, H0.size ≤ q → A q) : ∀ q, va_A ws H.size q → A q := fun q h => by
  rcases h with ⟨k, e, hk⟩ | h
  · exact hD.2 k _ hk
  · exact hA q (Nat.le_trans hS.1 h)
end
section
/-! pure numbers -/
theorem mul_bd {a b : Int} (A B : Nat) (ha : -(A : Int) ≤ a ∧ a ≤ A) (hb : -(B : Int) ≤ b ∧ b ≤ B) : -((A * B : Nat) : Int) ≤ a * b ∧ a * b ≤ ((A * B : Nat) : Int) := by
  have h1 : a.natAbs ≤ A := by omega
  have h2 : b.natAbs ≤ B := by omega
  have h3 : (a * b).natAbs ≤ A * B := by rw [Int.natAbs_mul]; exact Nat.mul_le_mul h1 h2
  generalize a * b = x at h3 ⊢
  generalize A * B = y at h3 ⊢
  omega
theorem mul_nn {a b : Int} (ha : 0 ≤ a) (hb : 0 ≤ b) : 0 ≤ a * b := Int.mul_nonneg ha hb
theorem mul_pp {a b : Int} (ha : 0 < a) (hb : 0 < b) : 0 < a * b := Int.mul_pos ha hb
theorem sq_nn (a : Int) : 0 ≤ a * a := by
  rcases Int.le_total 0 a with h | h
  · exact Int.mul_nonneg h h
  · exact Int.mul_nonneg_of_nonpos_of_nonpos h h
theorem sq_pp {a : Int} (h : a ≠ 0) : 0 < a * a := by
  have h1 := sq_nn a
  have h2 : a * a ≠ 0 := fun q => by
    rcases Int.mul_eq_zero.mp q with h3 | h3 <;> exact h h3
  omega
theorem sq_le {a b : Int} (h0 : 0 ≤ a) (h : a ≤ b) : a * a ≤ b * b := Int.mul_le_mul h h h0 (by omega)
theorem sq_lt {a b : Int} (h0 : 0 ≤ a) (h : a < b) : a * a < b * b := by
  have h1 : a * a ≤ a * b := Int.mul_le_mul_of_nonneg_left (by omega) h0
  have h2 : a * b < b * b := Int.mul_lt_mul_of_pos_right h (by omega)
  omega
/-- n against t times the root of u: below, at or above 0 -/
def crv (u n t : Int) : Int :=
  if t ≤ 0 then 1 else if 32768 < n / t then 1 else
  if (u - n / t * (n / t)) * t - 2 * (n / t) * (n % t) < 0 then 1 else
  if n % t < (u - n / t * (n / t)) * t - 2 * (n / t) * (n % t) then -1 else
  n % t * (n % t) - ((u - n / t * (n / t)) * t - 2 * (n / t) * (n % t)) * t
theorem crv_id (u t q r : Int) : (q * t + r) * (q * t + r) - t * t * u = r * r - ((u - q * q) * t - 2 * q * r) * t := by grind
theorem crv_sign {u n t : Int} (hu : 0 < u) (hu2 : u < 1073741824) (hn : 0 ≤ n) (ht : 0 < t) :
    (crv u n t < 0 ↔ n * n < t * t * u) ∧ (0 < crv u n t ↔ t * t * u < n * n) := by
  have e1 : n = n / t * t + n % t := by have := Int.emod_add_mul_ediv n t; rw [Int.mul_comm] at this; omega
  have r0 : 0 ≤ n % t := Int.emod_nonneg n (by omega)
  have r1 : n % t < t := Int.emod_lt_of_pos n ht
  have q0 : 0 ≤ n / t := Int.ediv_nonneg hn (by omega)
  unfold crv
  rw [if_neg (by omega)]
  generalize n / t = q at *
  generalize n % t = r at *
  have e2 := crv_id u t q r
  rw [← e1] at e2
  generalize hk : (u - q * q) * t - 2 * q * r = k at *
  have T0 : 0 < t * t := mul_pp ht ht
  by_cases hq : 32768 < q
  · rw [if_pos hq]
    have h1 : 32769 * t ≤ q * t := Int.mul_le_mul_of_nonneg_right (by omega) (by omega)
    have h2 : (32769 * t) * (32769 * t) ≤ n * n := sq_le (by omega) (by omega)
    have h3 : (32769 * t) * (32769 * t) = 1073807361 * (t * t) := by grind
    have h4 : t * t * u ≤ t * t * 1073741824 := Int.mul_le_mul_of_nonneg_left (by omega) (by omega)
    omega
  · rw [if_neg hq]
    by_cases hk0 : k < 0
    · rw [if_pos hk0]
      have h1 : k * t < 0 := Int.mul_neg_of_neg_of_pos hk0 ht
      have h2 := sq_nn r
      omega
    · rw [if_neg hk0]
      by_cases hk1 : r < k
      · rw [if_pos hk1]
        have h1 : (r + 1) * t ≤ k * t := Int.mul_le_mul_of_nonneg_right (by omega) (by omega)
        have h2 : r * r ≤ r * t := Int.mul_le_mul_of_nonneg_left (by omega) r0
        have h3 : (r + 1) * t = r * t + t := by grind
        omega
      · rw [if_neg hk1]
        omega
/-- is a place, rest + f times the root of u, above 0 -/
def rgt (rest f u : Int) : Bool :=
  if f = 0 ∨ u ≤ 0 then decide (0 < rest) else if 0 < f then decide (0 ≤ rest ∨ rest * rest < f * f * u) else decide (0 < rest ∧ f * f * u < rest * rest)
theorem rgt_mono {r1 r2 f u : Int} (h : r1 ≤ r2) (h1 : rgt r1 f u = true) : rgt r2 f u = true := by
  unfold rgt at h1 ⊢
  split at h1
  · rename_i hc
    rw [if_pos hc]
    simp only [decide_eq_true_eq] at h1 ⊢
    omega
  · rename_i hc
    rw [if_neg hc]
    split at h1
    · rename_i hf
      rw [if_pos hf]
      simp only [decide_eq_true_eq] at h1 ⊢
      rcases Int.lt_or_le r2 0 with h2 | h2
      · right
        rcases h1 with h1 | h1
        · omega
        · have h3 : (-r2) * (-r2) ≤ (-r1) * (-r1) := sq_le (by omega) (by omega)
          have h4 : (-r2) * (-r2) = r2 * r2 := by grind
          have h5 : (-r1) * (-r1) = r1 * r1 := by grind
          omega
      · left; exact h2
    · rename_i hf
      rw [if_neg hf]
      simp only [decide_eq_true_eq] at h1 ⊢
      have h3 : r1 * r1 ≤ r2 * r2 := sq_le (by omega) h
      omega
/-! how many bits are set: Long.bitCount -/
def pc8 (b : Nat) : Nat := b % 2 + b / 2 % 2 + b / 4 % 2 + b / 8 % 2 + b / 16 % 2 + b / 32 % 2 + b / 64 % 2 + b / 128 % 2
def mk8 (d : Nat) : Nat → Nat | 0 => 0 | k + 1 => d + 256 * mk8 d k
theorem and_256 (a b x y : Nat) (ha : a < 256) (hb : b < 256) : (a + 256 * x) &&& (b + 256 * y) = (a &&& b) + 256 * (x &&& y) := by
  have h1 : ((a + 256 * x) &&& (b + 256 * y)) % 256 = a &&& b := by
    rw [show (256 : Nat) = 2 ^ 8 from rfl, Nat.and_mod_two_pow]
    rw [show (a + 2 ^ 8 * x) % 2 ^ 8 = a by omega, show (b + 2 ^ 8 * y) % 2 ^ 8 = b by omega]
  have h2 : ((a + 256 * x) &&& (b + 256 * y)) / 256 = x &&& y := by
    rw [show (256 : Nat) = 2 ^ 8 from rfl, Nat.and_div_two_pow]
    rw [show (a + 2 ^ 8 * x) / 2 ^ 8 = x by omega, show (b + 2 ^ 8 * y) / 2 ^ 8 = y by omega]
  have h3 := Nat.div_add_mod ((a + 256 * x) &&& (b + 256 * y)) 256
  omega
def bt1 (b : Nat) : Nat := b - (b / 2 &&& 85)
def bt2 (b : Nat) : Nat := (bt1 b &&& 51) + (bt1 b / 4 &&& 51)
def be1 : Nat → Nat → Nat | 0, _ => 0 | k + 1, x => bt1 (x % 256) + 256 * be1 k (x / 256)
def be2 : Nat → Nat → Nat | 0, _ => 0 | k + 1, x => bt2 (x % 256) + 256 * be2 k (x / 256)
def be3 : Nat → Nat → Nat | 0, _ => 0 | k + 1, x => pc8 (x % 256) + 256 * be3 k (x / 256)
theorem bt_a : ∀ b, b < 256 → ∀ e, e < 2 → (b / 2 + 128 * e) &&& 85 = b / 2 &&& 85 := by decide +kernel
theorem bt_b : ∀ b, b < 256 → bt1 b < 256 ∧ bt2 b ≤ 68 ∧ bt2 b % 16 ≤ 4 ∧ (bt2 b + bt2 b / 16) &&& 15 = pc8 b ∧ pc8 b ≤ 8 := by decide +kernel
theorem bt_c : ∀ b, b < 256 → ∀ e, e < 4 → (b / 4 + 64 * e) &&& 51 = b / 4 &&& 51 := by decide +kernel
theorem bt_d : ∀ b, b < 69 → ∀ e, e < 5 → (b + b / 16 + 16 * e) &&& 15 = (b + b / 16) &&& 15 := by decide +kernel
theorem b256 (k x : Nat) (h : x < 256 ^ (k + 1)) : x / 256 < 256 ^ k := by
  rw [Nat.pow_succ] at h
  exact Nat.div_lt_of_lt_mul (by rw [Nat.mul_comm]; exact h)
theorem be_1 (k : Nat) : ∀ x, x < 256 ^ k → x - (x / 2 &&& mk8 85 k) = be1 k x := by
  induction k with
  | zero => intro x h; simp at h; subst h; rfl
  | succ k ih =>
    intro x h
    have h1 := ih (x / 256) (b256 k x h)
    have e1 : x / 2 = (x % 256 / 2 + 128 * (x / 256 % 2)) + 256 * (x / 256 / 2) := by omega
    have e2 : (x / 2 &&& mk8 85 (k + 1)) = (x % 256 / 2 &&& 85) + 256 * (x / 256 / 2 &&& mk8 85 k) := by
      rw [show mk8 85 (k + 1) = 85 + 256 * mk8 85 k from rfl, e1, and_256 _ _ _ _ (by omega) (by omega), bt_a _ (by omega) _ (by omega)]
    have e3 : be1 (k + 1) x = bt1 (x % 256) + 256 * be1 k (x / 256) := rfl
    have l1 : (x % 256 / 2 &&& 85) ≤ x % 256 / 2 := Nat.and_le_left
    have l2 : (x / 256 / 2 &&& mk8 85 k) ≤ x / 256 / 2 := Nat.and_le_left
    rw [e2, e3, ← h1]
    unfold bt1
    generalize (x % 256 / 2 &&& 85) = c1 at *
    generalize (x / 256 / 2 &&& mk8 85 k) = c2 at *
    omega
theorem be_2 (k : Nat) : ∀ x, (be1 k x &&& mk8 51 k) + (be1 k x / 4 &&& mk8 51 k) = be2 k x := by
  induction k with
  | zero => intro x; simp [be1, be2, mk8]
  | succ k ih =>
    intro x
    have h1 := ih (x / 256)
    obtain ⟨l1, -⟩ := bt_b (x % 256) (by omega)
    rw [show be1 (k + 1) x = bt1 (x % 256) + 256 * be1 k (x / 256) from rfl, show be2 (k + 1) x = bt2 (x % 256) + 256 * be2 k (x / 256) from rfl, show mk8 51 (k + 1) = 51 + 256 * mk8 51 k from rfl, ← h1]
    rw [show (bt1 (x % 256) + 256 * be1 k (x / 256)) / 4 = (bt1 (x % 256) / 4 + 64 * (be1 k (x / 256) % 4)) + 256 * (be1 k (x / 256) / 4) by omega]
    rw [and_256 _ _ _ _ l1 (by omega), and_256 _ _ _ _ (by omega) (by omega), bt_c _ l1 _ (by omega)]
    unfold bt2
    omega
theorem be_3 (k : Nat) : ∀ x, (be2 k x + be2 k x / 16) &&& mk8 15 k = be3 k x := by
  induction k with
  | zero => intro x; simp [be2, be3, mk8]
  | succ k ih =>
    intro x
    have h1 := ih (x / 256)
    obtain ⟨-, l2, l3, l4, l5⟩ := bt_b (x % 256) (by omega)
    have l6 : be2 k (x / 256) % 16 ≤ 4 := by
      cases k with
      | zero => show 0 % 16 ≤ 4; decide
      | succ k =>
        obtain ⟨-, m2, m3, -⟩ := bt_b (x / 256 % 256) (by omega)
        rw [show be2 (k + 1) (x / 256) = bt2 (x / 256 % 256) + 256 * be2 k (x / 256 / 256) from rfl]
        omega
    rw [show be2 (k + 1) x = bt2 (x % 256) + 256 * be2 k (x / 256) from rfl, show be3 (k + 1) x = pc8 (x % 256) + 256 * be3 k (x / 256) from rfl, show mk8 15 (k + 1) = 15 + 256 * mk8 15 k from rfl, ← h1, ← l4]
    rw [show bt2 (x % 256) + 256 * be2 k (x / 256) + (bt2 (x % 256) + 256 * be2 k (x / 256)) / 16 = (bt2 (x % 256) + bt2 (x % 256) / 16 + 16 * (be2 k (x / 256) % 16)) + 256 * (be2 k (x / 256) + be2 k (x / 256) / 16) by omega]
    rw [and_256 _ _ _ _ (by omega) (by omega), bt_d _ (by omega) _ (by omega)]
/-- how many of the first k bits are set -/
def pop : Nat → Nat → Nat | 0, _ => 0 | k + 1, n => n % 2 + pop k (n / 2)
theorem pop_8 (k n : Nat) : pop (k + 8) n = pc8 (n % 256) + pop k (n / 256) := by
  show n % 2 + (n / 2 % 2 + (n / 2 / 2 % 2 + (n / 2 / 2 / 2 % 2 + (n / 2 / 2 / 2 / 2 % 2 + (n / 2 / 2 / 2 / 2 / 2 % 2 + (n / 2 / 2 / 2 / 2 / 2 / 2 % 2 + (n / 2 / 2 / 2 / 2 / 2 / 2 / 2 % 2 + pop k (n / 2 / 2 / 2 / 2 / 2 / 2 / 2 / 2)))))))) = _
  rw [show n / 2 / 2 / 2 / 2 / 2 / 2 / 2 / 2 = n / 256 by omega]
  unfold pc8
  omega
theorem bitCount_nat (n : Nat) (h : n < 18446744073709551616) :
    ∃ i1 i2 i3 : Nat, n - (n / 2 &&& 6148914691236517205) = i1 ∧ (n / 2 &&& 6148914691236517205) ≤ n ∧ (i1 &&& 3689348814741910323) + (i1 / 4 &&& 3689348814741910323) = i2 ∧ ((i2 + i2 / 16) &&& 1085102592571150095) = i3 ∧ i1 ≤ n ∧ i2 ≤ 7378697629483820646 ∧ i3 ≤ 578721382704613384 ∧
      (i3 + i3 / 256 + (i3 + i3 / 256) / 65536 + (i3 + i3 / 256 + (i3 + i3 / 256) / 65536) / 4294967296) % 128 = pop 64 n := by
  have h8 : n < 256 ^ 8 := h
  have a1 := be_1 8 n h8
  have a2 := be_2 8 n
  have a3 := be_3 8 n
  rw [show mk8 85 8 = 6148914691236517205 from rfl] at a1
  rw [show mk8 51 8 = 3689348814741910323 from rfl] at a2
  rw [show mk8 15 8 = 1085102592571150095 from rfl] at a3
  have l0 : (n / 2 &&& 6148914691236517205) ≤ n / 2 := Nat.and_le_left
  have l1 : (be1 8 n &&& 3689348814741910323) ≤ 3689348814741910323 := Nat.and_le_right
  have l2 : (be1 8 n / 4 &&& 3689348814741910323) ≤ 3689348814741910323 := Nat.and_le_right
  have e3 : be3 8 n = pc8 (n % 256) + 256 * (pc8 (n / 256 % 256) + 256 * (pc8 (n / 256 / 256 % 256) + 256 * (pc8 (n / 256 / 256 / 256 % 256) + 256 * (pc8 (n / 256 / 256 / 256 / 256 % 256) + 256 * (pc8 (n / 256 / 256 / 256 / 256 / 256 % 256) + 256 * (pc8 (n / 256 / 256 / 256 / 256 / 256 / 256 % 256) + 256 * (pc8 (n / 256 / 256 / 256 / 256 / 256 / 256 / 256 % 256) + 256 * 0))))))) := rfl
  have e4 : pop 64 n = pc8 (n % 256) + (pc8 (n / 256 % 256) + (pc8 (n / 256 / 256 % 256) + (pc8 (n / 256 / 256 / 256 % 256) + (pc8 (n / 256 / 256 / 256 / 256 % 256) + (pc8 (n / 256 / 256 / 256 / 256 / 256 % 256) + (pc8 (n / 256 / 256 / 256 / 256 / 256 / 256 % 256) + (pc8 (n / 256 / 256 / 256 / 256 / 256 / 256 / 256 % 256) + 0))))))) := by
    rw [pop_8 56, pop_8 48, pop_8 40, pop_8 32, pop_8 24, pop_8 16, pop_8 8, pop_8 0]; rfl
  have p0 := (bt_b (n % 256) (by omega)).2.2.2.2
  have p1 := (bt_b (n / 256 % 256) (by omega)).2.2.2.2
  have p2 := (bt_b (n / 256 / 256 % 256) (by omega)).2.2.2.2
  have p3 := (bt_b (n / 256 / 256 / 256 % 256) (by omega)).2.2.2.2
  have p4 := (bt_b (n / 256 / 256 / 256 / 256 % 256) (by omega)).2.2.2.2
  have p5 := (bt_b (n / 256 / 256 / 256 / 256 / 256 % 256) (by omega)).2.2.2.2
  have p6 := (bt_b (n / 256 / 256 / 256 / 256 / 256 / 256 % 256) (by omega)).2.2.2.2
  have p7 := (bt_b (n / 256 / 256 / 256 / 256 / 256 / 256 / 256 % 256) (by omega)).2.2.2.2
  refine ⟨be1 8 n, be2 8 n, be3 8 n, a1, by omega, a2, a3, by omega, by omega, ?_, ?_⟩
  · rw [e3]
    generalize pc8 (n % 256) = d0 at *
    generalize pc8 (n / 256 % 256) = d1 at *
    generalize pc8 (n / 256 / 256 % 256) = d2 at *
    generalize pc8 (n / 256 / 256 / 256 % 256) = d3 at *
    generalize pc8 (n / 256 / 256 / 256 / 256 % 256) = d4 at *
    generalize pc8 (n / 256 / 256 / 256 / 256 / 256 % 256) = d5 at *
    generalize pc8 (n / 256 / 256 / 256 / 256 / 256 / 256 % 256) = d6 at *
    generalize pc8 (n / 256 / 256 / 256 / 256 / 256 / 256 / 256 % 256) = d7 at *
    omega
  · rw [e3, e4]
    clear e3 e4 a1 a2 a3 l0 l1 l2 h h8
    generalize pc8 (n % 256) = d0 at *
    generalize pc8 (n / 256 % 256) = d1 at *
    generalize pc8 (n / 256 / 256 % 256) = d2 at *
    generalize pc8 (n / 256 / 256 / 256 % 256) = d3 at *
    generalize pc8 (n / 256 / 256 / 256 / 256 % 256) = d4 at *
    generalize pc8 (n / 256 / 256 / 256 / 256 / 256 % 256) = d5 at *
    generalize pc8 (n / 256 / 256 / 256 / 256 / 256 / 256 % 256) = d6 at *
    generalize pc8 (n / 256 / 256 / 256 / 256 / 256 / 256 / 256 % 256) = d7 at *
    have q1 : (d0 + 256 * (d1 + 256 * (d2 + 256 * (d3 + 256 * (d4 + 256 * (d5 + 256 * (d6 + 256 * (d7 + 256 * 0)))))))) / 256 = d1 + 256 * (d2 + 256 * (d3 + 256 * (d4 + 256 * (d5 + 256 * (d6 + 256 * d7))))) := by omega
    rw [q1]
    have q2 : (d0 + 256 * (d1 + 256 * (d2 + 256 * (d3 + 256 * (d4 + 256 * (d5 + 256 * (d6 + 256 * (d7 + 256 * 0))))))) + (d1 + 256 * (d2 + 256 * (d3 + 256 * (d4 + 256 * (d5 + 256 * (d6 + 256 * d7))))))) / 65536 = (d2 + d3) + 256 * ((d3 + d4) + 256 * ((d4 + d5) + 256 * ((d5 + d6) + 256 * ((d6 + d7) + 256 * d7)))) := by omega
    rw [q2]
    have q3 : (d0 + 256 * (d1 + 256 * (d2 + 256 * (d3 + 256 * (d4 + 256 * (d5 + 256 * (d6 + 256 * (d7 + 256 * 0))))))) + (d1 + 256 * (d2 + 256 * (d3 + 256 * (d4 + 256 * (d5 + 256 * (d6 + 256 * d7)))))) + ((d2 + d3) + 256 * ((d3 + d4) + 256 * ((d4 + d5) + 256 * ((d5 + d6) + 256 * ((d6 + d7) + 256 * d7)))))) / 4294967296 = (d4 + d5 + (d6 + d7)) + 256 * ((d5 + d6 + d7) + 256 * (d6 + d7 + 256 * d7)) := by omega
    rw [q3]
    clear q1 q2 q3
    have q4 : ∀ S Z T : Nat, T = S + 256 * Z → S ≤ 64 → T % 128 = S := by intro S Z T h1 h2; omega
    exact q4 _ ((d1 + 256 * (d2 + 256 * (d3 + 256 * (d4 + 256 * (d5 + 256 * (d6 + 256 * (d7 + 256 * 0))))))) + (d2 + 256 * (d3 + 256 * (d4 + 256 * (d5 + 256 * (d6 + 256 * d7))))) + ((d3 + d4) + 256 * ((d4 + d5) + 256 * ((d5 + d6) + 256 * ((d6 + d7) + 256 * d7)))) + ((d5 + d6 + d7) + 256 * (d6 + d7 + 256 * d7))) _ (by omega) (by omega)
end
section
/-! leaves -/
theorem dec_t {P : Prop} [Decidable P] (h : P) : true = decide P := by simp [h]
theorem dec_f {P : Prop} [Decidable P] (h : ¬ P) : false = decide P := by simp [h]
def sgn (z : Int) : Int := if 0 < z then 1 else if z < 0 then -1 else 0
theorem sgn_p {z : Int} (h : 0 < z) : sgn z = 1 := if_pos h
theorem sgn_n {z : Int} (h : z < 0) : sgn z = -1 := by unfold sgn; rw [if_neg (by omega), if_pos h]
theorem sgn_0 {z : Int} (h : z = 0) : sgn z = 0 := by subst h; rfl
theorem sgn_in (z : Int) : (0 < z ∧ sgn z = 1) ∨ (z < 0 ∧ sgn z = -1) ∨ (z = 0 ∧ sgn z = 0) := by
  rcases Int.lt_trichotomy z 0 with h | h | h
  · exact Or.inr (Or.inl ⟨h, sgn_n h⟩)
  · exact Or.inr (Or.inr ⟨h, sgn_0 h⟩)
  · exact Or.inl ⟨h, sgn_p h⟩
theorem fd_eq {a b : Int} (h : a.tdiv b * b = a) : a / b = a.tdiv b := by
  rw [Int.tdiv_eq_ediv, if_pos (Or.inr ⟨a.tdiv b, by rw [Int.mul_comm]; exact h.symm⟩), Int.add_zero]
theorem fd_ne {a b : Int} (ha : a < 0) (hb : 0 < b) (h : a.tdiv b * b ≠ a) : a / b = a.tdiv b - 1 := by
  rw [Int.tdiv_eq_ediv, if_neg (fun q => q.elim (fun q => by omega) (fun ⟨k, hk⟩ => h (by rw [hk, Int.mul_tdiv_cancel_left _ (by omega), Int.mul_comm]))), Int.sign_eq_one_of_pos hb]; omega
theorem td_bd {a b : Int} (ha : -2147483648 ≤ a ∧ a ≤ 2147483647) (hb : 0 < b) : (0 ≤ a → 0 ≤ a.tdiv b ∧ a.tdiv b ≤ a ∧ a.tdiv b = a / b) ∧ (a < 0 → a ≤ a.tdiv b ∧ a.tdiv b ≤ 0 ∧ a ≤ a.tdiv b * b ∧ a.tdiv b * b ≤ 0) := by
  refine ⟨fun h => ?_, fun h => ?_⟩
  · rw [Int.tdiv_eq_ediv_of_nonneg h]
    exact ⟨Int.ediv_nonneg h (by omega), Int.ediv_le_self _ h, rfl⟩
  · obtain ⟨c, rfl⟩ : ∃ c, a = -c := ⟨-a, by omega⟩
    rw [Int.neg_tdiv, Int.tdiv_eq_ediv_of_nonneg (by omega)]
    have h1 : 0 ≤ c / b := Int.ediv_nonneg (by omega) (by omega)
    have h2 : c / b ≤ c := Int.ediv_le_self _ (by omega)
    have h3 : c / b * b ≤ c := Int.ediv_mul_le _ (by omega)
    have h4 : 0 ≤ c / b * b := Int.mul_nonneg h1 (by omega)
    have h5 : -(c / b) * b = -(c / b * b) := Int.neg_mul _ _
    exact ⟨by omega, by omega, by omega, by omega⟩
theorem iI_tdiv {a b : Int} (ha : -2147483648 ≤ a ∧ a ≤ 2147483647) (hb : 0 < b ∧ b ≤ 2147483647) : iI a / iI b = iI (a.tdiv b) := by
  apply Int32.toInt_inj.mp
  have h1 := td_bd ha hb.1
  have h2 : -2147483648 ≤ a.tdiv b ∧ a.tdiv b ≤ 2147483647 := by
    rcases Int.lt_or_le a 0 with h | h
    · have := h1.2 h; omega
    · have := h1.1 h; omega
  rw [Int32.toInt_div_of_ne_right _ _ (fun h => by have h2 := congrArg Int32.toInt h; rw [iI_toInt (by omega)] at h2; have h3 : (-1 : Int32).toInt = -1 := by decide +kernel
                                                   omega), iI_toInt ha, iI_toInt (by omega), iI_toInt h2]
theorem fd_xor {a b : Int} (ha : -2147483648 ≤ a ∧ a ≤ 2147483647) (hb : 0 < b ∧ b ≤ 2147483647) : 0 ≤ iI a ^^^ iI b ↔ 0 ≤ a := by
  rw [Int32.le_iff_toInt_le]
  have h1 : (iI a).toBitVec.msb = decide (a < 0) := by rw [BitVec.msb_eq_toInt]; show decide ((iI a).toInt < 0) = _; rw [iI_toInt ha]
  have h2 : (iI b).toBitVec.msb = decide (b < 0) := by rw [BitVec.msb_eq_toInt]; show decide ((iI b).toInt < 0) = _; rw [iI_toInt (by omega)]
  have h3 : (iI a ^^^ iI b).toBitVec.msb = decide (a < 0) := by rw [Int32.toBitVec_xor, BitVec.msb_xor, h1, h2, decide_eq_false (show ¬ b < 0 by omega), Bool.xor_false]
  rw [BitVec.msb_eq_toInt] at h3
  have h4 : (iI a ^^^ iI b).toInt < 0 ↔ a < 0 := by
    have h5 : decide ((iI a ^^^ iI b).toInt < 0) = decide (a < 0) := h3
    simpa using h5
  have h6 : (0 : Int32).toInt = 0 := by decide +kernel
  rw [h6]
  omega
theorem xi_min {a b : Int} (ha : -2147483648 ≤ a ∧ a ≤ 2147483647) (hb : -2147483648 ≤ b ∧ b ≤ 2147483647) : (if iI b < iI a then iI b else iI a) = iI (min a b) := by
  by_cases h : b < a
  · rw [if_pos ((iI_lt hb ha).mpr h), Int.min_eq_right (by omega)]
  · rw [if_neg (fun q => h ((iI_lt hb ha).mp q)), Int.min_eq_left (by omega)]
theorem xi_max {a b : Int} (ha : -2147483648 ≤ a ∧ a ≤ 2147483647) (hb : -2147483648 ≤ b ∧ b ≤ 2147483647) : (if iI a < iI b then iI b else iI a) = iI (max a b) := by
  by_cases h : a < b
  · rw [if_pos ((iI_lt ha hb).mpr h), Int.max_eq_right (by omega)]
  · rw [if_neg (fun q => h ((iI_lt ha hb).mp q)), Int.max_eq_left (by omega)]
/-- the whole number next below the least of a line or curve, by its three points -/
def fol (p q r : Int) : Int := if q < p ∧ q < r then p + (-(q - p) * (q - p)) / (p - 2 * q + r) else min p r
set_option maxHeartbeats 4000000 in
set_option maxRecDepth 100000 in
/-- canBeTold -/
theorem k_canBeTold (l : Launch) (dC : Nat → ClassId) (dI : Nat → Nat → Nat) (z : Int) (hz : -9223372036854775808 ≤ z ∧ z ≤ 9223372036854775807) : Met l yC_canBeTold wC_canBeTold ({ frames := 0, cells := 0, slots := 0, locals := 0 }) (va_Pc [.long (lI z)] (fun _ => True)) (vp_Si (fun r => r = iI (bz (decide (-8192 ≤ z ∧ z ≤ 8191))))) 0 0 (fun _ => False) := by
  refine Met.ofW (cc := cC_canBeTold) (maxL := 2) (ret := (some .boolean)) (by decide) rfl ?_
  intro p e s m args below meth c s₁ B hml hv
  obtain ⟨hargs, -⟩ := hv
  have hx := B.exec
  have hb := B.bytes
  have hr := B.returns
  have hts := atoms_spec (ws := wC_canBeTold) B.pre
  have hown : s.vm.findClass RC = some m.cls := findClass_of_methodNamed B.named
  have hlocks := B.notSynchronized
  refine x_name (fun R Q H locs hR hQ hH hlo => ?_)
  refine x_entry hargs (Nat.le_of_ble_eq_true rfl) (fun ls hl => ?_)
  have hl : lv_has ls 2 [(0, .long (lI z))] := hl
  have cut_21_1 : ∀ (v : Bool) (ls : Array Slot), (v = decide (-8192 ≤ z ∧ z ≤ 8191)) → lv_has ls 2 [(0, .long (lI z))] → W p l e R s m args below meth c H locs 0 0 Q (F0 m 21 ls [.int (iI (bz v))]) := by
    intro v ls hv hl
    subst hQ
    exact W.zret (v := (iI (bz v))) hx hb hr (xi_narZ2 _) (fun t9 ht9 hW9 => ⟨_, rfl, (by rw [hv]), ht9.trans hH⟩) (by rw [hlo]; intro q9 h9; cases h9) dC_canBeTold_21
  refine lv_lload_n hx hb dC_canBeTold_0 rfl (lv_at hl 0 rfl) ?_
  refine lv_ldc2 (v := (-8192)) hx hb hown (hts _ (List.mem_cons_of_mem _ klC_152)) dC_canBeTold_1 ?_
  refine xi_top (y := .long (lI (-8192))) (by decide +kernel) ?_
  refine xl_lt (tgt := 20) hx hb dC_canBeTold_4 dC_canBeTold_5 (by decide) (by omega) (by omega) (fun c_4 => ?_) (fun c_4 => ?_)
  · skip
    refine xi_iconst hx hb dC_canBeTold_20 ?_
    exact cut_21_1 false _ (dec_f (by omega)) (lv_sub hl [0] rfl)
  · skip
    refine lv_lload_n hx hb dC_canBeTold_8 rfl (lv_at hl 0 rfl) ?_
    refine lv_ldc2 (v := 8191) hx hb hown (hts _ (List.mem_cons_of_mem _ klC_154)) dC_canBeTold_9 ?_
    refine xi_top (y := .long (lI 8191)) (by decide +kernel) ?_
    refine xl_gt (tgt := 20) hx hb dC_canBeTold_12 dC_canBeTold_13 (by decide) (by omega) (by omega) (fun c_12 => ?_) (fun c_12 => ?_)
    · skip
      refine xi_iconst hx hb dC_canBeTold_20 ?_
      exact cut_21_1 false _ (dec_f (by omega)) (lv_sub hl [0] rfl)
    · skip
      refine xi_iconst hx hb dC_canBeTold_16 ?_
      refine lv_goto (tgt := 21) hx hb dC_canBeTold_17 (by decide) ?_
      exact cut_21_1 true _ (dec_t (by omega)) (lv_sub hl [0] rfl)
set_option maxHeartbeats 4000000 in
set_option maxRecDepth 100000 in
/-- canBeAsked -/
theorem k_canBeAsked (l : Launch) (dC : Nat → ClassId) (dI : Nat → Nat → Nat) (z : Int) (hz : -2147483648 ≤ z ∧ z ≤ 2147483647) : Met l yC_canBeAsked wC_canBeAsked ({ frames := 0, cells := 0, slots := 0, locals := 0 }) (va_Pc [.int (iI z)] (fun _ => True)) (vp_Si (fun r => r = iI (bz (decide (-16384 ≤ z ∧ z ≤ 16383))))) 0 0 (fun _ => False) := by
  refine Met.ofW (cc := cC_canBeAsked) (maxL := 1) (ret := (some .boolean)) (by decide) rfl ?_
  intro p e s m args below meth c s₁ B hml hv
  obtain ⟨hargs, -⟩ := hv
  have hx := B.exec
  have hb := B.bytes
  have hr := B.returns
  have hts := atoms_spec (ws := wC_canBeAsked) B.pre
  have hown : s.vm.findClass RC = some m.cls := findClass_of_methodNamed B.named
  have hlocks := B.notSynchronized
  refine x_name (fun R Q H locs hR hQ hH hlo => ?_)
  refine x_entry hargs (Nat.le_of_ble_eq_true rfl) (fun ls hl => ?_)
  have hl : lv_has ls 1 [(0, .int (iI z))] := hl
  have cut_19_1 : ∀ (v : Bool) (ls : Array Slot), (v = decide (-16384 ≤ z ∧ z ≤ 16383)) → lv_has ls 1 [(0, .int (iI z))] → W p l e R s m args below meth c H locs 0 0 Q (F0 m 19 ls [.int (iI (bz v))]) := by
    intro v ls hv hl
    subst hQ
    exact W.zret (v := (iI (bz v))) hx hb hr (xi_narZ2 _) (fun t9 ht9 hW9 => ⟨_, rfl, (by rw [hv]), ht9.trans hH⟩) (by rw [hlo]; intro q9 h9; cases h9) dC_canBeAsked_19
  refine lv_iload_n hx hb dC_canBeAsked_0 rfl (lv_at hl 0 rfl) ?_
  refine lv_sipush (v := iI (-16384)) hx hb dC_canBeAsked_1 (by decide +kernel) ?_
  refine xi_icmp_lt (tgt := 18) hx hb dC_canBeAsked_4 (by decide) (by omega) (by omega) (fun c_4 => ?_) (fun c_4 => ?_)
  · skip
    refine xi_iconst hx hb dC_canBeAsked_18 ?_
    exact cut_19_1 false _ (dec_f (by omega)) (lv_sub hl [0] rfl)
  · skip
    refine lv_iload_n hx hb dC_canBeAsked_7 rfl (lv_at hl 0 rfl) ?_
    refine lv_sipush (v := iI 16383) hx hb dC_canBeAsked_8 (by decide +kernel) ?_
    refine xi_icmp_gt (tgt := 18) hx hb dC_canBeAsked_11 (by decide) (by omega) (by omega) (fun c_11 => ?_) (fun c_11 => ?_)
    · skip
      refine xi_iconst hx hb dC_canBeAsked_18 ?_
      exact cut_19_1 false _ (dec_f (by omega)) (lv_sub hl [0] rfl)
    · skip
      refine xi_iconst hx hb dC_canBeAsked_14 ?_
      refine lv_goto (tgt := 19) hx hb dC_canBeAsked_15 (by decide) ?_
      exact cut_19_1 true _ (dec_t (by omega)) (lv_sub hl [0] rfl)
set_option maxHeartbeats 4000000 in
set_option maxRecDepth 100000 in
/-- isInPicture -/
theorem k_isInPicture (l : Launch) (dC : Nat → ClassId) (dI : Nat → Nat → Nat) (z : Int) (hz : -2147483648 ≤ z ∧ z ≤ 2147483647) : Met l yC_isInPicture wC_isInPicture ({ frames := 0, cells := 0, slots := 0, locals := 0 }) (va_Pc [.int (iI z)] (fun _ => True)) (vp_Si (fun r => r = iI (bz (decide (0 ≤ z ∧ z < 64))))) 0 0 (fun _ => False) := by
  refine Met.ofW (cc := cC_isInPicture) (maxL := 1) (ret := (some .boolean)) (by decide) rfl ?_
  intro p e s m args below meth c s₁ B hml hv
  obtain ⟨hargs, -⟩ := hv
  have hx := B.exec
  have hb := B.bytes
  have hr := B.returns
  have hts := atoms_spec (ws := wC_isInPicture) B.pre
  have hown : s.vm.findClass RC = some m.cls := findClass_of_methodNamed B.named
  have hlocks := B.notSynchronized
  refine x_name (fun R Q H locs hR hQ hH hlo => ?_)
  refine x_entry hargs (Nat.le_of_ble_eq_true rfl) (fun ls hl => ?_)
  have hl : lv_has ls 1 [(0, .int (iI z))] := hl
  have cut_15_1 : ∀ (v : Bool) (ls : Array Slot), (v = decide (0 ≤ z ∧ z < 64)) → lv_has ls 1 [(0, .int (iI z))] → W p l e R s m args below meth c H locs 0 0 Q (F0 m 15 ls [.int (iI (bz v))]) := by
    intro v ls hv hl
    subst hQ
    exact W.zret (v := (iI (bz v))) hx hb hr (xi_narZ2 _) (fun t9 ht9 hW9 => ⟨_, rfl, (by rw [hv]), ht9.trans hH⟩) (by rw [hlo]; intro q9 h9; cases h9) dC_isInPicture_15
  refine lv_iload_n hx hb dC_isInPicture_0 rfl (lv_at hl 0 rfl) ?_
  refine xi_if_lt (tgt := 14) hx hb dC_isInPicture_1 (by decide) (by omega) (fun c_1 => ?_) (fun c_1 => ?_)
  · skip
    refine xi_iconst hx hb dC_isInPicture_14 ?_
    exact cut_15_1 false _ (dec_f (by omega)) (lv_sub hl [0] rfl)
  · skip
    refine lv_iload_n hx hb dC_isInPicture_4 rfl (lv_at hl 0 rfl) ?_
    refine lv_bipush (v := iI 64) hx hb dC_isInPicture_5 (by decide +kernel) ?_
    refine xi_icmp_ge (tgt := 14) hx hb dC_isInPicture_7 (by decide) (by omega) (by omega) (fun c_7 => ?_) (fun c_7 => ?_)
    · skip
      refine xi_iconst hx hb dC_isInPicture_14 ?_
      exact cut_15_1 false _ (dec_f (by omega)) (lv_sub hl [0] rfl)
    · skip
      refine xi_iconst hx hb dC_isInPicture_10 ?_
      refine lv_goto (tgt := 15) hx hb dC_isInPicture_11 (by decide) ?_
      exact cut_15_1 true _ (dec_t (by omega)) (lv_sub hl [0] rfl)
set_option maxHeartbeats 4000000 in
set_option maxRecDepth 100000 in
/-- isCoordinate -/
theorem m_isCoordinate (l : Launch) (dC : Nat → ClassId) (dI : Nat → Nat → Nat) (z : Int) (hz : -9223372036854775808 ≤ z ∧ z ≤ 9223372036854775807) : Met l yM_isCoordinate wM_isCoordinate ({ frames := 0, cells := 0, slots := 0, locals := 0 }) (va_Pc [.long (lI z)] (fun _ => True)) (vp_Si (fun r => r = iI (bz (decide (-8192 ≤ z ∧ z ≤ 8191))))) 0 0 (fun _ => False) := by
  refine Met.ofW (cc := cM_isCoordinate) (maxL := 2) (ret := (some .boolean)) (by decide) rfl ?_
  intro p e s m args below meth c s₁ B hml hv
  obtain ⟨hargs, -⟩ := hv
  have hx := B.exec
  have hb := B.bytes
  have hr := B.returns
  have hts := atoms_spec (ws := wM_isCoordinate) B.pre
  have hown : s.vm.findClass RM = some m.cls := findClass_of_methodNamed B.named
  have hlocks := B.notSynchronized
  refine x_name (fun R Q H locs hR hQ hH hlo => ?_)
  refine x_entry hargs (Nat.le_of_ble_eq_true rfl) (fun ls hl => ?_)
  have hl : lv_has ls 2 [(0, .long (lI z))] := hl
  have cut_21_1 : ∀ (v : Bool) (ls : Array Slot), (v = decide (-8192 ≤ z ∧ z ≤ 8191)) → lv_has ls 2 [(0, .long (lI z))] → W p l e R s m args below meth c H locs 0 0 Q (F0 m 21 ls [.int (iI (bz v))]) := by
    intro v ls hv hl
    subst hQ
    exact W.zret (v := (iI (bz v))) hx hb hr (xi_narZ2 _) (fun t9 ht9 hW9 => ⟨_, rfl, (by rw [hv]), ht9.trans hH⟩) (by rw [hlo]; intro q9 h9; cases h9) dM_isCoordinate_21
  refine lv_lload_n hx hb dM_isCoordinate_0 rfl (lv_at hl 0 rfl) ?_
  refine lv_ldc2 (v := (-8192)) hx hb hown (hts _ (List.mem_cons_of_mem _ klM_42)) dM_isCoordinate_1 ?_
  refine xi_top (y := .long (lI (-8192))) (by decide +kernel) ?_
  refine xl_lt (tgt := 20) hx hb dM_isCoordinate_4 dM_isCoordinate_5 (by decide) (by omega) (by omega) (fun c_4 => ?_) (fun c_4 => ?_)
  · skip
    refine xi_iconst hx hb dM_isCoordinate_20 ?_
    exact cut_21_1 false _ (dec_f (by omega)) (lv_sub hl [0] rfl)
  · skip
    refine lv_lload_n hx hb dM_isCoordinate_8 rfl (lv_at hl 0 rfl) ?_
    refine lv_ldc2 (v := 8191) hx hb hown (hts _ (List.mem_cons_of_mem _ klM_44)) dM_isCoordinate_9 ?_
    refine xi_top (y := .long (lI 8191)) (by decide +kernel) ?_
    refine xl_gt (tgt := 20) hx hb dM_isCoordinate_12 dM_isCoordinate_13 (by decide) (by omega) (by omega) (fun c_12 => ?_) (fun c_12 => ?_)
    · skip
      refine xi_iconst hx hb dM_isCoordinate_20 ?_
      exact cut_21_1 false _ (dec_f (by omega)) (lv_sub hl [0] rfl)
    · skip
      refine xi_iconst hx hb dM_isCoordinate_16 ?_
      refine lv_goto (tgt := 21) hx hb dM_isCoordinate_17 (by decide) ?_
      exact cut_21_1 true _ (dec_t (by omega)) (lv_sub hl [0] rfl)
set_option maxHeartbeats 4000000 in
set_option maxRecDepth 100000 in
/-- isFar -/
theorem m_isFar (l : Launch) (dC : Nat → ClassId) (dI : Nat → Nat → Nat) (z : Int) (hz : -2147483648 ≤ z ∧ z ≤ 2147483647) : Met l yM_isFar wM_isFar ({ frames := 0, cells := 0, slots := 0, locals := 0 }) (va_Pc [.int (iI z)] (fun _ => True)) (vp_Si (fun r => r = iI (bz (decide (z < -16384 ∨ 16383 < z))))) 0 0 (fun _ => False) := by
  refine Met.ofW (cc := cM_isFar) (maxL := 1) (ret := (some .boolean)) (by decide) rfl ?_
  intro p e s m args below meth c s₁ B hml hv
  obtain ⟨hargs, -⟩ := hv
  have hx := B.exec
  have hb := B.bytes
  have hr := B.returns
  have hts := atoms_spec (ws := wM_isFar) B.pre
  have hown : s.vm.findClass RM = some m.cls := findClass_of_methodNamed B.named
  have hlocks := B.notSynchronized
  refine x_name (fun R Q H locs hR hQ hH hlo => ?_)
  refine x_entry hargs (Nat.le_of_ble_eq_true rfl) (fun ls hl => ?_)
  have hl : lv_has ls 1 [(0, .int (iI z))] := hl
  have cut_19_1 : ∀ (v : Bool) (ls : Array Slot), (v = decide (z < -16384 ∨ 16383 < z)) → lv_has ls 1 [(0, .int (iI z))] → W p l e R s m args below meth c H locs 0 0 Q (F0 m 19 ls [.int (iI (bz v))]) := by
    intro v ls hv hl
    subst hQ
    exact W.zret (v := (iI (bz v))) hx hb hr (xi_narZ2 _) (fun t9 ht9 hW9 => ⟨_, rfl, (by rw [hv]), ht9.trans hH⟩) (by rw [hlo]; intro q9 h9; cases h9) dM_isFar_19
  refine lv_iload_n hx hb dM_isFar_0 rfl (lv_at hl 0 rfl) ?_
  refine lv_sipush (v := iI (-16384)) hx hb dM_isFar_1 (by decide +kernel) ?_
  refine xi_icmp_lt (tgt := 14) hx hb dM_isFar_4 (by decide) (by omega) (by omega) (fun c_4 => ?_) (fun c_4 => ?_)
  · skip
    refine xi_iconst hx hb dM_isFar_14 ?_
    refine lv_goto (tgt := 19) hx hb dM_isFar_15 (by decide) ?_
    exact cut_19_1 true _ (dec_t (by omega)) (lv_sub hl [0] rfl)
  · skip
    refine lv_iload_n hx hb dM_isFar_7 rfl (lv_at hl 0 rfl) ?_
    refine lv_sipush (v := iI 16383) hx hb dM_isFar_8 (by decide +kernel) ?_
    refine xi_icmp_le (tgt := 18) hx hb dM_isFar_11 (by decide) (by omega) (by omega) (fun c_11 => ?_) (fun c_11 => ?_)
    · skip
      refine xi_iconst hx hb dM_isFar_18 ?_
      exact cut_19_1 false _ (dec_f (by omega)) (lv_sub hl [0] rfl)
    · skip
      refine xi_iconst hx hb dM_isFar_14 ?_
      refine lv_goto (tgt := 19) hx hb dM_isFar_15 (by decide) ?_
      exact cut_19_1 true _ (dec_t (by omega)) (lv_sub hl [0] rfl)
set_option maxHeartbeats 4000000 in
set_option maxRecDepth 100000 in
/-- isPlace -/
theorem m_isPlace (l : Launch) (dC : Nat → ClassId) (dI : Nat → Nat → Nat) (z : Int) (hz : -2147483648 ≤ z ∧ z ≤ 2147483647) : Met l yM_isPlace wM_isPlace ({ frames := 0, cells := 0, slots := 0, locals := 0 }) (va_Pc [.int (iI z)] (fun _ => True)) (vp_Si (fun r => r = iI (bz (decide (0 ≤ z ∧ z < 64))))) 0 0 (fun _ => False) := by
  refine Met.ofW (cc := cM_isPlace) (maxL := 1) (ret := (some .boolean)) (by decide) rfl ?_
  intro p e s m args below meth c s₁ B hml hv
  obtain ⟨hargs, -⟩ := hv
  have hx := B.exec
  have hb := B.bytes
  have hr := B.returns
  have hts := atoms_spec (ws := wM_isPlace) B.pre
  have hown : s.vm.findClass RM = some m.cls := findClass_of_methodNamed B.named
  have hlocks := B.notSynchronized
  refine x_name (fun R Q H locs hR hQ hH hlo => ?_)
  refine x_entry hargs (Nat.le_of_ble_eq_true rfl) (fun ls hl => ?_)
  have hl : lv_has ls 1 [(0, .int (iI z))] := hl
  have cut_15_1 : ∀ (v : Bool) (ls : Array Slot), (v = decide (0 ≤ z ∧ z < 64)) → lv_has ls 1 [(0, .int (iI z))] → W p l e R s m args below meth c H locs 0 0 Q (F0 m 15 ls [.int (iI (bz v))]) := by
    intro v ls hv hl
    subst hQ
    exact W.zret (v := (iI (bz v))) hx hb hr (xi_narZ2 _) (fun t9 ht9 hW9 => ⟨_, rfl, (by rw [hv]), ht9.trans hH⟩) (by rw [hlo]; intro q9 h9; cases h9) dM_isPlace_15
  refine lv_iload_n hx hb dM_isPlace_0 rfl (lv_at hl 0 rfl) ?_
  refine xi_if_lt (tgt := 14) hx hb dM_isPlace_1 (by decide) (by omega) (fun c_1 => ?_) (fun c_1 => ?_)
  · skip
    refine xi_iconst hx hb dM_isPlace_14 ?_
    exact cut_15_1 false _ (dec_f (by omega)) (lv_sub hl [0] rfl)
  · skip
    refine lv_iload_n hx hb dM_isPlace_4 rfl (lv_at hl 0 rfl) ?_
    refine lv_bipush (v := iI 64) hx hb dM_isPlace_5 (by decide +kernel) ?_
    refine xi_icmp_ge (tgt := 14) hx hb dM_isPlace_7 (by decide) (by omega) (by omega) (fun c_7 => ?_) (fun c_7 => ?_)
    · skip
      refine xi_iconst hx hb dM_isPlace_14 ?_
      exact cut_15_1 false _ (dec_f (by omega)) (lv_sub hl [0] rfl)
    · skip
      refine xi_iconst hx hb dM_isPlace_10 ?_
      refine lv_goto (tgt := 15) hx hb dM_isPlace_11 (by decide) ?_
      exact cut_15_1 true _ (dec_t (by omega)) (lv_sub hl [0] rfl)
set_option maxHeartbeats 4000000 in
set_option maxRecDepth 100000 in
/-- bottomOf -/
theorem k_bottomOf (l : Launch) (dC : Nat → ClassId) (dI : Nat → Nat → Nat) (z : Int) : Met l yC_bottomOf wC_bottomOf ({ frames := 0, cells := 0, slots := 0, locals := 0 }) (va_Pc [.int (iI z)] (fun _ => True)) (vp_Si (fun r => r = iI (64 * (63 - z)))) 0 0 (fun _ => False) := by
  refine Met.ofW (cc := cC_bottomOf) (maxL := 1) (ret := (some .int)) (by decide) rfl ?_
  intro p e s m args below meth c s₁ B hml hv
  obtain ⟨hargs, -⟩ := hv
  have hx := B.exec
  have hb := B.bytes
  have hr := B.returns
  have hts := atoms_spec (ws := wC_bottomOf) B.pre
  have hown : s.vm.findClass RC = some m.cls := findClass_of_methodNamed B.named
  have hlocks := B.notSynchronized
  refine x_name (fun R Q H locs hR hQ hH hlo => ?_)
  refine x_entry hargs (Nat.le_of_ble_eq_true rfl) (fun ls hl => ?_)
  have hl : lv_has ls 1 [(0, .int (iI z))] := hl
  refine lv_bipush (v := iI 64) hx hb dC_bottomOf_0 (by decide +kernel) ?_
  refine lv_bipush (v := iI 63) hx hb dC_bottomOf_2 (by decide +kernel) ?_
  refine lv_iload_n hx hb dC_bottomOf_4 rfl (lv_at hl 0 rfl) ?_
  refine xi_sub (z := 63 - z) hx hb dC_bottomOf_5 rfl ?_
  refine xi_mul (z := 64 * (63 - z)) hx hb dC_bottomOf_6 rfl ?_
  subst hQ
  exact W.iret (v := (iI (64 * (63 - z)))) hx hb hr (fun t9 ht9 hW9 => ⟨_, rfl, rfl, ht9.trans hH⟩) (by rw [hlo]; intro q9 h9; cases h9) dC_bottomOf_7
set_option maxHeartbeats 4000000 in
set_option maxRecDepth 100000 in
/-- ceiling -/
theorem m_ceiling (l : Launch) (dC : Nat → ClassId) (dI : Nat → Nat → Nat) (z b : Int) (hz : 0 ≤ z ∧ z ≤ 1000000000000) (hb0 : 0 < b ∧ b ≤ 1000000) : Met l yM_ceiling wM_ceiling ({ frames := 0, cells := 0, slots := 0, locals := 0 }) (va_Pc [.long (lI z), .long (lI b)] (fun _ => True)) (vp_Sl (fun r => r = lI ((z + b - 1) / b))) 0 0 (fun _ => False) := by
  refine Met.ofW (cc := cM_ceiling) (maxL := 4) (ret := (some .long)) (by decide) rfl ?_
  intro p e s m args below meth c s₁ B hml hv
  obtain ⟨hargs, -⟩ := hv
  have hx := B.exec
  have hb := B.bytes
  have hr := B.returns
  have hts := atoms_spec (ws := wM_ceiling) B.pre
  have hown : s.vm.findClass RM = some m.cls := findClass_of_methodNamed B.named
  have hlocks := B.notSynchronized
  refine x_name (fun R Q H locs hR hQ hH hlo => ?_)
  refine x_entry hargs (Nat.le_of_ble_eq_true rfl) (fun ls hl => ?_)
  have hl : lv_has ls 4 [(0, .long (lI z)), (2, .long (lI b))] := hl
  refine lv_lload_n hx hb dM_ceiling_0 rfl (lv_at hl 0 rfl) ?_
  refine lv_lload_n hx hb dM_ceiling_1 rfl (lv_at hl 1 rfl) ?_
  refine xl_add (z := z + b) hx hb dM_ceiling_2 rfl ?_
  refine lv_lconst (v := lI 1) hx hb dM_ceiling_3 (by decide +kernel) ?_
  refine xl_sub (z := (z + b) - 1) hx hb dM_ceiling_4 rfl ?_
  refine lv_lload_n hx hb dM_ceiling_5 rfl (lv_at hl 1 rfl) ?_
  refine xl_div (z := ((z + b) - 1) / b) hx hb dM_ceiling_6 (by omega) (by omega) rfl ?_
  subst hQ
  exact W.lret (v := (lI (((z + b) - 1) / b))) hx hb hr (fun t9 ht9 hW9 => ⟨_, rfl, rfl, ht9.trans hH⟩) (by rw [hlo]; intro q9 h9; cases h9) dM_ceiling_7
set_option maxHeartbeats 4000000 in
set_option maxRecDepth 100000 in
/-- signOf -/
theorem m_signOf (l : Launch) (dC : Nat → ClassId) (dI : Nat → Nat → Nat) (z : Int) (hz : -9223372036854775808 ≤ z ∧ z ≤ 9223372036854775807) : Met l yM_signOf wM_signOf ({ frames := 0, cells := 0, slots := 0, locals := 0 }) (va_Pc [.long (lI z)] (fun _ => True)) (vp_Si (fun r => r = iI (sgn z))) 0 0 (fun _ => False) := by
  refine Met.ofW (cc := cM_signOf) (maxL := 2) (ret := (some .int)) (by decide) rfl ?_
  intro p e s m args below meth c s₁ B hml hv
  obtain ⟨hargs, -⟩ := hv
  have hx := B.exec
  have hb := B.bytes
  have hr := B.returns
  have hts := atoms_spec (ws := wM_signOf) B.pre
  have hown : s.vm.findClass RM = some m.cls := findClass_of_methodNamed B.named
  have hlocks := B.notSynchronized
  refine x_name (fun R Q H locs hR hQ hH hlo => ?_)
  refine x_entry hargs (Nat.le_of_ble_eq_true rfl) (fun ls hl => ?_)
  have hl : lv_has ls 2 [(0, .long (lI z))] := hl
  have cut_21_1 : ∀ (v : Int) (ls : Array Slot), (v = sgn z) → lv_has ls 2 [(0, .long (lI z))] → W p l e R s m args below meth c H locs 0 0 Q (F0 m 21 ls [.int (iI v)]) := by
    intro v ls hv hl
    subst hQ
    exact W.iret (v := (iI v)) hx hb hr (fun t9 ht9 hW9 => ⟨_, rfl, (by rw [hv]), ht9.trans hH⟩) (by rw [hlo]; intro q9 h9; cases h9) dM_signOf_21
  refine lv_lload_n hx hb dM_signOf_0 rfl (lv_at hl 0 rfl) ?_
  refine lv_lconst (v := lI 0) hx hb dM_signOf_1 (by decide +kernel) ?_
  refine xl_le (tgt := 10) hx hb dM_signOf_2 dM_signOf_3 (by decide) (by omega) (by omega) (fun c_2 => ?_) (fun c_2 => ?_)
  · skip
    refine lv_lload_n hx hb dM_signOf_10 rfl (lv_at hl 0 rfl) ?_
    refine lv_lconst (v := lI 0) hx hb dM_signOf_11 (by decide +kernel) ?_
    refine xl_ge (tgt := 20) hx hb dM_signOf_12 dM_signOf_13 (by decide) (by omega) (by omega) (fun c_12 => ?_) (fun c_12 => ?_)
    · skip
      refine xi_iconst hx hb dM_signOf_20 ?_
      exact cut_21_1 0 _ ((sgn_0 (by omega)).symm) (lv_sub hl [0] rfl)
    · skip
      refine xi_iconst hx hb dM_signOf_16 ?_
      refine lv_goto (tgt := 21) hx hb dM_signOf_17 (by decide) ?_
      exact cut_21_1 (-1) _ ((sgn_n (by omega)).symm) (lv_sub hl [0] rfl)
  · skip
    refine xi_iconst hx hb dM_signOf_6 ?_
    refine lv_goto (tgt := 21) hx hb dM_signOf_7 (by decide) ?_
    exact cut_21_1 1 _ ((sgn_p (by omega)).symm) (lv_sub hl [0] rfl)
set_option maxHeartbeats 4000000 in
set_option maxRecDepth 100000 in
/-- Math.floorDiv, by a number above 0 -/
theorem j_floorDiv (l : Launch) (dC : Nat → ClassId) (dI : Nat → Nat → Nat) (a b : Int) (ha : -2147483648 ≤ a ∧ a ≤ 2147483647) (hb0 : 0 < b ∧ b ≤ 2147483647) : Met l yJM_floorDiv wJM_floorDiv ({ frames := 0, cells := 0, slots := 0, locals := 0 }) (va_Pc [.int (iI a), .int (iI b)] (fun _ => True)) (vp_Si (fun r => r = iI (a / b))) 0 0 (fun _ => False) := by
  refine va_MetF (cc := cJM_floorDiv) (maxL := 3) (ret := (some .int)) (by decide +kernel) rfl ?_
  intro p e s m args below meth c s₁ B hml hv
  obtain ⟨hargs, -⟩ := hv
  have hx := B.exec
  have hb := B.bytes
  have hr := B.returns
  have hts := atoms_spec (ws := wJM_floorDiv) B.pre
  have hown : s.vm.findClass RJM = some m.cls := findClass_of_methodNamed B.named
  have hlocks := B.notSynchronized
  refine x_name (fun R Q H locs hR hQ hH hlo => ?_)
  refine x_entry hargs (Nat.le_of_ble_eq_true rfl) (fun ls hl => ?_)
  have hl : lv_has ls 3 [(0, .int (iI a)), (1, .int (iI b))] := hl
  have h9 := td_bd ha hb0.1
  refine lv_iload_n hx hb dJM_floorDiv_0 rfl (lv_at hl 0 rfl) ?_
  refine lv_iload_n hx hb dJM_floorDiv_1 rfl (lv_at hl 1 rfl) ?_
  refine lv_idiv hx hb dJM_floorDiv_2 (fun h => by have h2 := (iI_eq (b := 0) (by omega) (by omega)).mp h; omega) ?_
  refine xi_top (y := .int (iI (a.tdiv b))) (by rw [iI_tdiv ha hb0]) ?_
  refine lv_istore_n (lv' := [(2, .int (iI (a.tdiv b))), (0, .int (iI a)), (1, .int (iI b))]) hx hb dJM_floorDiv_3 rfl hl (by decide) rfl (fun ls hl => ?_)
  refine lv_iload_n hx hb dJM_floorDiv_4 rfl (lv_at hl 1 rfl) ?_
  refine lv_iload_n hx hb dJM_floorDiv_5 rfl (lv_at hl 2 rfl) ?_
  refine lv_ixor hx hb dJM_floorDiv_6 ?_
  refine lv_if_ge (tgt := 21) hx hb dJM_floorDiv_7 (by decide) (fun c_7 => ?_) (fun c_7 => ?_)
  · have c_7 := (fd_xor ha hb0).mp c_7
    refine lv_iload_n hx hb dJM_floorDiv_21 rfl (lv_at hl 0 rfl) ?_
    subst hQ
    exact W.iret (v := (iI (a.tdiv b))) hx hb hr (fun t9 ht9 hW9 => ⟨_, rfl, (by rw [(h9.1 c_7).2.2]), ht9.trans hH⟩) (by rw [hlo]; intro q9 h9; cases h9) dJM_floorDiv_22
  · have c_7 : a < 0 := by have := mt (fd_xor ha hb0).mpr c_7; omega
    have h8 := h9.2 c_7
    refine lv_iload_n hx hb dJM_floorDiv_10 rfl (lv_at hl 0 rfl) ?_
    refine lv_iload_n hx hb dJM_floorDiv_11 rfl (lv_at hl 2 rfl) ?_
    refine xi_mul (z := (a.tdiv b) * b) hx hb dJM_floorDiv_12 rfl ?_
    refine lv_iload_n hx hb dJM_floorDiv_13 rfl (lv_at hl 1 rfl) ?_
    refine xi_icmp_eq (tgt := 21) hx hb dJM_floorDiv_14 (by decide) (by omega) (by omega) (fun c_14 => ?_) (fun c_14 => ?_)
    · skip
      refine lv_iload_n hx hb dJM_floorDiv_21 rfl (lv_at hl 0 rfl) ?_
      subst hQ
      exact W.iret (v := (iI (a.tdiv b))) hx hb hr (fun t9 ht9 hW9 => ⟨_, rfl, (by rw [fd_eq c_14]), ht9.trans hH⟩) (by rw [hlo]; intro q9 h9; cases h9) dJM_floorDiv_22
    · skip
      refine lv_iload_n hx hb dJM_floorDiv_17 rfl (lv_at hl 0 rfl) ?_
      refine xi_iconst hx hb dJM_floorDiv_18 ?_
      refine xi_sub (z := (a.tdiv b) - 1) hx hb dJM_floorDiv_19 rfl ?_
      subst hQ
      exact W.iret (v := (iI ((a.tdiv b) - 1))) hx hb hr (fun t9 ht9 hW9 => ⟨_, rfl, (by rw [fd_ne c_7 hb0.1 c_14]), ht9.trans hH⟩) (by rw [hlo]; intro q9 h9; cases h9) dJM_floorDiv_20
set_option maxHeartbeats 4000000 in
set_option maxRecDepth 100000 in
/-- floorOfLeast -/
theorem p_floorOfLeast (l : Launch) (dC : Nat → ClassId) (dI : Nat → Nat → Nat) (a q b : Int) (ha : -16384 ≤ a ∧ a ≤ 16384) (hq : -16384 ≤ q ∧ q ≤ 16384) (hb0 : -16384 ≤ b ∧ b ≤ 16384) : Met l yP_floorOfLeast wP_floorOfLeast ({ frames := 1, cells := 0, slots := 0, locals := 30 }) (va_Pc [.int (iI a), .int (iI q), .int (iI b)] (fun _ => True)) (vp_Si (fun r => r = iI (fol a q b))) 0 0 (fun _ => False) := by
  refine Met.ofW (cc := cP_floorOfLeast) (maxL := 4) (ret := (some .int)) (by decide) rfl ?_
  intro p e s m args below meth c s₁ B hml hv
  obtain ⟨hargs, -⟩ := hv
  have hx := B.exec
  have hb := B.bytes
  have hr := B.returns
  have hts := atoms_spec (ws := wP_floorOfLeast) B.pre
  have hown : s.vm.findClass RP = some m.cls := findClass_of_methodNamed B.named
  have hlocks := B.notSynchronized
  refine x_name (fun R Q H locs hR hQ hH hlo => ?_)
  refine x_entry hargs (Nat.le_of_ble_eq_true rfl) (fun ls hl => ?_)
  have hl : lv_has ls 4 [(0, .int (iI a)), (1, .int (iI q)), (2, .int (iI b))] := hl
  refine lv_iload_n hx hb dP_floorOfLeast_0 rfl (lv_at hl 0 rfl) ?_
  refine xi_iconst hx hb dP_floorOfLeast_1 ?_
  refine lv_iload_n hx hb dP_floorOfLeast_2 rfl (lv_at hl 1 rfl) ?_
  refine xi_mul (z := 2 * q) hx hb dP_floorOfLeast_3 rfl ?_
  refine xi_sub (z := a - 2 * q) hx hb dP_floorOfLeast_4 rfl ?_
  refine lv_iload_n hx hb dP_floorOfLeast_5 rfl (lv_at hl 2 rfl) ?_
  refine xi_add (z := a - 2 * q + b) hx hb dP_floorOfLeast_6 rfl ?_
  refine lv_istore_n (lv' := [(3, .int (iI (a - 2 * q + b))), (0, .int (iI a)), (1, .int (iI q)), (2, .int (iI b))]) hx hb dP_floorOfLeast_7 rfl hl (by decide) rfl (fun ls hl => ?_)
  refine lv_iload_n hx hb dP_floorOfLeast_8 rfl (lv_at hl 2 rfl) ?_
  refine lv_iload_n hx hb dP_floorOfLeast_9 rfl (lv_at hl 1 rfl) ?_
  refine xi_icmp_ge (tgt := 37) hx hb dP_floorOfLeast_10 (by decide) (by omega) (by omega) (fun c_10 => ?_) (fun c_10 => ?_)
  · skip
    refine lv_iload_n hx hb dP_floorOfLeast_37 rfl (lv_at hl 1 rfl) ?_
    refine lv_iload_n hx hb dP_floorOfLeast_38 rfl (lv_at hl 3 rfl) ?_
    refine va_mmin hx hb (hml.trans hl.1.symm) hown (hts _ (List.mem_cons_of_mem _ mlP_60)) (hts _ (List.mem_cons_of_mem _ smJM_min)) (hts _ (List.mem_cons_of_mem _ iniJM)) (hts _ (List.mem_cons_of_mem _ coJM_min)) (by subst hR; exact Nat.le_of_ble_eq_true rfl) (by subst hR; exact Nat.le_of_ble_eq_true rfl) (by subst hR; exact Nat.zero_le _) (by subst hR; exact Nat.zero_le _) dP_floorOfLeast_39 ?_
    refine xi_top (y := .int (iI (min a b))) (by rw [xi_min (by omega) (by omega)]) ?_
    subst hQ
    exact W.iret (v := (iI (min a b))) hx hb hr (fun t9 ht9 hW9 => ⟨_, rfl, (by unfold fol; rw [if_neg (by omega)]), ht9.trans hH⟩) (by rw [hlo]; intro q9 h9; cases h9) dP_floorOfLeast_42
  · skip
    refine lv_iload_n hx hb dP_floorOfLeast_13 rfl (lv_at hl 2 rfl) ?_
    refine lv_iload_n hx hb dP_floorOfLeast_14 rfl (lv_at hl 3 rfl) ?_
    refine xi_icmp_ge (tgt := 37) hx hb dP_floorOfLeast_15 (by decide) (by omega) (by omega) (fun c_15 => ?_) (fun c_15 => ?_)
    · skip
      refine lv_iload_n hx hb dP_floorOfLeast_37 rfl (lv_at hl 1 rfl) ?_
      refine lv_iload_n hx hb dP_floorOfLeast_38 rfl (lv_at hl 3 rfl) ?_
      refine va_mmin hx hb (hml.trans hl.1.symm) hown (hts _ (List.mem_cons_of_mem _ mlP_60)) (hts _ (List.mem_cons_of_mem _ smJM_min)) (hts _ (List.mem_cons_of_mem _ iniJM)) (hts _ (List.mem_cons_of_mem _ coJM_min)) (by subst hR; exact Nat.le_of_ble_eq_true rfl) (by subst hR; exact Nat.le_of_ble_eq_true rfl) (by subst hR; exact Nat.zero_le _) (by subst hR; exact Nat.zero_le _) dP_floorOfLeast_39 ?_
      refine xi_top (y := .int (iI (min a b))) (by rw [xi_min (by omega) (by omega)]) ?_
      subst hQ
      exact W.iret (v := (iI (min a b))) hx hb hr (fun t9 ht9 hW9 => ⟨_, rfl, (by unfold fol; rw [if_neg (by omega)]), ht9.trans hH⟩) (by rw [hlo]; intro q9 h9; cases h9) dP_floorOfLeast_42
    · skip
      refine lv_iload_n hx hb dP_floorOfLeast_18 rfl (lv_at hl 0 rfl) ?_
      refine xi_if_le (tgt := 37) hx hb dP_floorOfLeast_19 (by decide) (by omega) (fun c_19 => ?_) (fun c_19 => ?_)
      · exact absurd c_19 (by omega)
      · skip
        have h8 := mul_bd 32768 32768 (a := -(q - a)) (b := q - a) (by omega) (by omega)
        refine lv_iload_n hx hb dP_floorOfLeast_22 rfl (lv_at hl 1 rfl) ?_
        refine lv_iload_n hx hb dP_floorOfLeast_23 rfl (lv_at hl 2 rfl) ?_
        refine lv_iload_n hx hb dP_floorOfLeast_24 rfl (lv_at hl 1 rfl) ?_
        refine xi_sub (z := q - a) hx hb dP_floorOfLeast_25 rfl ?_
        refine xi_neg (z := -(q - a)) hx hb dP_floorOfLeast_26 rfl ?_
        refine lv_iload_n hx hb dP_floorOfLeast_27 rfl (lv_at hl 2 rfl) ?_
        refine lv_iload_n hx hb dP_floorOfLeast_28 rfl (lv_at hl 1 rfl) ?_
        refine xi_sub (z := q - a) hx hb dP_floorOfLeast_29 rfl ?_
        refine xi_mul (z := -(q - a) * (q - a)) hx hb dP_floorOfLeast_30 rfl ?_
        refine lv_iload_n hx hb dP_floorOfLeast_31 rfl (lv_at hl 0 rfl) ?_
        refine vp_callSi (W.runS (As := [.int (iI (-(q - a) * (q - a))), .int (iI (a - 2 * q + b))]) (rest := [.int (iI a)]) ⟨hx, hb, hml, hown, hts⟩ (j_floorDiv l dC dI (-(q - a) * (q - a)) (a - 2 * q + b) (by omega) (by omega)) (va_cwS 2 hts (tb_S mlP_54 smJM_floorDiv iniJM coJM_floorDiv) rfl rfl rfl (by decide +kernel) (by subst hR; exact ⟨Nat.le_of_ble_eq_true rfl, Nat.le_of_ble_eq_true rfl⟩)) ⟨fun a9 U9 g9 mk9 q9 => q9, fun U hU hW => ⟨rfl, trivial⟩⟩ rfl rfl hl.1 rfl (lv_room (Nat.le_of_ble_eq_true rfl)) dP_floorOfLeast_32 ⟨by subst hR; exact Nat.zero_le _, by subst hR; exact Nat.zero_le _⟩) (fun r_32 hw_32 => ?_)
        subst hw_32
        refine xi_add (z := a + ((-(q - a) * (q - a)) / (a - 2 * q + b))) hx hb dP_floorOfLeast_35 rfl ?_
        subst hQ
        exact W.iret (v := (iI (a + ((-(q - a) * (q - a)) / (a - 2 * q + b))))) hx hb hr (fun t9 ht9 hW9 => ⟨_, rfl, (by unfold fol; rw [if_pos (by omega)]), ht9.trans hH⟩) (by rw [hlo]; intro q9 h9; cases h9) dP_floorOfLeast_36
end
section
/-! Piece and Place -/
def crs (oy sy py qy ry y : Int) (u : Bool) : Bool :=
  if decide (y < py) = decide (y < ry) then (decide (y < qy) != decide (y < py)) && decide (0 < oy * oy - 4 * sy * (py - y)) else decide (y < ry) == u
theorem crs_a {oy sy py qy ry y : Int} {u : Bool} (h : decide (y < py) ≠ decide (y < ry)) : crs oy sy py qy ry y u = (decide (y < ry) == u) := if_neg h
theorem crs_b {oy sy py qy ry y : Int} {u : Bool} (h : decide (y < py) = decide (y < ry)) : crs oy sy py qy ry y u = ((decide (y < qy) != decide (y < py)) && decide (0 < oy * oy - 4 * sy * (py - y))) := if_pos h
def tkF (sx ox sy oy : Int) (u : Bool) : Int := if sy = 0 then 0 else if u = true then sy * ox - sx * oy else -(sy * ox - sx * oy)
def tkU (sy oy py y : Int) : Int := if sy = 0 then 0 else oy * oy - 4 * sy * (py - y)
def tkS (sy oy : Int) : Int := if sy = 0 then oy * oy else 2 * sy * sy
def tkW (sx ox sy oy px py y : Int) : Int := if sy = 0 then sx * (py - y) * (py - y) - ox * oy * (py - y) + oy * oy * px else -(sy * ox - sx * oy) * oy - 2 * sy * sx * (py - y) + 2 * sy * sy * px
theorem crv_1 {u n t : Int} (ht : 0 < t) (h : 32768 < n / t) : crv u n t = 1 := by unfold crv; rw [if_neg (by omega), if_pos h]
theorem crv_2 {u n t q r k : Int} (ht : 0 < t) (hq : q = n / t) (hr : r = n % t) (h : ¬ 32768 < q) (hk : k = (u - q * q) * t - 2 * q * r) : crv u n t = if k < 0 then 1 else if r < k then -1 else r * r - k * t := by
  subst hk; subst hq; subst hr
  unfold crv
  rw [if_neg (by omega), if_neg h]

set_option maxHeartbeats 4000000 in
set_option maxRecDepth 100000 in
/-- underRoot -/
theorem p_underRoot (l : Launch) (dC : Nat → ClassId) (dI : Nat → Nat → Nat) (h0 : Nat) (ln : Bool) (sx ox sy oy px py qx qy rx ry : Int) (y : Int) (h1 : -32768 ≤ oy ∧ oy ≤ 32768) (h2 : -32768 ≤ sy ∧ sy ≤ 32768) (h3 : -8192 ≤ py ∧ py ≤ 8192) (h4 : -16384 ≤ y ∧ y ≤ 16384) : Met l yP_underRoot wP_underRoot ({ frames := 0, cells := 0, slots := 0, locals := 0 }) (va_Pc [.ref h0, .int (iI y)] (fun U => va_P (dC, dI) vwCl [(h0, .inr (0, [.int (iI (bz ln)), .int (iI sx), .int (iI ox), .int (iI sy), .int (iI oy), .int (iI px), .int (iI py), .int (iI qx), .int (iI qy), .int (iI rx), .int (iI ry)]))] U.heap ∧ va_K (dC, dI) vwCl [] U)) (vp_Sl (fun r => r = lI (oy * oy - 4 * sy * (py - y)))) 0 0 (fun _ => False) := by
  refine Met.ofW (cc := cP_underRoot) (maxL := 2) (ret := (some .long)) (by decide) rfl ?_
  intro p e s m args below meth c s₁ B hml hv
  obtain ⟨hargs, hP, hK⟩ := hv
  have hx := B.exec
  have hb := B.bytes
  have hr := B.returns
  have hts := atoms_spec (ws := wP_underRoot) B.pre
  have hown : s.vm.findClass RP = some m.cls := findClass_of_methodNamed B.named
  have hlocks := B.notSynchronized
  refine x_name (fun R Q H locs hR hQ hH hlo => ?_)
  rw [← hH] at hP
  refine x_entry hargs (Nat.le_of_ble_eq_true rfl) (fun ls hl => ?_)
  have hl : lv_has ls 2 [(0, .ref h0), (1, .int (iI y))] := hl
  have hP : va_P (dC, dI) vwCl [(h0, .inr (0, [.int (iI (bz ln)), .int (iI sx), .int (iI ox), .int (iI sy), .int (iI oy), .int (iI px), .int (iI py), .int (iI qx), .int (iI qy), .int (iI rx), .int (iI ry)]))] H := hP
  refine lv_aload_n hx hb dP_underRoot_0 rfl (lv_at hl 0 rfl) ?_
  refine va_get (D := (dC, dI)) (ci := 0) (v := .int (iI oy)) (C := RP) (T := TP) (N := 11) hx hb hts (fun w9 h9 => List.mem_cons_of_mem _ (inP w9 h9)) hown hK hP 0 rfl rfl 4 (by decide) (hts _ (List.mem_cons_of_mem _ flP_41)) (fun _ h9 => h9) rfl dP_underRoot_1 ?_
  refine xl_i2l hx hb dP_underRoot_4 (by omega) ?_
  refine lv_aload_n hx hb dP_underRoot_5 rfl (lv_at hl 0 rfl) ?_
  refine va_get (D := (dC, dI)) (ci := 0) (v := .int (iI oy)) (C := RP) (T := TP) (N := 11) hx hb hts (fun w9 h9 => List.mem_cons_of_mem _ (inP w9 h9)) hown hK hP 0 rfl rfl 4 (by decide) (hts _ (List.mem_cons_of_mem _ flP_41)) (fun _ h9 => h9) rfl dP_underRoot_6 ?_
  refine xl_i2l hx hb dP_underRoot_9 (by omega) ?_
  refine xl_mul (z := oy * oy) hx hb dP_underRoot_10 rfl ?_
  refine lv_ldc2 (v := 4) hx hb hown (hts _ (List.mem_cons_of_mem _ klP_48)) dP_underRoot_11 ?_
  refine xi_top (y := .long (lI 4)) (by decide +kernel) ?_
  refine lv_aload_n hx hb dP_underRoot_14 rfl (lv_at hl 0 rfl) ?_
  refine va_get (D := (dC, dI)) (ci := 0) (v := .int (iI sy)) (C := RP) (T := TP) (N := 11) hx hb hts (fun w9 h9 => List.mem_cons_of_mem _ (inP w9 h9)) hown hK hP 0 rfl rfl 3 (by decide) (hts _ (List.mem_cons_of_mem _ flP_35)) (fun _ h9 => h9) rfl dP_underRoot_15 ?_
  refine xl_i2l hx hb dP_underRoot_18 (by omega) ?_
  refine xl_mul (z := 4 * sy) hx hb dP_underRoot_19 rfl ?_
  refine lv_aload_n hx hb dP_underRoot_20 rfl (lv_at hl 0 rfl) ?_
  refine va_get (D := (dC, dI)) (ci := 0) (v := .int (iI py)) (C := RP) (T := TP) (N := 11) hx hb hts (fun w9 h9 => List.mem_cons_of_mem _ (inP w9 h9)) hown hK hP 0 rfl rfl 6 (by decide) (hts _ (List.mem_cons_of_mem _ flP_17)) (fun _ h9 => h9) rfl dP_underRoot_21 ?_
  refine lv_iload_n hx hb dP_underRoot_24 rfl (lv_at hl 1 rfl) ?_
  refine xi_sub (z := py - y) hx hb dP_underRoot_25 rfl ?_
  refine xl_i2l hx hb dP_underRoot_26 (by omega) ?_
  refine xl_mul (z := (4 * sy) * (py - y)) hx hb dP_underRoot_27 rfl ?_
  refine xl_sub (z := (oy * oy) - ((4 * sy) * (py - y))) hx hb dP_underRoot_28 rfl ?_
  subst hQ
  exact W.lret (v := (lI ((oy * oy) - ((4 * sy) * (py - y))))) hx hb hr (fun t9 ht9 hW9 => ⟨_, rfl, rfl, ht9.trans hH⟩) (by rw [hlo]; intro q9 h9; cases h9) dP_underRoot_29
set_option maxHeartbeats 4000000 in
set_option maxRecDepth 100000 in
/-- crosses -/
theorem p_crosses (l : Launch) (dC : Nat → ClassId) (dI : Nat → Nat → Nat) (h0 : Nat) (ln : Bool) (sx ox sy oy px py qx qy rx ry : Int) (y : Int) (u : Bool) (h1 : -32768 ≤ oy ∧ oy ≤ 32768) (h2 : -32768 ≤ sy ∧ sy ≤ 32768) (h3 : -8192 ≤ py ∧ py ≤ 8192) (h4 : -16384 ≤ y ∧ y ≤ 16384) (h5 : -8192 ≤ qy ∧ qy ≤ 8192) (h6 : -8192 ≤ ry ∧ ry ≤ 8192) : Met l yP_crosses wP_crosses ({ frames := 1, cells := 0, slots := 0, locals := 21 }) (va_Pc [.ref h0, .int (iI y), .int (iI (bz u))] (fun U => va_P (dC, dI) vwCl [(h0, .inr (0, [.int (iI (bz ln)), .int (iI sx), .int (iI ox), .int (iI sy), .int (iI oy), .int (iI px), .int (iI py), .int (iI qx), .int (iI qy), .int (iI rx), .int (iI ry)]))] U.heap ∧ va_K (dC, dI) vwCl [] U)) (vp_Si (fun r => r = iI (bz (crs oy sy py qy ry y u)))) 0 0 (fun _ => False) := by
  refine Met.ofW (cc := cP_crosses) (maxL := 5) (ret := (some .boolean)) (by decide) rfl ?_
  intro p e s m args below meth c s₁ B hml hv
  obtain ⟨hargs, hP, hK⟩ := hv
  have hx := B.exec
  have hb := B.bytes
  have hr := B.returns
  have hts := atoms_spec (ws := wP_crosses) B.pre
  have hown : s.vm.findClass RP = some m.cls := findClass_of_methodNamed B.named
  have hlocks := B.notSynchronized
  refine x_name (fun R Q H locs hR hQ hH hlo => ?_)
  rw [← hH] at hP
  refine x_entry hargs (Nat.le_of_ble_eq_true rfl) (fun ls hl => ?_)
  have hl : lv_has ls 5 [(0, .ref h0), (1, .int (iI y)), (2, .int (iI (bz u)))] := hl
  have hP : va_P (dC, dI) vwCl [(h0, .inr (0, [.int (iI (bz ln)), .int (iI sx), .int (iI ox), .int (iI sy), .int (iI oy), .int (iI px), .int (iI py), .int (iI qx), .int (iI qy), .int (iI rx), .int (iI ry)]))] H := hP
  have cut_13_1 : ∀ (v1 : Bool) (ls : Array Slot), (v1 = decide (y < py)) → lv_has ls 5 [(0, .ref h0), (1, .int (iI y)), (2, .int (iI (bz u)))] → W p l e R s m args below meth c H locs 0 0 Q (F0 m 13 ls [.int (iI (bz v1))]) := by
    intro v1 ls hv1 hl
    refine lv_istore_n (lv' := [(3, .int (iI (bz v1))), (0, .ref h0), (1, .int (iI y)), (2, .int (iI (bz u)))]) hx hb dP_crosses_13 rfl hl (by decide) rfl (fun ls hl => ?_)
    have cut_27_2 : ∀ (v2 : Bool) (ls : Array Slot), (v2 = decide (y < ry)) → lv_has ls 5 [(3, .int (iI (bz v1))), (0, .ref h0), (1, .int (iI y)), (2, .int (iI (bz u)))] → W p l e R s m args below meth c H locs 0 0 Q (F0 m 27 ls [.int (iI (bz v2))]) := by
      intro v2 ls hv2 hl
      refine lv_istore (lv' := [(4, .int (iI (bz v2))), (3, .int (iI (bz v1))), (0, .ref h0), (1, .int (iI y)), (2, .int (iI (bz u)))]) hx hb dP_crosses_27 hl (by decide) rfl (fun ls hl => ?_)
      refine lv_iload_n hx hb dP_crosses_29 rfl (lv_at hl 1 rfl) ?_
      refine lv_iload hx hb dP_crosses_30 (lv_at hl 0 rfl) ?_
      refine xb_icmp_eq (tgt := 47) hx hb dP_crosses_32 (by decide) (fun c_32 => ?_) (fun c_32 => ?_)
      · skip
        have cut_60_3 : ∀ (v3 : Bool) (ls : Array Slot), (v3 = decide (y < qy)) → lv_has ls 5 [(4, .int (iI (bz v2))), (3, .int (iI (bz v1))), (0, .ref h0), (1, .int (iI y)), (2, .int (iI (bz u)))] → W p l e R s m args below meth c H locs 0 0 Q (F0 m 60 ls [.int (iI (bz v3))]) := by
          intro v3 ls hv3 hl
          refine lv_iload_n hx hb dP_crosses_60 rfl (lv_at hl 1 rfl) ?_
          have cut_79_4 : ∀ (w : Bool) (ls : Array Slot), (w = crs oy sy py qy ry y u) → lv_has ls 5 [(4, .int (iI (bz v2))), (3, .int (iI (bz v1))), (0, .ref h0), (1, .int (iI y)), (2, .int (iI (bz u)))] → W p l e R s m args below meth c H locs 0 0 Q (F0 m 79 ls [.int (iI (bz w))]) := by
            intro w ls hw hl
            subst hQ
            exact W.zret (v := (iI (bz w))) hx hb hr (xi_narZ2 _) (fun t9 ht9 hW9 => ⟨_, rfl, (by rw [hw]), ht9.trans hH⟩) (by rw [hlo]; intro q9 h9; cases h9) dP_crosses_79
          refine xb_icmp_eq (tgt := 78) hx hb dP_crosses_61 (by decide) (fun c_61 => ?_) (fun c_61 => ?_)
          · skip
            refine xi_iconst hx hb dP_crosses_78 ?_
            exact cut_79_4 false _ (by rw [crs_b (by rw [← hv1, ← hv2]; exact c_32), ← hv3, ← hv1, c_61]; cases v1 <;> rfl) (lv_sub hl [0, 1, 2, 3, 4] rfl)
          · skip
            refine lv_aload_n hx hb dP_crosses_64 rfl (lv_at hl 2 rfl) ?_
            refine lv_iload_n hx hb dP_crosses_65 rfl (lv_at hl 3 rfl) ?_
            refine vp_callSl (W.runV (As := [.int (iI y)]) (rest := []) ⟨hx, hb, hml, hown, hts⟩ (p_underRoot l dC dI h0 ln sx ox sy oy px py qx qy rx ry y h1 h2 h3 h4) (cwV 1 hts (tb_V mlP_44 imP_underRoot seP_underRoot iniP coP_underRoot) rfl rfl rfl (by decide +kernel) (by subst hR; exact ⟨Nat.le_of_ble_eq_true rfl, Nat.le_of_ble_eq_true rfl⟩)) ⟨fun a9 U9 g9 mk9 q9 => by obtain ⟨q0, qP, qK⟩ := q9; exact ⟨q0, qP, va_K.moved (u := U9) (U := U9.calling g9 mk9 a9) (Vm.Alike.refl U9.vm) qK⟩, va_recv hK hP (ci := 0) (q0 := 0) rfl rfl, fun U hU hW => ⟨rfl, by rw [hU]; exact hP, va_K.moved hW.alike hK⟩⟩ rfl rfl hl.1 rfl (lv_room (Nat.le_of_ble_eq_true rfl)) dP_crosses_66 ⟨by subst hR; exact Nat.zero_le _, by subst hR; exact Nat.zero_le _⟩) (fun r_66 hw_66 => ?_)
            subst hw_66
            have b1 := mul_bd 32768 32768 (a := oy) (b := oy) (by omega) (by omega)
            have b2 := mul_bd 131072 24576 (a := 4 * sy) (b := py - y) (by omega) (by omega)
            refine lv_lconst (v := lI 0) hx hb dP_crosses_69 (by decide +kernel) ?_
            refine xl_le (tgt := 78) hx hb dP_crosses_70 dP_crosses_71 (by decide) (by omega) (by omega) (fun c_70 => ?_) (fun c_70 => ?_)
            · skip
              refine xi_iconst hx hb dP_crosses_78 ?_
              exact cut_79_4 false _ (by rw [crs_b (by rw [← hv1, ← hv2]; exact c_32), ← hv3, ← hv1, decide_eq_false (show ¬ 0 < oy * oy - 4 * sy * (py - y) by omega)]; cases v3 <;> cases v1 <;> rfl) (lv_sub hl [0, 1, 2, 3, 4] rfl)
            · skip
              refine xi_iconst hx hb dP_crosses_74 ?_
              refine lv_goto (tgt := 79) hx hb dP_crosses_75 (by decide) ?_
              exact cut_79_4 true _ (by rw [crs_b (by rw [← hv1, ← hv2]; exact c_32), ← hv3, ← hv1, decide_eq_true (show 0 < oy * oy - 4 * sy * (py - y) by omega)]; revert c_61; clear hv1 hv2 hv3 c_32; cases v3 <;> cases v1 <;> decide) (lv_sub hl [0, 1, 2, 3, 4] rfl)
        refine lv_aload_n hx hb dP_crosses_47 rfl (lv_at hl 2 rfl) ?_
        refine va_get (D := (dC, dI)) (ci := 0) (v := .int (iI qy)) (C := RP) (T := TP) (N := 11) hx hb hts (fun w9 h9 => List.mem_cons_of_mem _ (inP w9 h9)) hown hK hP 0 rfl rfl 8 (by decide) (hts _ (List.mem_cons_of_mem _ flP_23)) (fun _ h9 => h9) rfl dP_crosses_48 ?_
        refine lv_iload_n hx hb dP_crosses_51 rfl (lv_at hl 3 rfl) ?_
        refine xi_icmp_le (tgt := 59) hx hb dP_crosses_52 (by decide) (by omega) (by omega) (fun c_52 => ?_) (fun c_52 => ?_)
        · skip
          refine xi_iconst hx hb dP_crosses_59 ?_
          exact cut_60_3 false _ (dec_f (by omega)) (lv_sub hl [0, 1, 2, 3, 4] rfl)
        · skip
          refine xi_iconst hx hb dP_crosses_55 ?_
          refine lv_goto (tgt := 60) hx hb dP_crosses_56 (by decide) ?_
          exact cut_60_3 true _ (dec_t (by omega)) (lv_sub hl [0, 1, 2, 3, 4] rfl)
      · skip
        have cut_46_5 : ∀ (w : Bool) (ls : Array Slot), (w = crs oy sy py qy ry y u) → lv_has ls 5 [(4, .int (iI (bz v2))), (3, .int (iI (bz v1))), (0, .ref h0), (1, .int (iI y)), (2, .int (iI (bz u)))] → W p l e R s m args below meth c H locs 0 0 Q (F0 m 46 ls [.int (iI (bz w))]) := by
          intro w ls hw hl
          subst hQ
          exact W.zret (v := (iI (bz w))) hx hb hr (xi_narZ2 _) (fun t9 ht9 hW9 => ⟨_, rfl, (by rw [hw]), ht9.trans hH⟩) (by rw [hlo]; intro q9 h9; cases h9) dP_crosses_46
        refine lv_iload hx hb dP_crosses_35 (lv_at hl 0 rfl) ?_
        refine lv_iload_n hx hb dP_crosses_37 rfl (lv_at hl 4 rfl) ?_
        refine xb_icmp_ne (tgt := 45) hx hb dP_crosses_38 (by decide) (fun c_38 => ?_) (fun c_38 => ?_)
        · skip
          refine xi_iconst hx hb dP_crosses_45 ?_
          exact cut_46_5 false _ (by rw [crs_a (by rw [← hv1, ← hv2]; exact c_32), ← hv2]; revert c_38; clear hv1 hv2 c_32; cases v2 <;> cases u <;> decide) (lv_sub hl [0, 1, 2, 3, 4] rfl)
        · skip
          refine xi_iconst hx hb dP_crosses_41 ?_
          refine lv_goto (tgt := 46) hx hb dP_crosses_42 (by decide) ?_
          exact cut_46_5 true _ (by rw [crs_a (by rw [← hv1, ← hv2]; exact c_32), ← hv2]; revert c_38; clear hv1 hv2 c_32; cases v2 <;> cases u <;> decide) (lv_sub hl [0, 1, 2, 3, 4] rfl)
    refine lv_aload_n hx hb dP_crosses_14 rfl (lv_at hl 1 rfl) ?_
    refine va_get (D := (dC, dI)) (ci := 0) (v := .int (iI ry)) (C := RP) (T := TP) (N := 11) hx hb hts (fun w9 h9 => List.mem_cons_of_mem _ (inP w9 h9)) hown hK hP 0 rfl rfl 10 (by decide) (hts _ (List.mem_cons_of_mem _ flP_29)) (fun _ h9 => h9) rfl dP_crosses_15 ?_
    refine lv_iload_n hx hb dP_crosses_18 rfl (lv_at hl 2 rfl) ?_
    refine xi_icmp_le (tgt := 26) hx hb dP_crosses_19 (by decide) (by omega) (by omega) (fun c_19 => ?_) (fun c_19 => ?_)
    · skip
      refine xi_iconst hx hb dP_crosses_26 ?_
      exact cut_27_2 false _ (dec_f (by omega)) (lv_sub hl [0, 1, 2, 3] rfl)
    · skip
      refine xi_iconst hx hb dP_crosses_22 ?_
      refine lv_goto (tgt := 27) hx hb dP_crosses_23 (by decide) ?_
      exact cut_27_2 true _ (dec_t (by omega)) (lv_sub hl [0, 1, 2, 3] rfl)
  refine lv_aload_n hx hb dP_crosses_0 rfl (lv_at hl 0 rfl) ?_
  refine va_get (D := (dC, dI)) (ci := 0) (v := .int (iI py)) (C := RP) (T := TP) (N := 11) hx hb hts (fun w9 h9 => List.mem_cons_of_mem _ (inP w9 h9)) hown hK hP 0 rfl rfl 6 (by decide) (hts _ (List.mem_cons_of_mem _ flP_17)) (fun _ h9 => h9) rfl dP_crosses_1 ?_
  refine lv_iload_n hx hb dP_crosses_4 rfl (lv_at hl 1 rfl) ?_
  refine xi_icmp_le (tgt := 12) hx hb dP_crosses_5 (by decide) (by omega) (by omega) (fun c_5 => ?_) (fun c_5 => ?_)
  · skip
    refine xi_iconst hx hb dP_crosses_12 ?_
    exact cut_13_1 false _ (dec_f (by omega)) (lv_sub hl [0, 1, 2] rfl)
  · skip
    refine xi_iconst hx hb dP_crosses_8 ?_
    refine lv_goto (tgt := 13) hx hb dP_crosses_9 (by decide) ?_
    exact cut_13_1 true _ (dec_t (by omega)) (lv_sub hl [0, 1, 2] rfl)
set_option maxHeartbeats 4000000 in
set_option maxRecDepth 100000 in
/-- compareToRoot -/
theorem l_compareToRoot (l : Launch) (dC : Nat → ClassId) (dI : Nat → Nat → Nat) (h0 : Nat) (w f u sc : Int) (n tm : Int) (hu : 0 < u ∧ u < 1073741824) (hn : 0 ≤ n ∧ n ≤ 4611686018427387904) (ht : 0 < tm ∧ tm ≤ 2147483648) : Met l yL_compareToRoot wL_compareToRoot ({ frames := 0, cells := 0, slots := 0, locals := 0 }) (va_Pc [.ref h0, .long (lI n), .long (lI tm)] (fun U => va_P (dC, dI) vwCl [(h0, .inr (1, [.long (lI w), .long (lI f), .long (lI u), .long (lI sc)]))] U.heap ∧ va_K (dC, dI) vwCl [] U)) (vp_Sl (fun r => r = lI (crv u n tm))) 0 0 (fun _ => False) := by
  refine Met.ofW (cc := cL_compareToRoot) (maxL := 11) (ret := (some .long)) (by decide) rfl ?_
  intro p e s m args below meth c s₁ B hml hv
  obtain ⟨hargs, hP, hK⟩ := hv
  have hx := B.exec
  have hb := B.bytes
  have hr := B.returns
  have hts := atoms_spec (ws := wL_compareToRoot) B.pre
  have hown : s.vm.findClass RL = some m.cls := findClass_of_methodNamed B.named
  have hlocks := B.notSynchronized
  refine x_name (fun R Q H locs hR hQ hH hlo => ?_)
  rw [← hH] at hP
  refine x_entry hargs (Nat.le_of_ble_eq_true rfl) (fun ls hl => ?_)
  have hl : lv_has ls 11 [(0, .ref h0), (1, .long (lI n)), (3, .long (lI tm))] := hl
  have hP : va_P (dC, dI) vwCl [(h0, .inr (1, [.long (lI w), .long (lI f), .long (lI u), .long (lI sc)]))] H := hP
  refine lv_lload_n hx hb dL_compareToRoot_0 rfl (lv_at hl 2 rfl) ?_
  refine lv_lconst (v := lI 0) hx hb dL_compareToRoot_1 (by decide +kernel) ?_
  refine xl_gt (tgt := 8) hx hb dL_compareToRoot_2 dL_compareToRoot_3 (by decide) (by omega) (by omega) (fun c_2 => ?_) (fun c_2 => ?_)
  · skip
    obtain ⟨q, hq⟩ : ∃ q, q = n / tm := ⟨_, rfl⟩
    obtain ⟨r, hr9⟩ : ∃ r, r = n % tm := ⟨_, rfl⟩
    have q0 : 0 ≤ q := by rw [hq]; exact Int.ediv_nonneg hn.1 (by omega)
    have q1 : q ≤ n := by rw [hq]; exact Int.ediv_le_self _ hn.1
    have r0 : 0 ≤ r := by rw [hr9]; exact Int.emod_nonneg n (by omega)
    have r1 : r < tm := by rw [hr9]; exact Int.emod_lt_of_pos n ht.1
    refine lv_lload_n hx hb dL_compareToRoot_8 rfl (lv_at hl 1 rfl) ?_
    refine lv_lload_n hx hb dL_compareToRoot_9 rfl (lv_at hl 2 rfl) ?_
    refine xl_div (z := q) hx hb dL_compareToRoot_10 (by omega) (by omega) (hq.symm) ?_
    refine lv_lstore (lv' := [(5, .long (lI q)), (0, .ref h0), (1, .long (lI n)), (3, .long (lI tm))]) hx hb dL_compareToRoot_11 hl (by decide) rfl (fun ls hl => ?_)
    refine lv_lload_n hx hb dL_compareToRoot_13 rfl (lv_at hl 2 rfl) ?_
    refine lv_lload_n hx hb dL_compareToRoot_14 rfl (lv_at hl 3 rfl) ?_
    refine xl_rem (z := r) hx hb dL_compareToRoot_15 (by omega) (by omega) (hr9.symm) ?_
    refine lv_lstore (lv' := [(7, .long (lI r)), (5, .long (lI q)), (0, .ref h0), (1, .long (lI n)), (3, .long (lI tm))]) hx hb dL_compareToRoot_16 hl (by decide) rfl (fun ls hl => ?_)
    refine lv_lload hx hb dL_compareToRoot_18 (lv_at hl 1 rfl) ?_
    refine lv_ldc2 (v := 32768) hx hb hown (hts _ (List.mem_cons_of_mem _ klL_59)) dL_compareToRoot_20 ?_
    refine xi_top (y := .long (lI 32768)) (by decide +kernel) ?_
    refine xl_le (tgt := 29) hx hb dL_compareToRoot_23 dL_compareToRoot_24 (by decide) (by omega) (by omega) (fun c_23 => ?_) (fun c_23 => ?_)
    · skip
      obtain ⟨k, hk⟩ : ∃ k, k = (u - q * q) * tm - 2 * q * r := ⟨_, rfl⟩
      have b1 := mul_bd 32768 32768 (a := q) (b := q) (by omega) (by omega)
      have b2 := mul_bd 2147483648 2147483648 (a := u - q * q) (b := tm) (by omega) (by omega)
      have b3 := mul_bd 65536 2147483648 (a := 2 * q) (b := r) (by omega) (by omega)
      have e9 := crv_2 (u := u) ht.1 hq hr9 (by omega) hk
      refine lv_aload_n hx hb dL_compareToRoot_29 rfl (lv_at hl 2 rfl) ?_
      refine va_get (D := (dC, dI)) (ci := 1) (v := .long (lI u)) (C := RL) (T := TL) (N := 4) hx hb hts (fun w9 h9 => List.mem_cons_of_mem _ (inL w9 h9)) hown hK hP 0 rfl rfl 2 (by decide) (hts _ (List.mem_cons_of_mem _ flL_33)) (fun _ h9 => h9) rfl dL_compareToRoot_30 ?_
      refine lv_lload hx hb dL_compareToRoot_33 (lv_at hl 1 rfl) ?_
      refine lv_lload hx hb dL_compareToRoot_35 (lv_at hl 1 rfl) ?_
      refine xl_mul (z := q * q) hx hb dL_compareToRoot_37 rfl ?_
      refine xl_sub (z := u - (q * q)) hx hb dL_compareToRoot_38 rfl ?_
      refine lv_lload_n hx hb dL_compareToRoot_39 rfl (lv_at hl 4 rfl) ?_
      refine xl_mul (z := (u - (q * q)) * tm) hx hb dL_compareToRoot_40 rfl ?_
      refine lv_ldc2 (v := 2) hx hb hown (hts _ (List.mem_cons_of_mem _ klL_49)) dL_compareToRoot_41 ?_
      refine xi_top (y := .long (lI 2)) (by decide +kernel) ?_
      refine lv_lload hx hb dL_compareToRoot_44 (lv_at hl 1 rfl) ?_
      refine xl_mul (z := 2 * q) hx hb dL_compareToRoot_46 rfl ?_
      refine lv_lload hx hb dL_compareToRoot_47 (lv_at hl 0 rfl) ?_
      refine xl_mul (z := (2 * q) * r) hx hb dL_compareToRoot_49 rfl ?_
      refine xl_sub (z := k) hx hb dL_compareToRoot_50 (hk.symm) ?_
      refine lv_lstore (lv' := [(9, .long (lI k)), (7, .long (lI r)), (5, .long (lI q)), (0, .ref h0), (1, .long (lI n)), (3, .long (lI tm))]) hx hb dL_compareToRoot_51 hl (by decide) rfl (fun ls hl => ?_)
      refine lv_lload hx hb dL_compareToRoot_53 (lv_at hl 0 rfl) ?_
      refine lv_lconst (v := lI 0) hx hb dL_compareToRoot_55 (by decide +kernel) ?_
      refine xl_ge (tgt := 62) hx hb dL_compareToRoot_56 dL_compareToRoot_57 (by decide) (by omega) (by omega) (fun c_56 => ?_) (fun c_56 => ?_)
      · skip
        refine lv_lload hx hb dL_compareToRoot_62 (lv_at hl 0 rfl) ?_
        refine lv_lload hx hb dL_compareToRoot_64 (lv_at hl 1 rfl) ?_
        refine xl_le (tgt := 74) hx hb dL_compareToRoot_66 dL_compareToRoot_67 (by decide) (by omega) (by omega) (fun c_66 => ?_) (fun c_66 => ?_)
        · skip
          refine lv_lload hx hb dL_compareToRoot_74 (lv_at hl 1 rfl) ?_
          refine lv_lload hx hb dL_compareToRoot_76 (lv_at hl 1 rfl) ?_
          refine xl_mul (z := r * r) hx hb dL_compareToRoot_78 rfl ?_
          refine lv_lload hx hb dL_compareToRoot_79 (lv_at hl 0 rfl) ?_
          refine lv_lload_n hx hb dL_compareToRoot_81 rfl (lv_at hl 5 rfl) ?_
          refine xl_mul (z := k * tm) hx hb dL_compareToRoot_82 rfl ?_
          refine xl_sub (z := (r * r) - (k * tm)) hx hb dL_compareToRoot_83 rfl ?_
          subst hQ
          exact W.lret (v := (lI ((r * r) - (k * tm)))) hx hb hr (fun t9 ht9 hW9 => ⟨_, rfl, (by rw [e9, if_neg (by omega), if_neg (by omega)]), ht9.trans hH⟩) (by rw [hlo]; intro q9 h9; cases h9) dL_compareToRoot_84
        · skip
          refine lv_ldc2 (v := (-1)) hx hb hown (hts _ (List.mem_cons_of_mem _ klL_61)) dL_compareToRoot_70 ?_
          refine xi_top (y := .long (lI (-1))) (by decide +kernel) ?_
          subst hQ
          exact W.lret (v := (lI (-1))) hx hb hr (fun t9 ht9 hW9 => ⟨_, rfl, (by rw [e9, if_neg (by omega), if_pos (by omega)]), ht9.trans hH⟩) (by rw [hlo]; intro q9 h9; cases h9) dL_compareToRoot_73
      · skip
        refine lv_lconst (v := lI 1) hx hb dL_compareToRoot_60 (by decide +kernel) ?_
        subst hQ
        exact W.lret (v := (lI 1)) hx hb hr (fun t9 ht9 hW9 => ⟨_, rfl, (by rw [e9, if_pos (by omega)]), ht9.trans hH⟩) (by rw [hlo]; intro q9 h9; cases h9) dL_compareToRoot_61
    · skip
      refine lv_lconst (v := lI 1) hx hb dL_compareToRoot_27 (by decide +kernel) ?_
      subst hQ
      exact W.lret (v := (lI 1)) hx hb hr (fun t9 ht9 hW9 => ⟨_, rfl, (by rw [crv_1 ht.1 (by rw [← hq]; omega)]), ht9.trans hH⟩) (by rw [hlo]; intro q9 h9; cases h9) dL_compareToRoot_28
  · exact absurd c_2 (by omega)
theorem crv_bd {u n t : Int} (hu : 0 < u) (hu2 : u < 1073741824) (hn : 0 ≤ n) (ht : 0 < t ∧ t ≤ 2147483648) : -9223372036854775808 ≤ crv u n t ∧ crv u n t ≤ 9223372036854775807 := by
  unfold crv
  have r0 : 0 ≤ n % t := Int.emod_nonneg n (by omega)
  have r1 : n % t < t := Int.emod_lt_of_pos n ht.1
  rw [if_neg (by omega)]
  generalize n / t = q at *
  generalize n % t = r at *
  generalize (u - q * q) * t - 2 * q * r = k at *
  split
  · omega
  · split
    · omega
    · split
      · omega
      · have b1 := mul_bd 2147483648 2147483648 (a := r) (b := r) (by omega) (by omega)
        have b2 := mul_bd 2147483648 2147483648 (a := k) (b := t) (by omega) (by omega)
        have b3 := sq_nn r
        have b4 : 0 ≤ k * t := mul_nn (by omega) (by omega)
        omega
set_option maxHeartbeats 4000000 in
set_option maxRecDepth 100000 in
/-- isRightOf -/
theorem l_isRightOf (l : Launch) (dC : Nat → ClassId) (dI : Nat → Nat → Nat) (h0 : Nat) (w f u sc : Int) (x : Int) (hu : -1152921504606846976 ≤ u ∧ u < 1073741824) (hf : -2147483647 ≤ f ∧ f ≤ 2147483647) (hw : -1125899906842624 ≤ w ∧ w ≤ 1125899906842624) (hs : 0 ≤ sc ∧ sc ≤ 2147483647) (hx0 : -32768 ≤ x ∧ x ≤ 32768) : Met l yL_isRightOf wL_isRightOf ({ frames := 1, cells := 0, slots := 0, locals := 30 }) (va_Pc [.ref h0, .int (iI x)] (fun U => va_P (dC, dI) vwCl [(h0, .inr (1, [.long (lI w), .long (lI f), .long (lI u), .long (lI sc)]))] U.heap ∧ va_K (dC, dI) vwCl [] U)) (vp_Si (fun r => r = iI (bz (rgt (w - sc * x) f u)))) 0 0 (fun _ => False) := by
  refine Met.ofW (cc := cL_isRightOf) (maxL := 4) (ret := (some .boolean)) (by decide) rfl ?_
  intro p e s m args below meth c s₁ B hml hv
  obtain ⟨hargs, hP, hK⟩ := hv
  have hx := B.exec
  have hb := B.bytes
  have hr := B.returns
  have hts := atoms_spec (ws := wL_isRightOf) B.pre
  have hown : s.vm.findClass RL = some m.cls := findClass_of_methodNamed B.named
  have hlocks := B.notSynchronized
  refine x_name (fun R Q H locs hR hQ hH hlo => ?_)
  rw [← hH] at hP
  refine x_entry hargs (Nat.le_of_ble_eq_true rfl) (fun ls hl => ?_)
  have hl : lv_has ls 4 [(0, .ref h0), (1, .int (iI x))] := hl
  have hP : va_P (dC, dI) vwCl [(h0, .inr (1, [.long (lI w), .long (lI f), .long (lI u), .long (lI sc)]))] H := hP
  obtain ⟨rs, hrs⟩ : ∃ z, z = w - sc * x := ⟨_, rfl⟩
  have b0 := mul_bd 2147483648 32768 (a := sc) (b := x) (by omega) (by omega)
  have b9 : -4611686018427387904 ≤ rs ∧ rs ≤ 4611686018427387904 := by omega
  refine lv_aload_n hx hb dL_isRightOf_0 rfl (lv_at hl 0 rfl) ?_
  refine va_get (D := (dC, dI)) (ci := 1) (v := .long (lI w)) (C := RL) (T := TL) (N := 4) hx hb hts (fun w9 h9 => List.mem_cons_of_mem _ (inL w9 h9)) hown hK hP 0 rfl rfl 0 (by decide) (hts _ (List.mem_cons_of_mem _ flL_42)) (fun _ h9 => h9) rfl dL_isRightOf_1 ?_
  refine lv_aload_n hx hb dL_isRightOf_4 rfl (lv_at hl 0 rfl) ?_
  refine va_get (D := (dC, dI)) (ci := 1) (v := .long (lI sc)) (C := RL) (T := TL) (N := 4) hx hb hts (fun w9 h9 => List.mem_cons_of_mem _ (inL w9 h9)) hown hK hP 0 rfl rfl 3 (by decide) (hts _ (List.mem_cons_of_mem _ flL_36)) (fun _ h9 => h9) rfl dL_isRightOf_5 ?_
  refine lv_iload_n hx hb dL_isRightOf_8 rfl (lv_at hl 1 rfl) ?_
  refine xl_i2l hx hb dL_isRightOf_9 (by omega) ?_
  refine xl_mul (z := sc * x) hx hb dL_isRightOf_10 rfl ?_
  refine xl_sub (z := rs) hx hb dL_isRightOf_11 (hrs.symm) ?_
  refine lv_lstore_n (lv' := [(2, .long (lI rs)), (0, .ref h0), (1, .int (iI x))]) hx hb dL_isRightOf_12 rfl hl (by decide) rfl (fun ls hl => ?_)
  refine lv_aload_n hx hb dL_isRightOf_13 rfl (lv_at hl 1 rfl) ?_
  refine va_get (D := (dC, dI)) (ci := 1) (v := .long (lI f)) (C := RL) (T := TL) (N := 4) hx hb hts (fun w9 h9 => List.mem_cons_of_mem _ (inL w9 h9)) hown hK hP 0 rfl rfl 1 (by decide) (hts _ (List.mem_cons_of_mem _ flL_27)) (fun _ h9 => h9) rfl dL_isRightOf_14 ?_
  refine lv_lconst (v := lI 0) hx hb dL_isRightOf_17 (by decide +kernel) ?_
  refine xl_eq (tgt := 31) hx hb dL_isRightOf_18 dL_isRightOf_19 (by decide) (by omega) (by omega) (fun c_18 => ?_) (fun c_18 => ?_)
  · skip
    have cut_42_1 : ∀ (v : Bool) (ls : Array Slot), (v = rgt rs f u) → lv_has ls 4 [(2, .long (lI rs)), (0, .ref h0), (1, .int (iI x))] → W p l e R s m args below meth c H locs 0 0 Q (F0 m 42 ls [.int (iI (bz v))]) := by
      intro v ls hv hl
      subst hQ
      exact W.zret (v := (iI (bz v))) hx hb hr (xi_narZ2 _) (fun t9 ht9 hW9 => ⟨_, rfl, (by rw [hv, hrs]), ht9.trans hH⟩) (by rw [hlo]; intro q9 h9; cases h9) dL_isRightOf_42
    refine lv_lload_n hx hb dL_isRightOf_31 rfl (lv_at hl 0 rfl) ?_
    refine lv_lconst (v := lI 0) hx hb dL_isRightOf_32 (by decide +kernel) ?_
    refine xl_le (tgt := 41) hx hb dL_isRightOf_33 dL_isRightOf_34 (by decide) (by omega) (by omega) (fun c_33 => ?_) (fun c_33 => ?_)
    · skip
      refine xi_iconst hx hb dL_isRightOf_41 ?_
      exact cut_42_1 false _ (by unfold rgt; rw [if_pos (by omega), decide_eq_false (by omega)]) (lv_sub hl [0, 1, 2] rfl)
    · skip
      refine xi_iconst hx hb dL_isRightOf_37 ?_
      refine lv_goto (tgt := 42) hx hb dL_isRightOf_38 (by decide) ?_
      exact cut_42_1 true _ (by unfold rgt; rw [if_pos (by omega), decide_eq_true (by omega)]) (lv_sub hl [0, 1, 2] rfl)
  · skip
    refine lv_aload_n hx hb dL_isRightOf_22 rfl (lv_at hl 1 rfl) ?_
    refine va_get (D := (dC, dI)) (ci := 1) (v := .long (lI u)) (C := RL) (T := TL) (N := 4) hx hb hts (fun w9 h9 => List.mem_cons_of_mem _ (inL w9 h9)) hown hK hP 0 rfl rfl 2 (by decide) (hts _ (List.mem_cons_of_mem _ flL_33)) (fun _ h9 => h9) rfl dL_isRightOf_23 ?_
    refine lv_lconst (v := lI 0) hx hb dL_isRightOf_26 (by decide +kernel) ?_
    refine xl_gt (tgt := 43) hx hb dL_isRightOf_27 dL_isRightOf_28 (by decide) (by omega) (by omega) (fun c_27 => ?_) (fun c_27 => ?_)
    · skip
      refine lv_aload_n hx hb dL_isRightOf_43 rfl (lv_at hl 1 rfl) ?_
      refine va_get (D := (dC, dI)) (ci := 1) (v := .long (lI f)) (C := RL) (T := TL) (N := 4) hx hb hts (fun w9 h9 => List.mem_cons_of_mem _ (inL w9 h9)) hown hK hP 0 rfl rfl 1 (by decide) (hts _ (List.mem_cons_of_mem _ flL_27)) (fun _ h9 => h9) rfl dL_isRightOf_44 ?_
      refine lv_lconst (v := lI 0) hx hb dL_isRightOf_47 (by decide +kernel) ?_
      refine xl_le (tgt := 79) hx hb dL_isRightOf_48 dL_isRightOf_49 (by decide) (by omega) (by omega) (fun c_48 => ?_) (fun c_48 => ?_)
      · skip
        have cut_105_2 : ∀ (v : Bool) (ls : Array Slot), (v = rgt rs f u) → lv_has ls 4 [(2, .long (lI rs)), (0, .ref h0), (1, .int (iI x))] → W p l e R s m args below meth c H locs 0 0 Q (F0 m 105 ls [.int (iI (bz v))]) := by
          intro v ls hv hl
          subst hQ
          exact W.zret (v := (iI (bz v))) hx hb hr (xi_narZ2 _) (fun t9 ht9 hW9 => ⟨_, rfl, (by rw [hv, hrs]), ht9.trans hH⟩) (by rw [hlo]; intro q9 h9; cases h9) dL_isRightOf_105
        refine lv_lload_n hx hb dL_isRightOf_79 rfl (lv_at hl 0 rfl) ?_
        refine lv_lconst (v := lI 0) hx hb dL_isRightOf_80 (by decide +kernel) ?_
        refine xl_le (tgt := 104) hx hb dL_isRightOf_81 dL_isRightOf_82 (by decide) (by omega) (by omega) (fun c_81 => ?_) (fun c_81 => ?_)
        · skip
          refine xi_iconst hx hb dL_isRightOf_104 ?_
          exact cut_105_2 false _ (by unfold rgt; rw [if_neg (by omega), if_neg (by omega), decide_eq_false (by omega)]) (lv_sub hl [0, 1, 2] rfl)
        · skip
          refine lv_aload_n hx hb dL_isRightOf_85 rfl (lv_at hl 1 rfl) ?_
          refine lv_lload_n hx hb dL_isRightOf_86 rfl (lv_at hl 0 rfl) ?_
          refine lv_aload_n hx hb dL_isRightOf_87 rfl (lv_at hl 1 rfl) ?_
          refine va_get (D := (dC, dI)) (ci := 1) (v := .long (lI f)) (C := RL) (T := TL) (N := 4) hx hb hts (fun w9 h9 => List.mem_cons_of_mem _ (inL w9 h9)) hown hK hP 0 rfl rfl 1 (by decide) (hts _ (List.mem_cons_of_mem _ flL_27)) (fun _ h9 => h9) rfl dL_isRightOf_88 ?_
          refine xl_neg (z := -f) hx hb dL_isRightOf_91 rfl ?_
          refine vp_callSl (W.runV (As := [.long (lI rs), .long (lI (-f))]) (rest := []) ⟨hx, hb, hml, hown, hts⟩ (l_compareToRoot l dC dI h0 w f u sc (rs) (-f) (by omega) (by omega) (by omega)) (cwV 2 hts (tb_V mlL_55 imL_compareToRoot seL_compareToRoot iniL coL_compareToRoot) rfl rfl rfl (by decide +kernel) (by subst hR; exact ⟨Nat.le_of_ble_eq_true rfl, Nat.le_of_ble_eq_true rfl⟩)) ⟨fun a9 U9 g9 mk9 q9 => by obtain ⟨q0, qP, qK⟩ := q9; exact ⟨q0, qP, va_K.moved (u := U9) (U := U9.calling g9 mk9 a9) (Vm.Alike.refl U9.vm) qK⟩, va_recv hK hP (ci := 1) (q0 := 0) rfl rfl, fun U hU hW => ⟨rfl, by rw [hU]; exact hP, va_K.moved hW.alike hK⟩⟩ rfl rfl hl.1 rfl (lv_room (Nat.le_of_ble_eq_true rfl)) dL_isRightOf_92 ⟨by subst hR; exact Nat.zero_le _, by subst hR; exact Nat.zero_le _⟩) (fun r_92 hw_92 => ?_)
          obtain ⟨cv, hcv⟩ : ∃ z, z = crv u (rs) (-f) := ⟨_, rfl⟩
          have h8 := crv_sign (u := u) (n := rs) (t := -f) (by omega) (by omega) (by omega) (by omega)
          rw [← hcv] at h8
          have h7 : (-f) * (-f) = f * f := Int.neg_mul_neg _ _
          rw [h7] at h8
          have b8 : -9223372036854775808 ≤ cv ∧ cv ≤ 9223372036854775807 := by rw [hcv]; exact crv_bd (by omega) (by omega) (by omega) (by omega)
          refine xi_top (y := .long (lI cv)) (by rw [hw_92, hcv]) ?_
          refine lv_lconst (v := lI 0) hx hb dL_isRightOf_95 (by decide +kernel) ?_
          refine xl_le (tgt := 104) hx hb dL_isRightOf_96 dL_isRightOf_97 (by decide) (by omega) (by omega) (fun c_96 => ?_) (fun c_96 => ?_)
          · skip
            refine xi_iconst hx hb dL_isRightOf_104 ?_
            exact cut_105_2 false _ (by unfold rgt; rw [if_neg (by omega), if_neg (by omega), decide_eq_false (by omega)]) (lv_sub hl [0, 1, 2] rfl)
          · skip
            refine xi_iconst hx hb dL_isRightOf_100 ?_
            refine lv_goto (tgt := 105) hx hb dL_isRightOf_101 (by decide) ?_
            exact cut_105_2 true _ (by unfold rgt; rw [if_neg (by omega), if_neg (by omega), decide_eq_true (by omega)]) (lv_sub hl [0, 1, 2] rfl)
      · skip
        have cut_78_3 : ∀ (v : Bool) (ls : Array Slot), (v = rgt rs f u) → lv_has ls 4 [(2, .long (lI rs)), (0, .ref h0), (1, .int (iI x))] → W p l e R s m args below meth c H locs 0 0 Q (F0 m 78 ls [.int (iI (bz v))]) := by
          intro v ls hv hl
          subst hQ
          exact W.zret (v := (iI (bz v))) hx hb hr (xi_narZ2 _) (fun t9 ht9 hW9 => ⟨_, rfl, (by rw [hv, hrs]), ht9.trans hH⟩) (by rw [hlo]; intro q9 h9; cases h9) dL_isRightOf_78
        refine lv_lload_n hx hb dL_isRightOf_52 rfl (lv_at hl 0 rfl) ?_
        refine lv_lconst (v := lI 0) hx hb dL_isRightOf_53 (by decide +kernel) ?_
        refine xl_ge (tgt := 73) hx hb dL_isRightOf_54 dL_isRightOf_55 (by decide) (by omega) (by omega) (fun c_54 => ?_) (fun c_54 => ?_)
        · skip
          refine xi_iconst hx hb dL_isRightOf_73 ?_
          refine lv_goto (tgt := 78) hx hb dL_isRightOf_74 (by decide) ?_
          exact cut_78_3 true _ (by unfold rgt; rw [if_neg (by omega), if_pos (by omega), decide_eq_true (by omega)]) (lv_sub hl [0, 1, 2] rfl)
        · skip
          refine lv_aload_n hx hb dL_isRightOf_58 rfl (lv_at hl 1 rfl) ?_
          refine lv_lload_n hx hb dL_isRightOf_59 rfl (lv_at hl 0 rfl) ?_
          refine xl_neg (z := -rs) hx hb dL_isRightOf_60 rfl ?_
          refine lv_aload_n hx hb dL_isRightOf_61 rfl (lv_at hl 1 rfl) ?_
          refine va_get (D := (dC, dI)) (ci := 1) (v := .long (lI f)) (C := RL) (T := TL) (N := 4) hx hb hts (fun w9 h9 => List.mem_cons_of_mem _ (inL w9 h9)) hown hK hP 0 rfl rfl 1 (by decide) (hts _ (List.mem_cons_of_mem _ flL_27)) (fun _ h9 => h9) rfl dL_isRightOf_62 ?_
          refine vp_callSl (W.runV (As := [.long (lI (-rs)), .long (lI f)]) (rest := []) ⟨hx, hb, hml, hown, hts⟩ (l_compareToRoot l dC dI h0 w f u sc (-rs) (f) (by omega) (by omega) (by omega)) (cwV 2 hts (tb_V mlL_55 imL_compareToRoot seL_compareToRoot iniL coL_compareToRoot) rfl rfl rfl (by decide +kernel) (by subst hR; exact ⟨Nat.le_of_ble_eq_true rfl, Nat.le_of_ble_eq_true rfl⟩)) ⟨fun a9 U9 g9 mk9 q9 => by obtain ⟨q0, qP, qK⟩ := q9; exact ⟨q0, qP, va_K.moved (u := U9) (U := U9.calling g9 mk9 a9) (Vm.Alike.refl U9.vm) qK⟩, va_recv hK hP (ci := 1) (q0 := 0) rfl rfl, fun U hU hW => ⟨rfl, by rw [hU]; exact hP, va_K.moved hW.alike hK⟩⟩ rfl rfl hl.1 rfl (lv_room (Nat.le_of_ble_eq_true rfl)) dL_isRightOf_65 ⟨by subst hR; exact Nat.zero_le _, by subst hR; exact Nat.zero_le _⟩) (fun r_65 hw_65 => ?_)
          obtain ⟨cv, hcv⟩ : ∃ z, z = crv u (-rs) (f) := ⟨_, rfl⟩
          have h8 := crv_sign (u := u) (n := -rs) (t := f) (by omega) (by omega) (by omega) (by omega)
          rw [← hcv] at h8
          have h7 : (-rs) * (-rs) = rs * rs := Int.neg_mul_neg _ _
          rw [h7] at h8
          have b8 : -9223372036854775808 ≤ cv ∧ cv ≤ 9223372036854775807 := by rw [hcv]; exact crv_bd (by omega) (by omega) (by omega) (by omega)
          refine xi_top (y := .long (lI cv)) (by rw [hw_65, hcv]) ?_
          refine lv_lconst (v := lI 0) hx hb dL_isRightOf_68 (by decide +kernel) ?_
          refine xl_ge (tgt := 77) hx hb dL_isRightOf_69 dL_isRightOf_70 (by decide) (by omega) (by omega) (fun c_69 => ?_) (fun c_69 => ?_)
          · skip
            refine xi_iconst hx hb dL_isRightOf_77 ?_
            exact cut_78_3 false _ (by unfold rgt; rw [if_neg (by omega), if_pos (by omega), decide_eq_false (by omega)]) (lv_sub hl [0, 1, 2] rfl)
          · skip
            refine xi_iconst hx hb dL_isRightOf_73 ?_
            refine lv_goto (tgt := 78) hx hb dL_isRightOf_74 (by decide) ?_
            exact cut_78_3 true _ (by unfold rgt; rw [if_neg (by omega), if_pos (by omega), decide_eq_true (by omega)]) (lv_sub hl [0, 1, 2] rfl)
    · skip
      have cut_42_4 : ∀ (v : Bool) (ls : Array Slot), (v = rgt rs f u) → lv_has ls 4 [(2, .long (lI rs)), (0, .ref h0), (1, .int (iI x))] → W p l e R s m args below meth c H locs 0 0 Q (F0 m 42 ls [.int (iI (bz v))]) := by
        intro v ls hv hl
        subst hQ
        exact W.zret (v := (iI (bz v))) hx hb hr (xi_narZ2 _) (fun t9 ht9 hW9 => ⟨_, rfl, (by rw [hv, hrs]), ht9.trans hH⟩) (by rw [hlo]; intro q9 h9; cases h9) dL_isRightOf_42
      refine lv_lload_n hx hb dL_isRightOf_31 rfl (lv_at hl 0 rfl) ?_
      refine lv_lconst (v := lI 0) hx hb dL_isRightOf_32 (by decide +kernel) ?_
      refine xl_le (tgt := 41) hx hb dL_isRightOf_33 dL_isRightOf_34 (by decide) (by omega) (by omega) (fun c_33 => ?_) (fun c_33 => ?_)
      · skip
        refine xi_iconst hx hb dL_isRightOf_41 ?_
        exact cut_42_4 false _ (by unfold rgt; rw [if_pos (by omega), decide_eq_false (by omega)]) (lv_sub hl [0, 1, 2] rfl)
      · skip
        refine xi_iconst hx hb dL_isRightOf_37 ?_
        refine lv_goto (tgt := 42) hx hb dL_isRightOf_38 (by decide) ?_
        exact cut_42_4 true _ (by unfold rgt; rw [if_pos (by omega), decide_eq_true (by omega)]) (lv_sub hl [0, 1, 2] rfl)
/-- the points first + step * i that a place is to the right of come first, and there are k of them -/
def ptl (w f u sc fi sp mn k : Int) : Prop := 0 ≤ k ∧ k ≤ mn ∧ (∀ i : Int, 0 ≤ i → i < k → rgt (w - sc * (fi + sp * i)) f u = true) ∧ (k < mn → rgt (w - sc * (fi + sp * k)) f u = false)
def pow7 (m : Int) : Prop := m = 64 ∨ m = 32 ∨ m = 16 ∨ m = 8 ∨ m = 4 ∨ m = 2 ∨ m = 1 ∨ m = 0
def bd2 (m : Int) : Int := if m = 0 then 1 else 2 * m
theorem pow7_h {m : Int} (h : pow7 m) (h0 : 0 < m) : pow7 (m / 2) ∧ bd2 (m / 2) = m ∧ bd2 m = 2 * m ∧ 0 ≤ m / 2 ∧ m / 2 < m ∧ m ≤ 64 := by
  rcases h with h | h | h | h | h | h | h | h <;> subst h <;> first | omega | (refine ⟨?_, by decide, by decide, by decide, by decide, by decide⟩; unfold pow7; decide)
theorem rgt_pts {w f u sc fi sp i j : Int} (hs : 0 ≤ sc) (hp : 0 ≤ sp) (hij : i ≤ j) (h : rgt (w - sc * (fi + sp * j)) f u = true) : rgt (w - sc * (fi + sp * i)) f u = true := by
  refine rgt_mono ?_ h
  have h1 : sp * i ≤ sp * j := Int.mul_le_mul_of_nonneg_left hij hp
  have h2 : sc * (fi + sp * i) ≤ sc * (fi + sp * j) := Int.mul_le_mul_of_nonneg_left (by omega) hs
  omega
theorem ptl_end {w f u sc fi sp mn lf mo : Int} (i1 : 0 ≤ lf ∧ lf ≤ mn) (h0 : mo = 0) (i3 : ∀ i : Int, 0 ≤ i → i < lf → rgt (w - sc * (fi + sp * i)) f u = true) (i4 : mn < lf + bd2 mo ∨ rgt (w - sc * (fi + sp * (lf + bd2 mo - 1))) f u = false) : ptl w f u sc fi sp mn lf := by
  subst h0
  have h1 : bd2 0 = 1 := rfl
  rw [h1] at i4
  refine ⟨i1.1, i1.2, i3, fun h => ?_⟩
  rcases i4 with h7 | h7
  · omega
  · rw [show lf + 1 - 1 = lf by omega] at h7; exact h7
set_option maxHeartbeats 4000000 in
set_option maxRecDepth 100000 in
/-- pointsLeft -/
theorem l_pointsLeft (l : Launch) (dC : Nat → ClassId) (dI : Nat → Nat → Nat) (h0 : Nat) (w f u sc : Int) (fi sp mn : Int) (hu : -1152921504606846976 ≤ u ∧ u < 1073741824) (hf : -2147483647 ≤ f ∧ f ≤ 2147483647) (hw : -1125899906842624 ≤ w ∧ w ≤ 1125899906842624) (hs : 0 ≤ sc ∧ sc ≤ 2147483647) (hfi : -16384 ≤ fi ∧ fi ≤ 16384) (hsp : 0 ≤ sp ∧ sp ≤ 64) (hmn : 0 ≤ mn ∧ mn ≤ 64) : Met l yL_pointsLeft wL_pointsLeft ({ frames := 2, cells := 0, slots := 0, locals := 53 }) (va_Pc [.ref h0, .int (iI fi), .int (iI sp), .int (iI mn)] (fun U => va_P (dC, dI) vwCl [(h0, .inr (1, [.long (lI w), .long (lI f), .long (lI u), .long (lI sc)]))] U.heap ∧ va_K (dC, dI) vwCl [] U)) (vp_Si (fun r => ∃ k : Int, r = iI k ∧ ptl w f u sc fi sp mn k)) 0 0 (fun _ => False) := by
  refine Met.ofW (cc := cL_pointsLeft) (maxL := 6) (ret := (some .int)) (by decide) rfl ?_
  intro p e s m args below meth c s₁ B hml hv
  obtain ⟨hargs, hP, hK⟩ := hv
  have hx := B.exec
  have hb := B.bytes
  have hr := B.returns
  have hts := atoms_spec (ws := wL_pointsLeft) B.pre
  have hown : s.vm.findClass RL = some m.cls := findClass_of_methodNamed B.named
  have hlocks := B.notSynchronized
  refine x_name (fun R Q H locs hR hQ hH hlo => ?_)
  rw [← hH] at hP
  refine x_entry hargs (Nat.le_of_ble_eq_true rfl) (fun ls hl => ?_)
  have hl : lv_has ls 6 [(0, .ref h0), (1, .int (iI fi)), (2, .int (iI sp)), (3, .int (iI mn))] := hl
  have hP : va_P (dC, dI) vwCl [(h0, .inr (1, [.long (lI w), .long (lI f), .long (lI u), .long (lI sc)]))] H := hP
  refine xi_iconst hx hb dL_pointsLeft_0 ?_
  refine lv_istore (lv' := [(4, .int (iI 0)), (0, .ref h0), (1, .int (iI fi)), (2, .int (iI sp)), (3, .int (iI mn))]) hx hb dL_pointsLeft_1 hl (by decide) rfl (fun ls hl => ?_)
  refine lv_bipush (v := iI 64) hx hb dL_pointsLeft_3 (by decide +kernel) ?_
  refine lv_istore (lv' := [(5, .int (iI 64)), (4, .int (iI 0)), (0, .ref h0), (1, .int (iI fi)), (2, .int (iI sp)), (3, .int (iI mn))]) hx hb dL_pointsLeft_5 hl (by decide) rfl (fun ls hl => ?_)
  have cut_7_1 : ∀ (n : Nat) (lf : Int) (mo : Int) (ls : Array Slot), mo.toNat < n → (0 ≤ lf ∧ lf ≤ mn) → (pow7 mo) → (∀ i : Int, 0 ≤ i → i < lf → rgt (w - sc * (fi + sp * i)) f u = true) → (mn < lf + bd2 mo ∨ rgt (w - sc * (fi + sp * (lf + bd2 mo - 1))) f u = false) → lv_has ls 6 [(0, .ref h0), (1, .int (iI fi)), (2, .int (iI sp)), (3, .int (iI mn)), (4, .int (iI lf)), (5, .int (iI mo))] → W p l e R s m args below meth c H locs 0 0 Q (F0 m 7 ls []) := by
    intro n
    induction n with
    | zero => intro _ _ _ hm; exact absurd hm (Nat.not_lt_zero _)
    | succ n ih =>
      intro lf mo ls hm i1 i2 i3 i4 hl
      have b9 : 0 ≤ mo ∧ mo ≤ 64 := by rcases i2 with h | h | h | h | h | h | h | h <;> omega
      refine lv_iload hx hb dL_pointsLeft_7 (lv_at hl 5 rfl) ?_
      refine xi_if_le (tgt := 55) hx hb dL_pointsLeft_9 (by decide) (by omega) (fun c_9 => ?_) (fun c_9 => ?_)
      · skip
        refine lv_iload hx hb dL_pointsLeft_55 (lv_at hl 4 rfl) ?_
        subst hQ
        exact W.iret (v := (iI lf)) hx hb hr (fun t9 ht9 hW9 => ⟨_, rfl, (⟨lf, rfl, ptl_end i1 (by omega) i3 i4⟩), ht9.trans hH⟩) (by rw [hlo]; intro q9 h9; cases h9) dL_pointsLeft_57
      · skip
        have h9 := pow7_h i2 (by omega)
        refine lv_iload hx hb dL_pointsLeft_12 (lv_at hl 4 rfl) ?_
        refine lv_iload hx hb dL_pointsLeft_14 (lv_at hl 5 rfl) ?_
        refine xi_add (z := lf + mo) hx hb dL_pointsLeft_16 rfl ?_
        refine lv_iload_n hx hb dL_pointsLeft_17 rfl (lv_at hl 3 rfl) ?_
        refine xi_icmp_gt (tgt := 46) hx hb dL_pointsLeft_18 (by decide) (by omega) (by omega) (fun c_18 => ?_) (fun c_18 => ?_)
        · skip
          refine lv_iload hx hb dL_pointsLeft_46 (lv_at hl 5 rfl) ?_
          refine xi_iconst hx hb dL_pointsLeft_48 ?_
          refine xi_div (z := mo / 2) hx hb dL_pointsLeft_49 (by omega) (by omega) rfl ?_
          refine lv_istore (lv' := [(5, .int (iI (mo / 2))), (0, .ref h0), (1, .int (iI fi)), (2, .int (iI sp)), (3, .int (iI mn)), (4, .int (iI lf))]) hx hb dL_pointsLeft_50 hl (by decide) rfl (fun ls hl => ?_)
          refine lv_goto (tgt := 7) hx hb dL_pointsLeft_52 (by decide) ?_
          exact ih lf (mo / 2) _ (by omega) (by omega) (h9.1) (i3) (by rw [h9.2.1]; exact Or.inl (by omega)) (lv_sub hl [1, 2, 3, 4, 5, 0] rfl)
        · skip
          have b1 := mul_bd 64 64 (a := sp) (b := lf + mo - 1) (by omega) (by omega)
          refine lv_aload_n hx hb dL_pointsLeft_21 rfl (lv_at hl 0 rfl) ?_
          refine lv_iload_n hx hb dL_pointsLeft_22 rfl (lv_at hl 1 rfl) ?_
          refine lv_iload_n hx hb dL_pointsLeft_23 rfl (lv_at hl 2 rfl) ?_
          refine lv_iload hx hb dL_pointsLeft_24 (lv_at hl 4 rfl) ?_
          refine lv_iload hx hb dL_pointsLeft_26 (lv_at hl 5 rfl) ?_
          refine xi_add (z := lf + mo) hx hb dL_pointsLeft_28 rfl ?_
          refine xi_iconst hx hb dL_pointsLeft_29 ?_
          refine xi_sub (z := lf + mo - 1) hx hb dL_pointsLeft_30 rfl ?_
          refine xi_mul (z := sp * (lf + mo - 1)) hx hb dL_pointsLeft_31 rfl ?_
          refine xi_add (z := fi + sp * (lf + mo - 1)) hx hb dL_pointsLeft_32 rfl ?_
          refine vp_callSi (W.runV (As := [.int (iI (fi + sp * (lf + mo - 1)))]) (rest := []) ⟨hx, hb, hml, hown, hts⟩ (l_isRightOf l dC dI h0 w f u sc (fi + sp * (lf + mo - 1)) hu hf hw hs (by omega)) (cwV 1 hts (tb_V mlL_51 imL_isRightOf seL_isRightOf iniL coL_isRightOf) rfl rfl rfl (by decide +kernel) (by subst hR; exact ⟨Nat.le_of_ble_eq_true rfl, Nat.le_of_ble_eq_true rfl⟩)) ⟨fun a9 U9 g9 mk9 q9 => by obtain ⟨q0, qP, qK⟩ := q9; exact ⟨q0, qP, va_K.moved (u := U9) (U := U9.calling g9 mk9 a9) (Vm.Alike.refl U9.vm) qK⟩, va_recv hK hP (ci := 1) (q0 := 0) rfl rfl, fun U hU hW => ⟨rfl, by rw [hU]; exact hP, va_K.moved hW.alike hK⟩⟩ rfl rfl hl.1 rfl (lv_room (Nat.le_of_ble_eq_true rfl)) dL_pointsLeft_33 ⟨by subst hR; exact Nat.zero_le _, by subst hR; exact Nat.zero_le _⟩) (fun r_33 hw_33 => ?_)
          subst hw_33
          refine xb_if_eq (tgt := 46) hx hb dL_pointsLeft_36 (by decide) (fun c_36 => ?_) (fun c_36 => ?_)
          · skip
            refine lv_iload hx hb dL_pointsLeft_46 (lv_at hl 5 rfl) ?_
            refine xi_iconst hx hb dL_pointsLeft_48 ?_
            refine xi_div (z := mo / 2) hx hb dL_pointsLeft_49 (by omega) (by omega) rfl ?_
            refine lv_istore (lv' := [(5, .int (iI (mo / 2))), (0, .ref h0), (1, .int (iI fi)), (2, .int (iI sp)), (3, .int (iI mn)), (4, .int (iI lf))]) hx hb dL_pointsLeft_50 hl (by decide) rfl (fun ls hl => ?_)
            refine lv_goto (tgt := 7) hx hb dL_pointsLeft_52 (by decide) ?_
            exact ih lf (mo / 2) _ (by omega) (by omega) (h9.1) (i3) (by rw [h9.2.1]; exact Or.inr c_36) (lv_sub hl [1, 2, 3, 4, 5, 0] rfl)
          · skip
            refine lv_iload hx hb dL_pointsLeft_39 (lv_at hl 4 rfl) ?_
            refine lv_iload hx hb dL_pointsLeft_41 (lv_at hl 5 rfl) ?_
            refine xi_add (z := lf + mo) hx hb dL_pointsLeft_43 rfl ?_
            refine lv_istore (lv' := [(4, .int (iI (lf + mo))), (0, .ref h0), (1, .int (iI fi)), (2, .int (iI sp)), (3, .int (iI mn)), (5, .int (iI mo))]) hx hb dL_pointsLeft_44 hl (by decide) rfl (fun ls hl => ?_)
            refine lv_iload hx hb dL_pointsLeft_46 (lv_at hl 5 rfl) ?_
            refine xi_iconst hx hb dL_pointsLeft_48 ?_
            refine xi_div (z := mo / 2) hx hb dL_pointsLeft_49 (by omega) (by omega) rfl ?_
            refine lv_istore (lv' := [(5, .int (iI (mo / 2))), (4, .int (iI (lf + mo))), (0, .ref h0), (1, .int (iI fi)), (2, .int (iI sp)), (3, .int (iI mn))]) hx hb dL_pointsLeft_50 hl (by decide) rfl (fun ls hl => ?_)
            refine lv_goto (tgt := 7) hx hb dL_pointsLeft_52 (by decide) ?_
            exact ih (lf + mo) (mo / 2) _ (by omega) (by omega) (h9.1) (fun i h1 h2 => rgt_pts hs.1 hsp.1 (by omega) c_36) (by rw [h9.2.1]; rcases i4 with h | h; exact Or.inl (by omega); right; rw [h9.2.2.1] at h; rw [show lf + mo + mo - 1 = lf + 2 * mo - 1 by omega]; exact h) (lv_sub hl [2, 3, 4, 5, 1, 0] rfl)
  exact cut_7_1 (((64 : Int).toNat) + 1) 0 64 _ (Nat.lt_succ_self _) (by omega) (Or.inl rfl) (fun i h1 h2 => by omega) (Or.inl (by unfold bd2; rw [if_neg (by decide)]; omega)) (lv_sub hl [2, 3, 4, 5, 1, 0] rfl)
set_option maxHeartbeats 4000000 in
set_option maxRecDepth 100000 in
/-- take -/
theorem l_take (l : Launch) (dC : Nat → ClassId) (dI : Nat → Nat → Nat) (sz : Nat) (h0 h1 : Nat) (w f un sc : Int) (ln : Bool) (sx ox sy oy px py qx qy rx ry : Int) (y : Int) (up : Bool) (b1 : -32768 ≤ sx ∧ sx ≤ 32768) (b2 : -32768 ≤ ox ∧ ox ≤ 32768) (b3 : -32768 ≤ sy ∧ sy ≤ 32768) (b4 : -32768 ≤ oy ∧ oy ≤ 32768) (b5 : -8192 ≤ px ∧ px ≤ 8192) (b6 : -8192 ≤ py ∧ py ≤ 8192) (b7 : -16384 ≤ y ∧ y ≤ 16384) : Met l yL_take wL_take ({ frames := 1, cells := 0, slots := 0, locals := 21 }) (va_Pc [.ref h0, .ref h1, .int (iI y), .int (iI (bz up))] (fun U => U.heap.size = sz ∧ va_P (dC, dI) vwCl [(h0, .inr (1, [.long (lI w), .long (lI f), .long (lI un), .long (lI sc)])), (h1, .inr (0, [.int (iI (bz ln)), .int (iI sx), .int (iI ox), .int (iI sy), .int (iI oy), .int (iI px), .int (iI py), .int (iI qx), .int (iI qy), .int (iI rx), .int (iI ry)]))] U.heap ∧ va_K (dC, dI) vwCl [] U ∧ va_D (fun _ => True) [(h0, .inr (1, [.long (lI w), .long (lI f), .long (lI un), .long (lI sc)])), (h1, .inr (0, [.int (iI (bz ln)), .int (iI sx), .int (iI ox), .int (iI sy), .int (iI oy), .int (iI px), .int (iI py), .int (iI qx), .int (iI qy), .int (iI rx), .int (iI ry)]))])) (va_Qv (fun (u : Int × Int × Int × Int) => u.1 = tkW sx ox sy oy px py y ∧ u.2.1 = tkF sx ox sy oy up ∧ u.2.2.1 = tkU sy oy py y ∧ u.2.2.2 = tkS sy oy) (fun (u : Int × Int × Int × Int) t9 => va_P (dC, dI) vwCl [(h0, .inr (1, [.long (lI u.1), .long (lI u.2.1), .long (lI u.2.2.1), .long (lI u.2.2.2)])), (h1, .inr (0, [.int (iI (bz ln)), .int (iI sx), .int (iI ox), .int (iI sy), .int (iI oy), .int (iI px), .int (iI py), .int (iI qx), .int (iI qy), .int (iI rx), .int (iI ry)]))] t9.heap ∧ va_K (dC, dI) vwCl [] t9 ∧ va_D (va_A [(h0, .inr (1, [.long (lI w), .long (lI f), .long (lI un), .long (lI sc)])), (h1, .inr (0, [.int (iI (bz ln)), .int (iI sx), .int (iI ox), .int (iI sy), .int (iI oy), .int (iI px), .int (iI py), .int (iI qx), .int (iI qy), .int (iI rx), .int (iI ry)]))] sz) [(h0, .inr (1, [.long (lI u.1), .long (lI u.2.1), .long (lI u.2.2.1), .long (lI u.2.2.2)])), (h1, .inr (0, [.int (iI (bz ln)), .int (iI sx), .int (iI ox), .int (iI sy), .int (iI oy), .int (iI px), .int (iI py), .int (iI qx), .int (iI qy), .int (iI rx), .int (iI ry)]))]) (va_A [(h0, .inr (1, [.long (lI w), .long (lI f), .long (lI un), .long (lI sc)])), (h1, .inr (0, [.int (iI (bz ln)), .int (iI sx), .int (iI ox), .int (iI sy), .int (iI oy), .int (iI px), .int (iI py), .int (iI qx), .int (iI qy), .int (iI rx), .int (iI ry)]))] sz)) 0 0 (va_A [(h0, .inr (1, [.long (lI w), .long (lI f), .long (lI un), .long (lI sc)])), (h1, .inr (0, [.int (iI (bz ln)), .int (iI sx), .int (iI ox), .int (iI sy), .int (iI oy), .int (iI px), .int (iI py), .int (iI qx), .int (iI qy), .int (iI rx), .int (iI ry)]))] sz) := by
  refine Met.ofW (cc := cL_take) (maxL := 16) (ret := none) (by decide) rfl ?_
  intro p e s m args below meth c s₁ B hml hv
  obtain ⟨hargs, hsz, hP, hK, hD0⟩ := hv
  have hx := B.exec
  have hb := B.bytes
  have hr := B.returns
  have hts := atoms_spec (ws := wL_take) B.pre
  have hown : s.vm.findClass RL = some m.cls := findClass_of_methodNamed B.named
  have hlocks := B.notSynchronized
  subst hsz
  have hD := hD0.self (sz := s.heap.size)
  generalize hAe : va_A [(h0, .inr (1, [.long (lI w), .long (lI f), .long (lI un), .long (lI sc)])), (h1, .inr (0, [.int (iI (bz ln)), .int (iI sx), .int (iI ox), .int (iI sy), .int (iI oy), .int (iI px), .int (iI py), .int (iI qx), .int (iI qy), .int (iI rx), .int (iI ry)]))] s.heap.size = A at hD ⊢
  have hA : ∀ q : Nat, s.heap.size ≤ q → A q := fun q h => by rw [← hAe]; exact Or.inr h
  have hS0 : va_S A s.heap s.heap [] := va_S.rf
  refine x_name (fun R Q H locs hR hQ hH hlo => ?_)
  rw [← hH] at hP
  have hS : va_S A s.heap H locs := by rw [hH, hlo]; exact hS0
  refine x_entry hargs (Nat.le_of_ble_eq_true rfl) (fun ls hl => ?_)
  have hl : lv_has ls 16 [(0, .ref h0), (1, .ref h1), (2, .int (iI y)), (3, .int (iI (bz up)))] := hl
  have hP : va_P (dC, dI) vwCl [(h0, .inr (1, [.long (lI w), .long (lI f), .long (lI un), .long (lI sc)])), (h1, .inr (0, [.int (iI (bz ln)), .int (iI sx), .int (iI ox), .int (iI sy), .int (iI oy), .int (iI px), .int (iI py), .int (iI qx), .int (iI qy), .int (iI rx), .int (iI ry)]))] H := hP
  refine lv_aload_n hx hb dL_take_0 rfl (lv_at hl 1 rfl) ?_
  refine va_get (D := (dC, dI)) (ci := 0) (v := .int (iI sx)) (C := RP) (T := TP) (N := 11) hx hb hts (fun w9 h9 => List.mem_cons_of_mem _ (inP w9 h9)) hown hK hP 1 rfl rfl 1 (by decide) (hts _ (List.mem_cons_of_mem _ flL_9)) (fun _ h9 => h9) rfl dL_take_1 ?_
  refine xl_i2l hx hb dL_take_4 (by omega) ?_
  refine lv_lstore (lv' := [(4, .long (lI sx)), (0, .ref h0), (1, .ref h1), (2, .int (iI y)), (3, .int (iI (bz up)))]) hx hb dL_take_5 hl (by decide) rfl (fun ls hl => ?_)
  refine lv_aload_n hx hb dL_take_7 rfl (lv_at hl 2 rfl) ?_
  refine va_get (D := (dC, dI)) (ci := 0) (v := .int (iI ox)) (C := RP) (T := TP) (N := 11) hx hb hts (fun w9 h9 => List.mem_cons_of_mem _ (inP w9 h9)) hown hK hP 1 rfl rfl 2 (by decide) (hts _ (List.mem_cons_of_mem _ flL_15)) (fun _ h9 => h9) rfl dL_take_8 ?_
  refine xl_i2l hx hb dL_take_11 (by omega) ?_
  refine lv_lstore (lv' := [(6, .long (lI ox)), (4, .long (lI sx)), (0, .ref h0), (1, .ref h1), (2, .int (iI y)), (3, .int (iI (bz up)))]) hx hb dL_take_12 hl (by decide) rfl (fun ls hl => ?_)
  refine lv_aload_n hx hb dL_take_14 rfl (lv_at hl 3 rfl) ?_
  refine va_get (D := (dC, dI)) (ci := 0) (v := .int (iI sy)) (C := RP) (T := TP) (N := 11) hx hb hts (fun w9 h9 => List.mem_cons_of_mem _ (inP w9 h9)) hown hK hP 1 rfl rfl 3 (by decide) (hts _ (List.mem_cons_of_mem _ flL_18)) (fun _ h9 => h9) rfl dL_take_15 ?_
  refine xl_i2l hx hb dL_take_18 (by omega) ?_
  refine lv_lstore (lv' := [(8, .long (lI sy)), (6, .long (lI ox)), (4, .long (lI sx)), (0, .ref h0), (1, .ref h1), (2, .int (iI y)), (3, .int (iI (bz up)))]) hx hb dL_take_19 hl (by decide) rfl (fun ls hl => ?_)
  refine lv_aload_n hx hb dL_take_21 rfl (lv_at hl 4 rfl) ?_
  refine va_get (D := (dC, dI)) (ci := 0) (v := .int (iI oy)) (C := RP) (T := TP) (N := 11) hx hb hts (fun w9 h9 => List.mem_cons_of_mem _ (inP w9 h9)) hown hK hP 1 rfl rfl 4 (by decide) (hts _ (List.mem_cons_of_mem _ flL_21)) (fun _ h9 => h9) rfl dL_take_22 ?_
  refine xl_i2l hx hb dL_take_25 (by omega) ?_
  refine lv_lstore (lv' := [(10, .long (lI oy)), (8, .long (lI sy)), (6, .long (lI ox)), (4, .long (lI sx)), (0, .ref h0), (1, .ref h1), (2, .int (iI y)), (3, .int (iI (bz up)))]) hx hb dL_take_26 hl (by decide) rfl (fun ls hl => ?_)
  refine lv_aload_n hx hb dL_take_28 rfl (lv_at hl 5 rfl) ?_
  refine va_get (D := (dC, dI)) (ci := 0) (v := .int (iI py)) (C := RP) (T := TP) (N := 11) hx hb hts (fun w9 h9 => List.mem_cons_of_mem _ (inP w9 h9)) hown hK hP 1 rfl rfl 6 (by decide) (hts _ (List.mem_cons_of_mem _ flL_24)) (fun _ h9 => h9) rfl dL_take_29 ?_
  refine lv_iload_n hx hb dL_take_32 rfl (lv_at hl 6 rfl) ?_
  refine xi_sub (z := py - y) hx hb dL_take_33 rfl ?_
  refine xl_i2l hx hb dL_take_34 (by omega) ?_
  refine lv_lstore (lv' := [(12, .long (lI (py - y))), (10, .long (lI oy)), (8, .long (lI sy)), (6, .long (lI ox)), (4, .long (lI sx)), (0, .ref h0), (1, .ref h1), (2, .int (iI y)), (3, .int (iI (bz up)))]) hx hb dL_take_35 hl (by decide) rfl (fun ls hl => ?_)
  refine lv_lload hx hb dL_take_37 (lv_at hl 2 rfl) ?_
  refine lv_lconst (v := lI 0) hx hb dL_take_39 (by decide +kernel) ?_
  refine xl_ne (tgt := 98) hx hb dL_take_40 dL_take_41 (by decide) (by omega) (by omega) (fun c_40 => ?_) (fun c_40 => ?_)
  · skip
    refine lv_lload hx hb dL_take_98 (lv_at hl 2 rfl) ?_
    refine lv_lload hx hb dL_take_100 (lv_at hl 3 rfl) ?_
    refine xl_mul (z := sy * ox) hx hb dL_take_102 rfl ?_
    refine lv_lload hx hb dL_take_103 (lv_at hl 4 rfl) ?_
    refine lv_lload hx hb dL_take_105 (lv_at hl 1 rfl) ?_
    refine xl_mul (z := sx * oy) hx hb dL_take_107 rfl ?_
    refine xl_sub (z := sy * ox - sx * oy) hx hb dL_take_108 rfl ?_
    refine lv_lstore (lv' := [(14, .long (lI (sy * ox - sx * oy))), (12, .long (lI (py - y))), (10, .long (lI oy)), (8, .long (lI sy)), (6, .long (lI ox)), (4, .long (lI sx)), (0, .ref h0), (1, .ref h1), (2, .int (iI y)), (3, .int (iI (bz up)))]) hx hb dL_take_109 hl (by decide) rfl (fun ls hl => ?_)
    refine lv_aload_n hx hb dL_take_111 rfl (lv_at hl 6 rfl) ?_
    refine lv_iload_n hx hb dL_take_112 rfl (lv_at hl 9 rfl) ?_
    refine xb_if_eq (tgt := 121) hx hb dL_take_113 (by decide) (fun c_113 => ?_) (fun c_113 => ?_)
    · skip
      refine lv_lload hx hb dL_take_121 (lv_at hl 0 rfl) ?_
      refine xl_neg (z := -(sy * ox - sx * oy)) hx hb dL_take_123 rfl ?_
      refine va_put (D := (dC, dI)) (ci := 1) (v := .long (lI (-(sy * ox - sx * oy)))) (ty := .long) (C := RL) (T := TL) (N := 4) hx hb hts (fun w9 h9 => List.mem_cons_of_mem _ (inL w9 h9)) tyL tyL_ok nmL hown hK hP hD hS 0 rfl rfl 1 (by decide) (hts _ (List.mem_cons_of_mem _ flL_27)) (fun _ h9 => h9) rfl (by decide +kernel) rfl rfl (Nat.le_of_ble_eq_true rfl) dL_take_124 (fun H locs hP hD hS => ?_)
      have hP : va_P (dC, dI) vwCl [(h0, .inr (1, [.long (lI w), .long (lI (-(sy * ox - sx * oy))), .long (lI un), .long (lI sc)])), (h1, .inr (0, [.int (iI (bz ln)), .int (iI sx), .int (iI ox), .int (iI sy), .int (iI oy), .int (iI px), .int (iI py), .int (iI qx), .int (iI qy), .int (iI rx), .int (iI ry)]))] H := hP
      have hD : va_D A [(h0, .inr (1, [.long (lI w), .long (lI (-(sy * ox - sx * oy))), .long (lI un), .long (lI sc)])), (h1, .inr (0, [.int (iI (bz ln)), .int (iI sx), .int (iI ox), .int (iI sy), .int (iI oy), .int (iI px), .int (iI py), .int (iI qx), .int (iI qy), .int (iI rx), .int (iI ry)]))] := hD
      refine lv_aload_n hx hb dL_take_127 rfl (lv_at hl 6 rfl) ?_
      refine lv_aload_n hx hb dL_take_128 rfl (lv_at hl 7 rfl) ?_
      refine lv_iload_n hx hb dL_take_129 rfl (lv_at hl 8 rfl) ?_
      have hPc := hP.sub (ws' := [(h1, .inr (0, [.int (iI (bz ln)), .int (iI sx), .int (iI ox), .int (iI sy), .int (iI oy), .int (iI px), .int (iI py), .int (iI qx), .int (iI qy), .int (iI rx), .int (iI ry)]))]) [1] rfl
      have hKc := hK.sub (tys' := []) [] rfl
      refine vp_callSl (W.runV (As := [.int (iI y)]) (rest := [.ref h0]) ⟨hx, hb, hml, hown, hts⟩ (p_underRoot l dC dI h1 ln sx ox sy oy px py qx qy rx ry y b4 b3 b6 b7) (cwV 1 hts (tb_V mlL_45 imP_underRoot seP_underRoot iniP coP_underRoot) rfl rfl rfl (by decide +kernel) (by subst hR; exact ⟨Nat.le_of_ble_eq_true rfl, Nat.le_of_ble_eq_true rfl⟩)) ⟨fun a9 U9 g9 mk9 q9 => by obtain ⟨q0, qP, qK⟩ := q9; exact ⟨q0, qP, va_K.moved (u := U9) (U := U9.calling g9 mk9 a9) (Vm.Alike.refl U9.vm) qK⟩, va_recv hKc hPc (ci := 0) (q0 := 0) rfl rfl, fun U hU hW => ⟨rfl, by rw [hU]; exact hPc, va_K.moved hW.alike hKc⟩⟩ rfl rfl hl.1 rfl (lv_room (Nat.le_of_ble_eq_true rfl)) dL_take_130 ⟨by subst hR; exact Nat.zero_le _, by subst hR; exact Nat.zero_le _⟩) (fun r_130 hw_130 => ?_)
      subst hw_130
      refine va_put (D := (dC, dI)) (ci := 1) (v := .long (lI (oy * oy - 4 * sy * (py - y)))) (ty := .long) (C := RL) (T := TL) (N := 4) hx hb hts (fun w9 h9 => List.mem_cons_of_mem _ (inL w9 h9)) tyL tyL_ok nmL hown hK hP hD hS 0 rfl rfl 2 (by decide) (hts _ (List.mem_cons_of_mem _ flL_33)) (fun _ h9 => h9) rfl (by decide +kernel) rfl rfl (Nat.le_of_ble_eq_true rfl) dL_take_133 (fun H locs hP hD hS => ?_)
      have hP : va_P (dC, dI) vwCl [(h0, .inr (1, [.long (lI w), .long (lI (-(sy * ox - sx * oy))), .long (lI (oy * oy - 4 * sy * (py - y))), .long (lI sc)])), (h1, .inr (0, [.int (iI (bz ln)), .int (iI sx), .int (iI ox), .int (iI sy), .int (iI oy), .int (iI px), .int (iI py), .int (iI qx), .int (iI qy), .int (iI rx), .int (iI ry)]))] H := hP
      have hD : va_D A [(h0, .inr (1, [.long (lI w), .long (lI (-(sy * ox - sx * oy))), .long (lI (oy * oy - 4 * sy * (py - y))), .long (lI sc)])), (h1, .inr (0, [.int (iI (bz ln)), .int (iI sx), .int (iI ox), .int (iI sy), .int (iI oy), .int (iI px), .int (iI py), .int (iI qx), .int (iI qy), .int (iI rx), .int (iI ry)]))] := hD
      refine lv_aload_n hx hb dL_take_136 rfl (lv_at hl 6 rfl) ?_
      refine lv_ldc2 (v := 2) hx hb hown (hts _ (List.mem_cons_of_mem _ klL_49)) dL_take_137 ?_
      refine xi_top (y := .long (lI 2)) (by decide +kernel) ?_
      refine lv_lload hx hb dL_take_140 (lv_at hl 3 rfl) ?_
      refine xl_mul (z := 2 * sy) hx hb dL_take_142 rfl ?_
      refine lv_lload hx hb dL_take_143 (lv_at hl 3 rfl) ?_
      refine xl_mul (z := (2 * sy) * sy) hx hb dL_take_145 rfl ?_
      refine va_put (D := (dC, dI)) (ci := 1) (v := .long (lI ((2 * sy) * sy))) (ty := .long) (C := RL) (T := TL) (N := 4) hx hb hts (fun w9 h9 => List.mem_cons_of_mem _ (inL w9 h9)) tyL tyL_ok nmL hown hK hP hD hS 0 rfl rfl 3 (by decide) (hts _ (List.mem_cons_of_mem _ flL_36)) (fun _ h9 => h9) rfl (by decide +kernel) rfl rfl (Nat.le_of_ble_eq_true rfl) dL_take_146 (fun H locs hP hD hS => ?_)
      have hP : va_P (dC, dI) vwCl [(h0, .inr (1, [.long (lI w), .long (lI (-(sy * ox - sx * oy))), .long (lI (oy * oy - 4 * sy * (py - y))), .long (lI ((2 * sy) * sy))])), (h1, .inr (0, [.int (iI (bz ln)), .int (iI sx), .int (iI ox), .int (iI sy), .int (iI oy), .int (iI px), .int (iI py), .int (iI qx), .int (iI qy), .int (iI rx), .int (iI ry)]))] H := hP
      have hD : va_D A [(h0, .inr (1, [.long (lI w), .long (lI (-(sy * ox - sx * oy))), .long (lI (oy * oy - 4 * sy * (py - y))), .long (lI ((2 * sy) * sy))])), (h1, .inr (0, [.int (iI (bz ln)), .int (iI sx), .int (iI ox), .int (iI sy), .int (iI oy), .int (iI px), .int (iI py), .int (iI qx), .int (iI qy), .int (iI rx), .int (iI ry)]))] := hD
      refine lv_aload_n hx hb dL_take_149 rfl (lv_at hl 6 rfl) ?_
      refine lv_lload hx hb dL_take_150 (lv_at hl 0 rfl) ?_
      refine xl_neg (z := -(sy * ox - sx * oy)) hx hb dL_take_152 rfl ?_
      refine lv_lload hx hb dL_take_153 (lv_at hl 2 rfl) ?_
      refine xl_mul (z := (-(sy * ox - sx * oy)) * oy) hx hb dL_take_155 rfl ?_
      refine lv_ldc2 (v := 2) hx hb hown (hts _ (List.mem_cons_of_mem _ klL_49)) dL_take_156 ?_
      refine xi_top (y := .long (lI 2)) (by decide +kernel) ?_
      refine lv_lload hx hb dL_take_159 (lv_at hl 3 rfl) ?_
      refine xl_mul (z := 2 * sy) hx hb dL_take_161 rfl ?_
      refine lv_lload hx hb dL_take_162 (lv_at hl 5 rfl) ?_
      refine xl_mul (z := (2 * sy) * sx) hx hb dL_take_164 rfl ?_
      refine lv_lload hx hb dL_take_165 (lv_at hl 1 rfl) ?_
      refine xl_mul (z := ((2 * sy) * sx) * (py - y)) hx hb dL_take_167 rfl ?_
      refine xl_sub (z := ((-(sy * ox - sx * oy)) * oy) - (((2 * sy) * sx) * (py - y))) hx hb dL_take_168 rfl ?_
      refine lv_aload_n hx hb dL_take_169 rfl (lv_at hl 6 rfl) ?_
      refine va_get (D := (dC, dI)) (ci := 1) (v := .long (lI ((2 * sy) * sy))) (C := RL) (T := TL) (N := 4) hx hb hts (fun w9 h9 => List.mem_cons_of_mem _ (inL w9 h9)) hown hK hP 0 rfl rfl 3 (by decide) (hts _ (List.mem_cons_of_mem _ flL_36)) (fun _ h9 => h9) rfl dL_take_170 ?_
      refine lv_aload_n hx hb dL_take_173 rfl (lv_at hl 7 rfl) ?_
      refine va_get (D := (dC, dI)) (ci := 0) (v := .int (iI px)) (C := RP) (T := TP) (N := 11) hx hb hts (fun w9 h9 => List.mem_cons_of_mem _ (inP w9 h9)) hown hK hP 1 rfl rfl 5 (by decide) (hts _ (List.mem_cons_of_mem _ flL_39)) (fun _ h9 => h9) rfl dL_take_174 ?_
      refine xl_i2l hx hb dL_take_177 (by omega) ?_
      refine xl_mul (z := ((2 * sy) * sy) * px) hx hb dL_take_178 rfl ?_
      refine xl_add (z := (((-(sy * ox - sx * oy)) * oy) - (((2 * sy) * sx) * (py - y))) + (((2 * sy) * sy) * px)) hx hb dL_take_179 rfl ?_
      refine va_put (D := (dC, dI)) (ci := 1) (v := .long (lI ((((-(sy * ox - sx * oy)) * oy) - (((2 * sy) * sx) * (py - y))) + (((2 * sy) * sy) * px)))) (ty := .long) (C := RL) (T := TL) (N := 4) hx hb hts (fun w9 h9 => List.mem_cons_of_mem _ (inL w9 h9)) tyL tyL_ok nmL hown hK hP hD hS 0 rfl rfl 0 (by decide) (hts _ (List.mem_cons_of_mem _ flL_42)) (fun _ h9 => h9) rfl (by decide +kernel) rfl rfl (Nat.le_of_ble_eq_true rfl) dL_take_180 (fun H locs hP hD hS => ?_)
      have hP : va_P (dC, dI) vwCl [(h0, .inr (1, [.long (lI ((((-(sy * ox - sx * oy)) * oy) - (((2 * sy) * sx) * (py - y))) + (((2 * sy) * sy) * px))), .long (lI (-(sy * ox - sx * oy))), .long (lI (oy * oy - 4 * sy * (py - y))), .long (lI ((2 * sy) * sy))])), (h1, .inr (0, [.int (iI (bz ln)), .int (iI sx), .int (iI ox), .int (iI sy), .int (iI oy), .int (iI px), .int (iI py), .int (iI qx), .int (iI qy), .int (iI rx), .int (iI ry)]))] H := hP
      have hD : va_D A [(h0, .inr (1, [.long (lI ((((-(sy * ox - sx * oy)) * oy) - (((2 * sy) * sx) * (py - y))) + (((2 * sy) * sy) * px))), .long (lI (-(sy * ox - sx * oy))), .long (lI (oy * oy - 4 * sy * (py - y))), .long (lI ((2 * sy) * sy))])), (h1, .inr (0, [.int (iI (bz ln)), .int (iI sx), .int (iI ox), .int (iI sy), .int (iI oy), .int (iI px), .int (iI py), .int (iI qx), .int (iI qy), .int (iI rx), .int (iI ry)]))] := hD
      subst hQ
      exact W.vret hx hb hr (fun t9 ht9 hW9 => ⟨⟨((((-(sy * ox - sx * oy)) * oy) - (((2 * sy) * sx) * (py - y))) + (((2 * sy) * sy) * px), -(sy * ox - sx * oy), oy * oy - 4 * sy * (py - y), (2 * sy) * sy), rfl, (⟨by unfold tkW; rw [if_neg c_40], by unfold tkF; rw [if_neg c_40, if_neg (by rw [c_113]; decide)], by unfold tkU; rw [if_neg c_40], by unfold tkS; rw [if_neg c_40]⟩), by rw [ht9]; exact hP, va_K.moved hW9.alike hK, hD⟩, hS.F ht9⟩) hS.2.2 dL_take_183
    · skip
      refine lv_lload hx hb dL_take_116 (lv_at hl 0 rfl) ?_
      refine lv_goto (tgt := 124) hx hb dL_take_118 (by decide) ?_
      refine va_put (D := (dC, dI)) (ci := 1) (v := .long (lI (sy * ox - sx * oy))) (ty := .long) (C := RL) (T := TL) (N := 4) hx hb hts (fun w9 h9 => List.mem_cons_of_mem _ (inL w9 h9)) tyL tyL_ok nmL hown hK hP hD hS 0 rfl rfl 1 (by decide) (hts _ (List.mem_cons_of_mem _ flL_27)) (fun _ h9 => h9) rfl (by decide +kernel) rfl rfl (Nat.le_of_ble_eq_true rfl) dL_take_124 (fun H locs hP hD hS => ?_)
      have hP : va_P (dC, dI) vwCl [(h0, .inr (1, [.long (lI w), .long (lI (sy * ox - sx * oy)), .long (lI un), .long (lI sc)])), (h1, .inr (0, [.int (iI (bz ln)), .int (iI sx), .int (iI ox), .int (iI sy), .int (iI oy), .int (iI px), .int (iI py), .int (iI qx), .int (iI qy), .int (iI rx), .int (iI ry)]))] H := hP
      have hD : va_D A [(h0, .inr (1, [.long (lI w), .long (lI (sy * ox - sx * oy)), .long (lI un), .long (lI sc)])), (h1, .inr (0, [.int (iI (bz ln)), .int (iI sx), .int (iI ox), .int (iI sy), .int (iI oy), .int (iI px), .int (iI py), .int (iI qx), .int (iI qy), .int (iI rx), .int (iI ry)]))] := hD
      refine lv_aload_n hx hb dL_take_127 rfl (lv_at hl 6 rfl) ?_
      refine lv_aload_n hx hb dL_take_128 rfl (lv_at hl 7 rfl) ?_
      refine lv_iload_n hx hb dL_take_129 rfl (lv_at hl 8 rfl) ?_
      have hPc := hP.sub (ws' := [(h1, .inr (0, [.int (iI (bz ln)), .int (iI sx), .int (iI ox), .int (iI sy), .int (iI oy), .int (iI px), .int (iI py), .int (iI qx), .int (iI qy), .int (iI rx), .int (iI ry)]))]) [1] rfl
      have hKc := hK.sub (tys' := []) [] rfl
      refine vp_callSl (W.runV (As := [.int (iI y)]) (rest := [.ref h0]) ⟨hx, hb, hml, hown, hts⟩ (p_underRoot l dC dI h1 ln sx ox sy oy px py qx qy rx ry y b4 b3 b6 b7) (cwV 1 hts (tb_V mlL_45 imP_underRoot seP_underRoot iniP coP_underRoot) rfl rfl rfl (by decide +kernel) (by subst hR; exact ⟨Nat.le_of_ble_eq_true rfl, Nat.le_of_ble_eq_true rfl⟩)) ⟨fun a9 U9 g9 mk9 q9 => by obtain ⟨q0, qP, qK⟩ := q9; exact ⟨q0, qP, va_K.moved (u := U9) (U := U9.calling g9 mk9 a9) (Vm.Alike.refl U9.vm) qK⟩, va_recv hKc hPc (ci := 0) (q0 := 0) rfl rfl, fun U hU hW => ⟨rfl, by rw [hU]; exact hPc, va_K.moved hW.alike hKc⟩⟩ rfl rfl hl.1 rfl (lv_room (Nat.le_of_ble_eq_true rfl)) dL_take_130 ⟨by subst hR; exact Nat.zero_le _, by subst hR; exact Nat.zero_le _⟩) (fun r_130 hw_130 => ?_)
      subst hw_130
      refine va_put (D := (dC, dI)) (ci := 1) (v := .long (lI (oy * oy - 4 * sy * (py - y)))) (ty := .long) (C := RL) (T := TL) (N := 4) hx hb hts (fun w9 h9 => List.mem_cons_of_mem _ (inL w9 h9)) tyL tyL_ok nmL hown hK hP hD hS 0 rfl rfl 2 (by decide) (hts _ (List.mem_cons_of_mem _ flL_33)) (fun _ h9 => h9) rfl (by decide +kernel) rfl rfl (Nat.le_of_ble_eq_true rfl) dL_take_133 (fun H locs hP hD hS => ?_)
      have hP : va_P (dC, dI) vwCl [(h0, .inr (1, [.long (lI w), .long (lI (sy * ox - sx * oy)), .long (lI (oy * oy - 4 * sy * (py - y))), .long (lI sc)])), (h1, .inr (0, [.int (iI (bz ln)), .int (iI sx), .int (iI ox), .int (iI sy), .int (iI oy), .int (iI px), .int (iI py), .int (iI qx), .int (iI qy), .int (iI rx), .int (iI ry)]))] H := hP
      have hD : va_D A [(h0, .inr (1, [.long (lI w), .long (lI (sy * ox - sx * oy)), .long (lI (oy * oy - 4 * sy * (py - y))), .long (lI sc)])), (h1, .inr (0, [.int (iI (bz ln)), .int (iI sx), .int (iI ox), .int (iI sy), .int (iI oy), .int (iI px), .int (iI py), .int (iI qx), .int (iI qy), .int (iI rx), .int (iI ry)]))] := hD
      refine lv_aload_n hx hb dL_take_136 rfl (lv_at hl 6 rfl) ?_
      refine lv_ldc2 (v := 2) hx hb hown (hts _ (List.mem_cons_of_mem _ klL_49)) dL_take_137 ?_
      refine xi_top (y := .long (lI 2)) (by decide +kernel) ?_
      refine lv_lload hx hb dL_take_140 (lv_at hl 3 rfl) ?_
      refine xl_mul (z := 2 * sy) hx hb dL_take_142 rfl ?_
      refine lv_lload hx hb dL_take_143 (lv_at hl 3 rfl) ?_
      refine xl_mul (z := (2 * sy) * sy) hx hb dL_take_145 rfl ?_
      refine va_put (D := (dC, dI)) (ci := 1) (v := .long (lI ((2 * sy) * sy))) (ty := .long) (C := RL) (T := TL) (N := 4) hx hb hts (fun w9 h9 => List.mem_cons_of_mem _ (inL w9 h9)) tyL tyL_ok nmL hown hK hP hD hS 0 rfl rfl 3 (by decide) (hts _ (List.mem_cons_of_mem _ flL_36)) (fun _ h9 => h9) rfl (by decide +kernel) rfl rfl (Nat.le_of_ble_eq_true rfl) dL_take_146 (fun H locs hP hD hS => ?_)
      have hP : va_P (dC, dI) vwCl [(h0, .inr (1, [.long (lI w), .long (lI (sy * ox - sx * oy)), .long (lI (oy * oy - 4 * sy * (py - y))), .long (lI ((2 * sy) * sy))])), (h1, .inr (0, [.int (iI (bz ln)), .int (iI sx), .int (iI ox), .int (iI sy), .int (iI oy), .int (iI px), .int (iI py), .int (iI qx), .int (iI qy), .int (iI rx), .int (iI ry)]))] H := hP
      have hD : va_D A [(h0, .inr (1, [.long (lI w), .long (lI (sy * ox - sx * oy)), .long (lI (oy * oy - 4 * sy * (py - y))), .long (lI ((2 * sy) * sy))])), (h1, .inr (0, [.int (iI (bz ln)), .int (iI sx), .int (iI ox), .int (iI sy), .int (iI oy), .int (iI px), .int (iI py), .int (iI qx), .int (iI qy), .int (iI rx), .int (iI ry)]))] := hD
      refine lv_aload_n hx hb dL_take_149 rfl (lv_at hl 6 rfl) ?_
      refine lv_lload hx hb dL_take_150 (lv_at hl 0 rfl) ?_
      refine xl_neg (z := -(sy * ox - sx * oy)) hx hb dL_take_152 rfl ?_
      refine lv_lload hx hb dL_take_153 (lv_at hl 2 rfl) ?_
      refine xl_mul (z := (-(sy * ox - sx * oy)) * oy) hx hb dL_take_155 rfl ?_
      refine lv_ldc2 (v := 2) hx hb hown (hts _ (List.mem_cons_of_mem _ klL_49)) dL_take_156 ?_
      refine xi_top (y := .long (lI 2)) (by decide +kernel) ?_
      refine lv_lload hx hb dL_take_159 (lv_at hl 3 rfl) ?_
      refine xl_mul (z := 2 * sy) hx hb dL_take_161 rfl ?_
      refine lv_lload hx hb dL_take_162 (lv_at hl 5 rfl) ?_
      refine xl_mul (z := (2 * sy) * sx) hx hb dL_take_164 rfl ?_
      refine lv_lload hx hb dL_take_165 (lv_at hl 1 rfl) ?_
      refine xl_mul (z := ((2 * sy) * sx) * (py - y)) hx hb dL_take_167 rfl ?_
      refine xl_sub (z := ((-(sy * ox - sx * oy)) * oy) - (((2 * sy) * sx) * (py - y))) hx hb dL_take_168 rfl ?_
      refine lv_aload_n hx hb dL_take_169 rfl (lv_at hl 6 rfl) ?_
      refine va_get (D := (dC, dI)) (ci := 1) (v := .long (lI ((2 * sy) * sy))) (C := RL) (T := TL) (N := 4) hx hb hts (fun w9 h9 => List.mem_cons_of_mem _ (inL w9 h9)) hown hK hP 0 rfl rfl 3 (by decide) (hts _ (List.mem_cons_of_mem _ flL_36)) (fun _ h9 => h9) rfl dL_take_170 ?_
      refine lv_aload_n hx hb dL_take_173 rfl (lv_at hl 7 rfl) ?_
      refine va_get (D := (dC, dI)) (ci := 0) (v := .int (iI px)) (C := RP) (T := TP) (N := 11) hx hb hts (fun w9 h9 => List.mem_cons_of_mem _ (inP w9 h9)) hown hK hP 1 rfl rfl 5 (by decide) (hts _ (List.mem_cons_of_mem _ flL_39)) (fun _ h9 => h9) rfl dL_take_174 ?_
      refine xl_i2l hx hb dL_take_177 (by omega) ?_
      refine xl_mul (z := ((2 * sy) * sy) * px) hx hb dL_take_178 rfl ?_
      refine xl_add (z := (((-(sy * ox - sx * oy)) * oy) - (((2 * sy) * sx) * (py - y))) + (((2 * sy) * sy) * px)) hx hb dL_take_179 rfl ?_
      refine va_put (D := (dC, dI)) (ci := 1) (v := .long (lI ((((-(sy * ox - sx * oy)) * oy) - (((2 * sy) * sx) * (py - y))) + (((2 * sy) * sy) * px)))) (ty := .long) (C := RL) (T := TL) (N := 4) hx hb hts (fun w9 h9 => List.mem_cons_of_mem _ (inL w9 h9)) tyL tyL_ok nmL hown hK hP hD hS 0 rfl rfl 0 (by decide) (hts _ (List.mem_cons_of_mem _ flL_42)) (fun _ h9 => h9) rfl (by decide +kernel) rfl rfl (Nat.le_of_ble_eq_true rfl) dL_take_180 (fun H locs hP hD hS => ?_)
      have hP : va_P (dC, dI) vwCl [(h0, .inr (1, [.long (lI ((((-(sy * ox - sx * oy)) * oy) - (((2 * sy) * sx) * (py - y))) + (((2 * sy) * sy) * px))), .long (lI (sy * ox - sx * oy)), .long (lI (oy * oy - 4 * sy * (py - y))), .long (lI ((2 * sy) * sy))])), (h1, .inr (0, [.int (iI (bz ln)), .int (iI sx), .int (iI ox), .int (iI sy), .int (iI oy), .int (iI px), .int (iI py), .int (iI qx), .int (iI qy), .int (iI rx), .int (iI ry)]))] H := hP
      have hD : va_D A [(h0, .inr (1, [.long (lI ((((-(sy * ox - sx * oy)) * oy) - (((2 * sy) * sx) * (py - y))) + (((2 * sy) * sy) * px))), .long (lI (sy * ox - sx * oy)), .long (lI (oy * oy - 4 * sy * (py - y))), .long (lI ((2 * sy) * sy))])), (h1, .inr (0, [.int (iI (bz ln)), .int (iI sx), .int (iI ox), .int (iI sy), .int (iI oy), .int (iI px), .int (iI py), .int (iI qx), .int (iI qy), .int (iI rx), .int (iI ry)]))] := hD
      subst hQ
      exact W.vret hx hb hr (fun t9 ht9 hW9 => ⟨⟨((((-(sy * ox - sx * oy)) * oy) - (((2 * sy) * sx) * (py - y))) + (((2 * sy) * sy) * px), sy * ox - sx * oy, oy * oy - 4 * sy * (py - y), (2 * sy) * sy), rfl, (⟨by unfold tkW; rw [if_neg c_40], by unfold tkF; rw [if_neg c_40, if_pos c_113], by unfold tkU; rw [if_neg c_40], by unfold tkS; rw [if_neg c_40]⟩), by rw [ht9]; exact hP, va_K.moved hW9.alike hK, hD⟩, hS.F ht9⟩) hS.2.2 dL_take_183
  · skip
    refine lv_aload_n hx hb dL_take_44 rfl (lv_at hl 5 rfl) ?_
    refine lv_lconst (v := lI 0) hx hb dL_take_45 (by decide +kernel) ?_
    refine va_put (D := (dC, dI)) (ci := 1) (v := .long (lI 0)) (ty := .long) (C := RL) (T := TL) (N := 4) hx hb hts (fun w9 h9 => List.mem_cons_of_mem _ (inL w9 h9)) tyL tyL_ok nmL hown hK hP hD hS 0 rfl rfl 1 (by decide) (hts _ (List.mem_cons_of_mem _ flL_27)) (fun _ h9 => h9) rfl (by decide +kernel) rfl rfl (Nat.le_of_ble_eq_true rfl) dL_take_46 (fun H locs hP hD hS => ?_)
    have hP : va_P (dC, dI) vwCl [(h0, .inr (1, [.long (lI w), .long (lI 0), .long (lI un), .long (lI sc)])), (h1, .inr (0, [.int (iI (bz ln)), .int (iI sx), .int (iI ox), .int (iI sy), .int (iI oy), .int (iI px), .int (iI py), .int (iI qx), .int (iI qy), .int (iI rx), .int (iI ry)]))] H := hP
    have hD : va_D A [(h0, .inr (1, [.long (lI w), .long (lI 0), .long (lI un), .long (lI sc)])), (h1, .inr (0, [.int (iI (bz ln)), .int (iI sx), .int (iI ox), .int (iI sy), .int (iI oy), .int (iI px), .int (iI py), .int (iI qx), .int (iI qy), .int (iI rx), .int (iI ry)]))] := hD
    refine lv_aload_n hx hb dL_take_49 rfl (lv_at hl 5 rfl) ?_
    refine lv_lconst (v := lI 0) hx hb dL_take_50 (by decide +kernel) ?_
    refine va_put (D := (dC, dI)) (ci := 1) (v := .long (lI 0)) (ty := .long) (C := RL) (T := TL) (N := 4) hx hb hts (fun w9 h9 => List.mem_cons_of_mem _ (inL w9 h9)) tyL tyL_ok nmL hown hK hP hD hS 0 rfl rfl 2 (by decide) (hts _ (List.mem_cons_of_mem _ flL_33)) (fun _ h9 => h9) rfl (by decide +kernel) rfl rfl (Nat.le_of_ble_eq_true rfl) dL_take_51 (fun H locs hP hD hS => ?_)
    have hP : va_P (dC, dI) vwCl [(h0, .inr (1, [.long (lI w), .long (lI 0), .long (lI 0), .long (lI sc)])), (h1, .inr (0, [.int (iI (bz ln)), .int (iI sx), .int (iI ox), .int (iI sy), .int (iI oy), .int (iI px), .int (iI py), .int (iI qx), .int (iI qy), .int (iI rx), .int (iI ry)]))] H := hP
    have hD : va_D A [(h0, .inr (1, [.long (lI w), .long (lI 0), .long (lI 0), .long (lI sc)])), (h1, .inr (0, [.int (iI (bz ln)), .int (iI sx), .int (iI ox), .int (iI sy), .int (iI oy), .int (iI px), .int (iI py), .int (iI qx), .int (iI qy), .int (iI rx), .int (iI ry)]))] := hD
    refine lv_aload_n hx hb dL_take_54 rfl (lv_at hl 5 rfl) ?_
    refine lv_lload hx hb dL_take_55 (lv_at hl 1 rfl) ?_
    refine lv_lload hx hb dL_take_57 (lv_at hl 1 rfl) ?_
    refine xl_mul (z := oy * oy) hx hb dL_take_59 rfl ?_
    refine va_put (D := (dC, dI)) (ci := 1) (v := .long (lI (oy * oy))) (ty := .long) (C := RL) (T := TL) (N := 4) hx hb hts (fun w9 h9 => List.mem_cons_of_mem _ (inL w9 h9)) tyL tyL_ok nmL hown hK hP hD hS 0 rfl rfl 3 (by decide) (hts _ (List.mem_cons_of_mem _ flL_36)) (fun _ h9 => h9) rfl (by decide +kernel) rfl rfl (Nat.le_of_ble_eq_true rfl) dL_take_60 (fun H locs hP hD hS => ?_)
    have hP : va_P (dC, dI) vwCl [(h0, .inr (1, [.long (lI w), .long (lI 0), .long (lI 0), .long (lI (oy * oy))])), (h1, .inr (0, [.int (iI (bz ln)), .int (iI sx), .int (iI ox), .int (iI sy), .int (iI oy), .int (iI px), .int (iI py), .int (iI qx), .int (iI qy), .int (iI rx), .int (iI ry)]))] H := hP
    have hD : va_D A [(h0, .inr (1, [.long (lI w), .long (lI 0), .long (lI 0), .long (lI (oy * oy))])), (h1, .inr (0, [.int (iI (bz ln)), .int (iI sx), .int (iI ox), .int (iI sy), .int (iI oy), .int (iI px), .int (iI py), .int (iI qx), .int (iI qy), .int (iI rx), .int (iI ry)]))] := hD
    refine lv_aload_n hx hb dL_take_63 rfl (lv_at hl 5 rfl) ?_
    refine lv_lload hx hb dL_take_64 (lv_at hl 4 rfl) ?_
    refine lv_lload hx hb dL_take_66 (lv_at hl 0 rfl) ?_
    refine xl_mul (z := sx * (py - y)) hx hb dL_take_68 rfl ?_
    refine lv_lload hx hb dL_take_69 (lv_at hl 0 rfl) ?_
    refine xl_mul (z := (sx * (py - y)) * (py - y)) hx hb dL_take_71 rfl ?_
    refine lv_lload hx hb dL_take_72 (lv_at hl 3 rfl) ?_
    refine lv_lload hx hb dL_take_74 (lv_at hl 1 rfl) ?_
    refine xl_mul (z := ox * oy) hx hb dL_take_76 rfl ?_
    refine lv_lload hx hb dL_take_77 (lv_at hl 0 rfl) ?_
    refine xl_mul (z := (ox * oy) * (py - y)) hx hb dL_take_79 rfl ?_
    refine xl_sub (z := ((sx * (py - y)) * (py - y)) - ((ox * oy) * (py - y))) hx hb dL_take_80 rfl ?_
    refine lv_aload_n hx hb dL_take_81 rfl (lv_at hl 5 rfl) ?_
    refine va_get (D := (dC, dI)) (ci := 1) (v := .long (lI (oy * oy))) (C := RL) (T := TL) (N := 4) hx hb hts (fun w9 h9 => List.mem_cons_of_mem _ (inL w9 h9)) hown hK hP 0 rfl rfl 3 (by decide) (hts _ (List.mem_cons_of_mem _ flL_36)) (fun _ h9 => h9) rfl dL_take_82 ?_
    refine lv_aload_n hx hb dL_take_85 rfl (lv_at hl 6 rfl) ?_
    refine va_get (D := (dC, dI)) (ci := 0) (v := .int (iI px)) (C := RP) (T := TP) (N := 11) hx hb hts (fun w9 h9 => List.mem_cons_of_mem _ (inP w9 h9)) hown hK hP 1 rfl rfl 5 (by decide) (hts _ (List.mem_cons_of_mem _ flL_39)) (fun _ h9 => h9) rfl dL_take_86 ?_
    refine xl_i2l hx hb dL_take_89 (by omega) ?_
    refine xl_mul (z := (oy * oy) * px) hx hb dL_take_90 rfl ?_
    refine xl_add (z := (((sx * (py - y)) * (py - y)) - ((ox * oy) * (py - y))) + ((oy * oy) * px)) hx hb dL_take_91 rfl ?_
    refine va_put (D := (dC, dI)) (ci := 1) (v := .long (lI ((((sx * (py - y)) * (py - y)) - ((ox * oy) * (py - y))) + ((oy * oy) * px)))) (ty := .long) (C := RL) (T := TL) (N := 4) hx hb hts (fun w9 h9 => List.mem_cons_of_mem _ (inL w9 h9)) tyL tyL_ok nmL hown hK hP hD hS 0 rfl rfl 0 (by decide) (hts _ (List.mem_cons_of_mem _ flL_42)) (fun _ h9 => h9) rfl (by decide +kernel) rfl rfl (Nat.le_of_ble_eq_true rfl) dL_take_92 (fun H locs hP hD hS => ?_)
    have hP : va_P (dC, dI) vwCl [(h0, .inr (1, [.long (lI ((((sx * (py - y)) * (py - y)) - ((ox * oy) * (py - y))) + ((oy * oy) * px))), .long (lI 0), .long (lI 0), .long (lI (oy * oy))])), (h1, .inr (0, [.int (iI (bz ln)), .int (iI sx), .int (iI ox), .int (iI sy), .int (iI oy), .int (iI px), .int (iI py), .int (iI qx), .int (iI qy), .int (iI rx), .int (iI ry)]))] H := hP
    have hD : va_D A [(h0, .inr (1, [.long (lI ((((sx * (py - y)) * (py - y)) - ((ox * oy) * (py - y))) + ((oy * oy) * px))), .long (lI 0), .long (lI 0), .long (lI (oy * oy))])), (h1, .inr (0, [.int (iI (bz ln)), .int (iI sx), .int (iI ox), .int (iI sy), .int (iI oy), .int (iI px), .int (iI py), .int (iI qx), .int (iI qy), .int (iI rx), .int (iI ry)]))] := hD
    refine lv_goto (tgt := 183) hx hb dL_take_95 (by decide) ?_
    subst hQ
    exact W.vret hx hb hr (fun t9 ht9 hW9 => ⟨⟨((((sx * (py - y)) * (py - y)) - ((ox * oy) * (py - y))) + ((oy * oy) * px), 0, 0, oy * oy), rfl, (⟨by unfold tkW; rw [if_pos c_40], by unfold tkF; rw [if_pos c_40], by unfold tkU; rw [if_pos c_40], by unfold tkS; rw [if_pos c_40]⟩), by rw [ht9]; exact hP, va_K.moved hW9.alike hK, hD⟩, hS.F ht9⟩) hS.2.2 dL_take_183
end
section
/-! Piece: made, moved, bounds; small reads of the raster; Arrays.fill -/
def sqv (ln : Bool) (p q r : Int) : Int := if ln = true then 0 else p - 2 * q + r
def onv (ln : Bool) (p q r : Int) : Int := if ln = true then r - p else 2 * (q - p)
def pbd (px py qx qy rx ry z : Int) : Int := if z = 0 then fol px qx rx else if z = 1 then fol py qy ry else if z = 2 then -fol (-px) (-qx) (-rx) else -fol (-py) (-qy) (-ry)
def cen (F : Int → Int) (O : Int → Bool) (i nb : Int) : Int := if O nb = true then F nb else (F i + F nb) / 2
def isin (par : Bool) (w : Int) : Bool := if par = true then decide (w % 2 ≠ 0) else decide (w ≠ 0)
theorem iI_and1 (w : Int) : iI w &&& iI 1 = iI (w % 2) := by
  rw [pk_and (iI w) 1 (by decide +kernel), iI_nI]
  congr 1
  have h1 : (iI w).toBitVec = BitVec.ofInt 32 w := by unfold iI; rw [Int32.toBitVec_ofInt]
  rw [h1, BitVec.toNat_ofInt]
  have h2 : 0 ≤ w % 2 ^ 32 := Int.emod_nonneg _ (by decide)
  omega

set_option maxHeartbeats 4000000 in
set_option maxRecDepth 100000 in
/-- a new Piece -/
theorem p_init (l : Launch) (dC : Nat → ClassId) (dI : Nat → Nat → Nat) (sz : Nat) (h0 : Nat) (px py qx qy rx ry : Int) (ln : Bool) : Met l yP_init wP_init ({ frames := 1, cells := 0, slots := 0, locals := 12 }) (va_Pc [.ref h0, .int (iI px), .int (iI py), .int (iI qx), .int (iI qy), .int (iI rx), .int (iI ry), .int (iI (bz ln))] (fun U => U.heap.size = sz ∧ va_P (dC, dI) vwCl [(h0, .inr (0, [.int (iI (bz false)), .int (iI 0), .int (iI 0), .int (iI 0), .int (iI 0), .int (iI 0), .int (iI 0), .int (iI 0), .int (iI 0), .int (iI 0), .int (iI 0)]))] U.heap ∧ va_K (dC, dI) vwCl [] U ∧ va_D (fun _ => True) [(h0, .inr (0, [.int (iI (bz false)), .int (iI 0), .int (iI 0), .int (iI 0), .int (iI 0), .int (iI 0), .int (iI 0), .int (iI 0), .int (iI 0), .int (iI 0), .int (iI 0)]))])) (va_Qv (fun (u : Int × Int × Int × Int) => u.1 = sqv ln px qx rx ∧ u.2.1 = onv ln px qx rx ∧ u.2.2.1 = sqv ln py qy ry ∧ u.2.2.2 = onv ln py qy ry) (fun (u : Int × Int × Int × Int) t9 => va_P (dC, dI) vwCl [(h0, .inr (0, [.int (iI (bz ln)), .int (iI u.1), .int (iI u.2.1), .int (iI u.2.2.1), .int (iI u.2.2.2), .int (iI px), .int (iI py), .int (iI qx), .int (iI qy), .int (iI rx), .int (iI ry)]))] t9.heap ∧ va_K (dC, dI) vwCl [] t9 ∧ va_D (va_A [(h0, .inr (0, [.int (iI (bz false)), .int (iI 0), .int (iI 0), .int (iI 0), .int (iI 0), .int (iI 0), .int (iI 0), .int (iI 0), .int (iI 0), .int (iI 0), .int (iI 0)]))] sz) [(h0, .inr (0, [.int (iI (bz ln)), .int (iI u.1), .int (iI u.2.1), .int (iI u.2.2.1), .int (iI u.2.2.2), .int (iI px), .int (iI py), .int (iI qx), .int (iI qy), .int (iI rx), .int (iI ry)]))]) (va_A [(h0, .inr (0, [.int (iI (bz false)), .int (iI 0), .int (iI 0), .int (iI 0), .int (iI 0), .int (iI 0), .int (iI 0), .int (iI 0), .int (iI 0), .int (iI 0), .int (iI 0)]))] sz)) 0 0 (va_A [(h0, .inr (0, [.int (iI (bz false)), .int (iI 0), .int (iI 0), .int (iI 0), .int (iI 0), .int (iI 0), .int (iI 0), .int (iI 0), .int (iI 0), .int (iI 0), .int (iI 0)]))] sz) := by
  refine Met.ofW (cc := cP_init) (maxL := 8) (ret := none) (by decide) rfl ?_
  intro p e s m args below meth c s₁ B hml hv
  obtain ⟨hargs, hsz, hP, hK, hD0⟩ := hv
  have hx := B.exec
  have hb := B.bytes
  have hr := B.returns
  have hts := atoms_spec (ws := wP_init) B.pre
  have hown : s.vm.findClass RP = some m.cls := findClass_of_methodNamed B.named
  have hlocks := B.notSynchronized
  have hin : meth.name = "<init>" := (name_of_methodNamed B.named B.method).1
  subst hsz
  have hD := hD0.self (sz := s.heap.size)
  generalize hAe : va_A [(h0, .inr (0, [.int (iI (bz false)), .int (iI 0), .int (iI 0), .int (iI 0), .int (iI 0), .int (iI 0), .int (iI 0), .int (iI 0), .int (iI 0), .int (iI 0), .int (iI 0)]))] s.heap.size = A at hD ⊢
  have hA : ∀ q : Nat, s.heap.size ≤ q → A q := fun q h => by rw [← hAe]; exact Or.inr h
  have hS0 : va_S A s.heap s.heap [] := va_S.rf
  refine x_name (fun R Q H locs hR hQ hH hlo => ?_)
  rw [← hH] at hP
  have hS : va_S A s.heap H locs := by rw [hH, hlo]; exact hS0
  refine x_entry hargs (Nat.le_of_ble_eq_true rfl) (fun ls hl => ?_)
  have hl : lv_has ls 8 [(0, .ref h0), (1, .int (iI px)), (2, .int (iI py)), (3, .int (iI qx)), (4, .int (iI qy)), (5, .int (iI rx)), (6, .int (iI ry)), (7, .int (iI (bz ln)))] := hl
  have hP : va_P (dC, dI) vwCl [(h0, .inr (0, [.int (iI (bz false)), .int (iI 0), .int (iI 0), .int (iI 0), .int (iI 0), .int (iI 0), .int (iI 0), .int (iI 0), .int (iI 0), .int (iI 0), .int (iI 0)]))] H := hP
  refine lv_aload_n hx hb dP_init_0 rfl (lv_at hl 0 rfl) ?_
  refine W.objInit hx hb hown (hts _ (List.mem_cons_of_mem _ mlP_1)) (hts _ (List.mem_cons_of_mem _ imO)) (hts _ (List.mem_cons_of_mem _ coO)) rfl (by rw [hml]; exact hl.1) rfl dP_init_1 (by subst hR; exact Nat.le_of_ble_eq_true rfl) (by subst hR; exact Nat.le_of_ble_eq_true rfl) ?_
  refine W.eq (g2 := F0 m 4 ls []) rfl ?_
  refine lv_aload_n hx hb dP_init_4 rfl (lv_at hl 0 rfl) ?_
  refine lv_iload hx hb dP_init_5 (lv_at hl 7 rfl) ?_
  refine va_putF (D := (dC, dI)) (ci := 0) (v := .int (iI (bz ln))) (ty := .boolean) (C := RP) (T := TP) (N := 11) hx hb hts (fun w9 h9 => List.mem_cons_of_mem _ (inP w9 h9)) tyP tyP_ok nmP hown hK hP hD hS 0 rfl rfl 0 (by decide) (hts _ (List.mem_cons_of_mem _ flP_7)) (fun _ h9 => h9) rfl hin rfl (by decide +kernel) (xi_narZ2 _) (xi_fitZ _) (Nat.le_of_ble_eq_true rfl) dP_init_7 (fun H locs hP hD hS => ?_)
  have hP : va_P (dC, dI) vwCl [(h0, .inr (0, [.int (iI (bz ln)), .int (iI 0), .int (iI 0), .int (iI 0), .int (iI 0), .int (iI 0), .int (iI 0), .int (iI 0), .int (iI 0), .int (iI 0), .int (iI 0)]))] H := hP
  have hD : va_D A [(h0, .inr (0, [.int (iI (bz ln)), .int (iI 0), .int (iI 0), .int (iI 0), .int (iI 0), .int (iI 0), .int (iI 0), .int (iI 0), .int (iI 0), .int (iI 0), .int (iI 0)]))] := hD
  refine lv_aload_n hx hb dP_init_10 rfl (lv_at hl 0 rfl) ?_
  refine lv_iload_n hx hb dP_init_11 rfl (lv_at hl 1 rfl) ?_
  refine va_put (D := (dC, dI)) (ci := 0) (v := .int (iI px)) (ty := .int) (C := RP) (T := TP) (N := 11) hx hb hts (fun w9 h9 => List.mem_cons_of_mem _ (inP w9 h9)) tyP tyP_ok nmP hown hK hP hD hS 0 rfl rfl 5 (by decide) (hts _ (List.mem_cons_of_mem _ flP_13)) (fun _ h9 => h9) rfl (by decide +kernel) rfl rfl (Nat.le_of_ble_eq_true rfl) dP_init_12 (fun H locs hP hD hS => ?_)
  have hP : va_P (dC, dI) vwCl [(h0, .inr (0, [.int (iI (bz ln)), .int (iI 0), .int (iI 0), .int (iI 0), .int (iI 0), .int (iI px), .int (iI 0), .int (iI 0), .int (iI 0), .int (iI 0), .int (iI 0)]))] H := hP
  have hD : va_D A [(h0, .inr (0, [.int (iI (bz ln)), .int (iI 0), .int (iI 0), .int (iI 0), .int (iI 0), .int (iI px), .int (iI 0), .int (iI 0), .int (iI 0), .int (iI 0), .int (iI 0)]))] := hD
  refine lv_aload_n hx hb dP_init_15 rfl (lv_at hl 0 rfl) ?_
  refine lv_iload_n hx hb dP_init_16 rfl (lv_at hl 2 rfl) ?_
  refine va_put (D := (dC, dI)) (ci := 0) (v := .int (iI py)) (ty := .int) (C := RP) (T := TP) (N := 11) hx hb hts (fun w9 h9 => List.mem_cons_of_mem _ (inP w9 h9)) tyP tyP_ok nmP hown hK hP hD hS 0 rfl rfl 6 (by decide) (hts _ (List.mem_cons_of_mem _ flP_17)) (fun _ h9 => h9) rfl (by decide +kernel) rfl rfl (Nat.le_of_ble_eq_true rfl) dP_init_17 (fun H locs hP hD hS => ?_)
  have hP : va_P (dC, dI) vwCl [(h0, .inr (0, [.int (iI (bz ln)), .int (iI 0), .int (iI 0), .int (iI 0), .int (iI 0), .int (iI px), .int (iI py), .int (iI 0), .int (iI 0), .int (iI 0), .int (iI 0)]))] H := hP
  have hD : va_D A [(h0, .inr (0, [.int (iI (bz ln)), .int (iI 0), .int (iI 0), .int (iI 0), .int (iI 0), .int (iI px), .int (iI py), .int (iI 0), .int (iI 0), .int (iI 0), .int (iI 0)]))] := hD
  refine lv_aload_n hx hb dP_init_20 rfl (lv_at hl 0 rfl) ?_
  refine lv_iload_n hx hb dP_init_21 rfl (lv_at hl 3 rfl) ?_
  refine va_put (D := (dC, dI)) (ci := 0) (v := .int (iI qx)) (ty := .int) (C := RP) (T := TP) (N := 11) hx hb hts (fun w9 h9 => List.mem_cons_of_mem _ (inP w9 h9)) tyP tyP_ok nmP hown hK hP hD hS 0 rfl rfl 7 (by decide) (hts _ (List.mem_cons_of_mem _ flP_20)) (fun _ h9 => h9) rfl (by decide +kernel) rfl rfl (Nat.le_of_ble_eq_true rfl) dP_init_22 (fun H locs hP hD hS => ?_)
  have hP : va_P (dC, dI) vwCl [(h0, .inr (0, [.int (iI (bz ln)), .int (iI 0), .int (iI 0), .int (iI 0), .int (iI 0), .int (iI px), .int (iI py), .int (iI qx), .int (iI 0), .int (iI 0), .int (iI 0)]))] H := hP
  have hD : va_D A [(h0, .inr (0, [.int (iI (bz ln)), .int (iI 0), .int (iI 0), .int (iI 0), .int (iI 0), .int (iI px), .int (iI py), .int (iI qx), .int (iI 0), .int (iI 0), .int (iI 0)]))] := hD
  refine lv_aload_n hx hb dP_init_25 rfl (lv_at hl 0 rfl) ?_
  refine lv_iload hx hb dP_init_26 (lv_at hl 4 rfl) ?_
  refine va_put (D := (dC, dI)) (ci := 0) (v := .int (iI qy)) (ty := .int) (C := RP) (T := TP) (N := 11) hx hb hts (fun w9 h9 => List.mem_cons_of_mem _ (inP w9 h9)) tyP tyP_ok nmP hown hK hP hD hS 0 rfl rfl 8 (by decide) (hts _ (List.mem_cons_of_mem _ flP_23)) (fun _ h9 => h9) rfl (by decide +kernel) rfl rfl (Nat.le_of_ble_eq_true rfl) dP_init_28 (fun H locs hP hD hS => ?_)
  have hP : va_P (dC, dI) vwCl [(h0, .inr (0, [.int (iI (bz ln)), .int (iI 0), .int (iI 0), .int (iI 0), .int (iI 0), .int (iI px), .int (iI py), .int (iI qx), .int (iI qy), .int (iI 0), .int (iI 0)]))] H := hP
  have hD : va_D A [(h0, .inr (0, [.int (iI (bz ln)), .int (iI 0), .int (iI 0), .int (iI 0), .int (iI 0), .int (iI px), .int (iI py), .int (iI qx), .int (iI qy), .int (iI 0), .int (iI 0)]))] := hD
  refine lv_aload_n hx hb dP_init_31 rfl (lv_at hl 0 rfl) ?_
  refine lv_iload hx hb dP_init_32 (lv_at hl 5 rfl) ?_
  refine va_put (D := (dC, dI)) (ci := 0) (v := .int (iI rx)) (ty := .int) (C := RP) (T := TP) (N := 11) hx hb hts (fun w9 h9 => List.mem_cons_of_mem _ (inP w9 h9)) tyP tyP_ok nmP hown hK hP hD hS 0 rfl rfl 9 (by decide) (hts _ (List.mem_cons_of_mem _ flP_26)) (fun _ h9 => h9) rfl (by decide +kernel) rfl rfl (Nat.le_of_ble_eq_true rfl) dP_init_34 (fun H locs hP hD hS => ?_)
  have hP : va_P (dC, dI) vwCl [(h0, .inr (0, [.int (iI (bz ln)), .int (iI 0), .int (iI 0), .int (iI 0), .int (iI 0), .int (iI px), .int (iI py), .int (iI qx), .int (iI qy), .int (iI rx), .int (iI 0)]))] H := hP
  have hD : va_D A [(h0, .inr (0, [.int (iI (bz ln)), .int (iI 0), .int (iI 0), .int (iI 0), .int (iI 0), .int (iI px), .int (iI py), .int (iI qx), .int (iI qy), .int (iI rx), .int (iI 0)]))] := hD
  refine lv_aload_n hx hb dP_init_37 rfl (lv_at hl 0 rfl) ?_
  refine lv_iload hx hb dP_init_38 (lv_at hl 6 rfl) ?_
  refine va_put (D := (dC, dI)) (ci := 0) (v := .int (iI ry)) (ty := .int) (C := RP) (T := TP) (N := 11) hx hb hts (fun w9 h9 => List.mem_cons_of_mem _ (inP w9 h9)) tyP tyP_ok nmP hown hK hP hD hS 0 rfl rfl 10 (by decide) (hts _ (List.mem_cons_of_mem _ flP_29)) (fun _ h9 => h9) rfl (by decide +kernel) rfl rfl (Nat.le_of_ble_eq_true rfl) dP_init_40 (fun H locs hP hD hS => ?_)
  have hP : va_P (dC, dI) vwCl [(h0, .inr (0, [.int (iI (bz ln)), .int (iI 0), .int (iI 0), .int (iI 0), .int (iI 0), .int (iI px), .int (iI py), .int (iI qx), .int (iI qy), .int (iI rx), .int (iI ry)]))] H := hP
  have hD : va_D A [(h0, .inr (0, [.int (iI (bz ln)), .int (iI 0), .int (iI 0), .int (iI 0), .int (iI 0), .int (iI px), .int (iI py), .int (iI qx), .int (iI qy), .int (iI rx), .int (iI ry)]))] := hD
  refine lv_aload_n hx hb dP_init_43 rfl (lv_at hl 0 rfl) ?_
  have cut_61_1 : ∀ (s1 : Int) (ls : Array Slot), (s1 = sqv ln px qx rx) → lv_has ls 8 [(0, .ref h0), (1, .int (iI px)), (2, .int (iI py)), (3, .int (iI qx)), (4, .int (iI qy)), (5, .int (iI rx)), (6, .int (iI ry)), (7, .int (iI (bz ln)))] → W p l e R s m args below meth c H locs 0 0 Q (F0 m 61 ls [.int (iI s1), .ref h0]) := by
    intro s1 ls hs1 hl
    refine va_putF (D := (dC, dI)) (ci := 0) (v := .int (iI s1)) (ty := .int) (C := RP) (T := TP) (N := 11) hx hb hts (fun w9 h9 => List.mem_cons_of_mem _ (inP w9 h9)) tyP tyP_ok nmP hown hK hP hD hS 0 rfl rfl 1 (by decide) (hts _ (List.mem_cons_of_mem _ flP_32)) (fun _ h9 => h9) rfl hin rfl (by decide +kernel) rfl rfl (Nat.le_of_ble_eq_true rfl) dP_init_61 (fun H locs hP hD hS => ?_)
    have hP : va_P (dC, dI) vwCl [(h0, .inr (0, [.int (iI (bz ln)), .int (iI s1), .int (iI 0), .int (iI 0), .int (iI 0), .int (iI px), .int (iI py), .int (iI qx), .int (iI qy), .int (iI rx), .int (iI ry)]))] H := hP
    have hD : va_D A [(h0, .inr (0, [.int (iI (bz ln)), .int (iI s1), .int (iI 0), .int (iI 0), .int (iI 0), .int (iI px), .int (iI py), .int (iI qx), .int (iI qy), .int (iI rx), .int (iI ry)]))] := hD
    refine lv_aload_n hx hb dP_init_64 rfl (lv_at hl 0 rfl) ?_
    have cut_83_2 : ∀ (s2 : Int) (ls : Array Slot), (s2 = sqv ln py qy ry) → lv_has ls 8 [(0, .ref h0), (1, .int (iI px)), (2, .int (iI py)), (3, .int (iI qx)), (4, .int (iI qy)), (5, .int (iI rx)), (6, .int (iI ry)), (7, .int (iI (bz ln)))] → W p l e R s m args below meth c H locs 0 0 Q (F0 m 83 ls [.int (iI s2), .ref h0]) := by
      intro s2 ls hs2 hl
      refine va_putF (D := (dC, dI)) (ci := 0) (v := .int (iI s2)) (ty := .int) (C := RP) (T := TP) (N := 11) hx hb hts (fun w9 h9 => List.mem_cons_of_mem _ (inP w9 h9)) tyP tyP_ok nmP hown hK hP hD hS 0 rfl rfl 3 (by decide) (hts _ (List.mem_cons_of_mem _ flP_35)) (fun _ h9 => h9) rfl hin rfl (by decide +kernel) rfl rfl (Nat.le_of_ble_eq_true rfl) dP_init_83 (fun H locs hP hD hS => ?_)
      have hP : va_P (dC, dI) vwCl [(h0, .inr (0, [.int (iI (bz ln)), .int (iI s1), .int (iI 0), .int (iI s2), .int (iI 0), .int (iI px), .int (iI py), .int (iI qx), .int (iI qy), .int (iI rx), .int (iI ry)]))] H := hP
      have hD : va_D A [(h0, .inr (0, [.int (iI (bz ln)), .int (iI s1), .int (iI 0), .int (iI s2), .int (iI 0), .int (iI px), .int (iI py), .int (iI qx), .int (iI qy), .int (iI rx), .int (iI ry)]))] := hD
      refine lv_aload_n hx hb dP_init_86 rfl (lv_at hl 0 rfl) ?_
      have cut_104_3 : ∀ (o1 : Int) (ls : Array Slot), (o1 = onv ln px qx rx) → lv_has ls 8 [(0, .ref h0), (1, .int (iI px)), (2, .int (iI py)), (3, .int (iI qx)), (4, .int (iI qy)), (5, .int (iI rx)), (6, .int (iI ry)), (7, .int (iI (bz ln)))] → W p l e R s m args below meth c H locs 0 0 Q (F0 m 104 ls [.int (iI o1), .ref h0]) := by
        intro o1 ls ho1 hl
        refine va_putF (D := (dC, dI)) (ci := 0) (v := .int (iI o1)) (ty := .int) (C := RP) (T := TP) (N := 11) hx hb hts (fun w9 h9 => List.mem_cons_of_mem _ (inP w9 h9)) tyP tyP_ok nmP hown hK hP hD hS 0 rfl rfl 2 (by decide) (hts _ (List.mem_cons_of_mem _ flP_38)) (fun _ h9 => h9) rfl hin rfl (by decide +kernel) rfl rfl (Nat.le_of_ble_eq_true rfl) dP_init_104 (fun H locs hP hD hS => ?_)
        have hP : va_P (dC, dI) vwCl [(h0, .inr (0, [.int (iI (bz ln)), .int (iI s1), .int (iI o1), .int (iI s2), .int (iI 0), .int (iI px), .int (iI py), .int (iI qx), .int (iI qy), .int (iI rx), .int (iI ry)]))] H := hP
        have hD : va_D A [(h0, .inr (0, [.int (iI (bz ln)), .int (iI s1), .int (iI o1), .int (iI s2), .int (iI 0), .int (iI px), .int (iI py), .int (iI qx), .int (iI qy), .int (iI rx), .int (iI ry)]))] := hD
        refine lv_aload_n hx hb dP_init_107 rfl (lv_at hl 0 rfl) ?_
        have cut_126_4 : ∀ (o2 : Int) (ls : Array Slot), (o2 = onv ln py qy ry) → lv_has ls 8 [(0, .ref h0), (1, .int (iI px)), (2, .int (iI py)), (3, .int (iI qx)), (4, .int (iI qy)), (5, .int (iI rx)), (6, .int (iI ry)), (7, .int (iI (bz ln)))] → W p l e R s m args below meth c H locs 0 0 Q (F0 m 126 ls [.int (iI o2), .ref h0]) := by
          intro o2 ls ho2 hl
          refine va_putF (D := (dC, dI)) (ci := 0) (v := .int (iI o2)) (ty := .int) (C := RP) (T := TP) (N := 11) hx hb hts (fun w9 h9 => List.mem_cons_of_mem _ (inP w9 h9)) tyP tyP_ok nmP hown hK hP hD hS 0 rfl rfl 4 (by decide) (hts _ (List.mem_cons_of_mem _ flP_41)) (fun _ h9 => h9) rfl hin rfl (by decide +kernel) rfl rfl (Nat.le_of_ble_eq_true rfl) dP_init_126 (fun H locs hP hD hS => ?_)
          have hP : va_P (dC, dI) vwCl [(h0, .inr (0, [.int (iI (bz ln)), .int (iI s1), .int (iI o1), .int (iI s2), .int (iI o2), .int (iI px), .int (iI py), .int (iI qx), .int (iI qy), .int (iI rx), .int (iI ry)]))] H := hP
          have hD : va_D A [(h0, .inr (0, [.int (iI (bz ln)), .int (iI s1), .int (iI o1), .int (iI s2), .int (iI o2), .int (iI px), .int (iI py), .int (iI qx), .int (iI qy), .int (iI rx), .int (iI ry)]))] := hD
          subst hQ
          exact W.vret hx hb hr (fun t9 ht9 hW9 => ⟨⟨(s1, o1, s2, o2), rfl, (⟨hs1, ho1, hs2, ho2⟩), by rw [ht9]; exact hP, va_K.moved hW9.alike hK, hD⟩, hS.F ht9⟩) hS.2.2 dP_init_129
        refine lv_iload hx hb dP_init_108 (lv_at hl 7 rfl) ?_
        refine xb_if_eq (tgt := 120) hx hb dP_init_110 (by decide) (fun c_110 => ?_) (fun c_110 => ?_)
        · skip
          refine xi_iconst hx hb dP_init_120 ?_
          refine lv_iload hx hb dP_init_121 (lv_at hl 4 rfl) ?_
          refine lv_iload_n hx hb dP_init_123 rfl (lv_at hl 2 rfl) ?_
          refine xi_sub (z := qy - py) hx hb dP_init_124 rfl ?_
          refine xi_mul (z := 2 * (qy - py)) hx hb dP_init_125 rfl ?_
          exact cut_126_4 (2 * (qy - py)) _ (by unfold onv; rw [if_neg (by rw [c_110]; decide)]) (lv_sub hl [0, 1, 2, 3, 4, 5, 6, 7] rfl)
        · skip
          refine lv_iload hx hb dP_init_113 (lv_at hl 6 rfl) ?_
          refine lv_iload_n hx hb dP_init_115 rfl (lv_at hl 2 rfl) ?_
          refine xi_sub (z := ry - py) hx hb dP_init_116 rfl ?_
          refine lv_goto (tgt := 126) hx hb dP_init_117 (by decide) ?_
          exact cut_126_4 (ry - py) _ (by unfold onv; rw [if_pos c_110]) (lv_sub hl [0, 1, 2, 3, 4, 5, 6, 7] rfl)
      refine lv_iload hx hb dP_init_87 (lv_at hl 7 rfl) ?_
      refine xb_if_eq (tgt := 99) hx hb dP_init_89 (by decide) (fun c_89 => ?_) (fun c_89 => ?_)
      · skip
        refine xi_iconst hx hb dP_init_99 ?_
        refine lv_iload_n hx hb dP_init_100 rfl (lv_at hl 3 rfl) ?_
        refine lv_iload_n hx hb dP_init_101 rfl (lv_at hl 1 rfl) ?_
        refine xi_sub (z := qx - px) hx hb dP_init_102 rfl ?_
        refine xi_mul (z := 2 * (qx - px)) hx hb dP_init_103 rfl ?_
        exact cut_104_3 (2 * (qx - px)) _ (by unfold onv; rw [if_neg (by rw [c_89]; decide)]) (lv_sub hl [0, 1, 2, 3, 4, 5, 6, 7] rfl)
      · skip
        refine lv_iload hx hb dP_init_92 (lv_at hl 5 rfl) ?_
        refine lv_iload_n hx hb dP_init_94 rfl (lv_at hl 1 rfl) ?_
        refine xi_sub (z := rx - px) hx hb dP_init_95 rfl ?_
        refine lv_goto (tgt := 104) hx hb dP_init_96 (by decide) ?_
        exact cut_104_3 (rx - px) _ (by unfold onv; rw [if_pos c_89]) (lv_sub hl [0, 1, 2, 3, 4, 5, 6, 7] rfl)
    refine lv_iload hx hb dP_init_65 (lv_at hl 7 rfl) ?_
    refine xb_if_eq (tgt := 74) hx hb dP_init_67 (by decide) (fun c_67 => ?_) (fun c_67 => ?_)
    · skip
      refine lv_iload_n hx hb dP_init_74 rfl (lv_at hl 2 rfl) ?_
      refine xi_iconst hx hb dP_init_75 ?_
      refine lv_iload hx hb dP_init_76 (lv_at hl 4 rfl) ?_
      refine xi_mul (z := 2 * qy) hx hb dP_init_78 rfl ?_
      refine xi_sub (z := py - (2 * qy)) hx hb dP_init_79 rfl ?_
      refine lv_iload hx hb dP_init_80 (lv_at hl 6 rfl) ?_
      refine xi_add (z := (py - (2 * qy)) + ry) hx hb dP_init_82 rfl ?_
      exact cut_83_2 ((py - (2 * qy)) + ry) _ (by unfold sqv; rw [if_neg (by rw [c_67]; decide)]) (lv_sub hl [0, 1, 2, 3, 4, 5, 6, 7] rfl)
    · skip
      refine xi_iconst hx hb dP_init_70 ?_
      refine lv_goto (tgt := 83) hx hb dP_init_71 (by decide) ?_
      exact cut_83_2 0 _ (by unfold sqv; rw [if_pos c_67]) (lv_sub hl [0, 1, 2, 3, 4, 5, 6, 7] rfl)
  refine lv_iload hx hb dP_init_44 (lv_at hl 7 rfl) ?_
  refine xb_if_eq (tgt := 53) hx hb dP_init_46 (by decide) (fun c_46 => ?_) (fun c_46 => ?_)
  · skip
    refine lv_iload_n hx hb dP_init_53 rfl (lv_at hl 1 rfl) ?_
    refine xi_iconst hx hb dP_init_54 ?_
    refine lv_iload_n hx hb dP_init_55 rfl (lv_at hl 3 rfl) ?_
    refine xi_mul (z := 2 * qx) hx hb dP_init_56 rfl ?_
    refine xi_sub (z := px - (2 * qx)) hx hb dP_init_57 rfl ?_
    refine lv_iload hx hb dP_init_58 (lv_at hl 5 rfl) ?_
    refine xi_add (z := (px - (2 * qx)) + rx) hx hb dP_init_60 rfl ?_
    exact cut_61_1 ((px - (2 * qx)) + rx) _ (by unfold sqv; rw [if_neg (by rw [c_46]; decide)]) (lv_sub hl [0, 1, 2, 3, 4, 5, 6, 7] rfl)
  · skip
    refine xi_iconst hx hb dP_init_49 ?_
    refine lv_goto (tgt := 61) hx hb dP_init_50 (by decide) ?_
    exact cut_61_1 0 _ (by unfold sqv; rw [if_pos c_46]) (lv_sub hl [0, 1, 2, 3, 4, 5, 6, 7] rfl)
set_option maxHeartbeats 4000000 in
set_option maxRecDepth 100000 in
/-- shift -/
theorem p_shift (l : Launch) (dC : Nat → ClassId) (dI : Nat → Nat → Nat) (sz : Nat) (h0 : Nat) (ln : Bool) (sx ox sy oy px py qx qy rx ry : Int) (dx dy : Int) : Met l yP_shift wP_shift ({ frames := 0, cells := 0, slots := 0, locals := 0 }) (va_Pc [.ref h0, .int (iI dx), .int (iI dy)] (fun U => U.heap.size = sz ∧ va_P (dC, dI) vwCl [(h0, .inr (0, [.int (iI (bz ln)), .int (iI sx), .int (iI ox), .int (iI sy), .int (iI oy), .int (iI px), .int (iI py), .int (iI qx), .int (iI qy), .int (iI rx), .int (iI ry)]))] U.heap ∧ va_K (dC, dI) vwCl [] U ∧ va_D (fun _ => True) [(h0, .inr (0, [.int (iI (bz ln)), .int (iI sx), .int (iI ox), .int (iI sy), .int (iI oy), .int (iI px), .int (iI py), .int (iI qx), .int (iI qy), .int (iI rx), .int (iI ry)]))])) (va_Qv (fun (u : Unit) => True) (fun (u : Unit) t9 => va_P (dC, dI) vwCl [(h0, .inr (0, [.int (iI (bz ln)), .int (iI sx), .int (iI ox), .int (iI sy), .int (iI oy), .int (iI (px + dx)), .int (iI (py + dy)), .int (iI (qx + dx)), .int (iI (qy + dy)), .int (iI (rx + dx)), .int (iI (ry + dy))]))] t9.heap ∧ va_K (dC, dI) vwCl [] t9 ∧ va_D (va_A [(h0, .inr (0, [.int (iI (bz ln)), .int (iI sx), .int (iI ox), .int (iI sy), .int (iI oy), .int (iI px), .int (iI py), .int (iI qx), .int (iI qy), .int (iI rx), .int (iI ry)]))] sz) [(h0, .inr (0, [.int (iI (bz ln)), .int (iI sx), .int (iI ox), .int (iI sy), .int (iI oy), .int (iI (px + dx)), .int (iI (py + dy)), .int (iI (qx + dx)), .int (iI (qy + dy)), .int (iI (rx + dx)), .int (iI (ry + dy))]))]) (va_A [(h0, .inr (0, [.int (iI (bz ln)), .int (iI sx), .int (iI ox), .int (iI sy), .int (iI oy), .int (iI px), .int (iI py), .int (iI qx), .int (iI qy), .int (iI rx), .int (iI ry)]))] sz)) 0 0 (va_A [(h0, .inr (0, [.int (iI (bz ln)), .int (iI sx), .int (iI ox), .int (iI sy), .int (iI oy), .int (iI px), .int (iI py), .int (iI qx), .int (iI qy), .int (iI rx), .int (iI ry)]))] sz) := by
  refine Met.ofW (cc := cP_shift) (maxL := 3) (ret := none) (by decide) rfl ?_
  intro p e s m args below meth c s₁ B hml hv
  obtain ⟨hargs, hsz, hP, hK, hD0⟩ := hv
  have hx := B.exec
  have hb := B.bytes
  have hr := B.returns
  have hts := atoms_spec (ws := wP_shift) B.pre
  have hown : s.vm.findClass RP = some m.cls := findClass_of_methodNamed B.named
  have hlocks := B.notSynchronized
  subst hsz
  have hD := hD0.self (sz := s.heap.size)
  generalize hAe : va_A [(h0, .inr (0, [.int (iI (bz ln)), .int (iI sx), .int (iI ox), .int (iI sy), .int (iI oy), .int (iI px), .int (iI py), .int (iI qx), .int (iI qy), .int (iI rx), .int (iI ry)]))] s.heap.size = A at hD ⊢
  have hA : ∀ q : Nat, s.heap.size ≤ q → A q := fun q h => by rw [← hAe]; exact Or.inr h
  have hS0 : va_S A s.heap s.heap [] := va_S.rf
  refine x_name (fun R Q H locs hR hQ hH hlo => ?_)
  rw [← hH] at hP
  have hS : va_S A s.heap H locs := by rw [hH, hlo]; exact hS0
  refine x_entry hargs (Nat.le_of_ble_eq_true rfl) (fun ls hl => ?_)
  have hl : lv_has ls 3 [(0, .ref h0), (1, .int (iI dx)), (2, .int (iI dy))] := hl
  have hP : va_P (dC, dI) vwCl [(h0, .inr (0, [.int (iI (bz ln)), .int (iI sx), .int (iI ox), .int (iI sy), .int (iI oy), .int (iI px), .int (iI py), .int (iI qx), .int (iI qy), .int (iI rx), .int (iI ry)]))] H := hP
  refine lv_aload_n hx hb dP_shift_0 rfl (lv_at hl 0 rfl) ?_
  refine lv_dup hx hb dP_shift_1 rfl ?_
  refine va_get (D := (dC, dI)) (ci := 0) (v := .int (iI px)) (C := RP) (T := TP) (N := 11) hx hb hts (fun w9 h9 => List.mem_cons_of_mem _ (inP w9 h9)) hown hK hP 0 rfl rfl 5 (by decide) (hts _ (List.mem_cons_of_mem _ flP_13)) (fun _ h9 => h9) rfl dP_shift_2 ?_
  refine lv_iload_n hx hb dP_shift_5 rfl (lv_at hl 1 rfl) ?_
  refine xi_add (z := px + dx) hx hb dP_shift_6 rfl ?_
  refine va_put (D := (dC, dI)) (ci := 0) (v := .int (iI (px + dx))) (ty := .int) (C := RP) (T := TP) (N := 11) hx hb hts (fun w9 h9 => List.mem_cons_of_mem _ (inP w9 h9)) tyP tyP_ok nmP hown hK hP hD hS 0 rfl rfl 5 (by decide) (hts _ (List.mem_cons_of_mem _ flP_13)) (fun _ h9 => h9) rfl (by decide +kernel) rfl rfl (Nat.le_of_ble_eq_true rfl) dP_shift_7 (fun H locs hP hD hS => ?_)
  have hP : va_P (dC, dI) vwCl [(h0, .inr (0, [.int (iI (bz ln)), .int (iI sx), .int (iI ox), .int (iI sy), .int (iI oy), .int (iI (px + dx)), .int (iI py), .int (iI qx), .int (iI qy), .int (iI rx), .int (iI ry)]))] H := hP
  have hD : va_D A [(h0, .inr (0, [.int (iI (bz ln)), .int (iI sx), .int (iI ox), .int (iI sy), .int (iI oy), .int (iI (px + dx)), .int (iI py), .int (iI qx), .int (iI qy), .int (iI rx), .int (iI ry)]))] := hD
  refine lv_aload_n hx hb dP_shift_10 rfl (lv_at hl 0 rfl) ?_
  refine lv_dup hx hb dP_shift_11 rfl ?_
  refine va_get (D := (dC, dI)) (ci := 0) (v := .int (iI py)) (C := RP) (T := TP) (N := 11) hx hb hts (fun w9 h9 => List.mem_cons_of_mem _ (inP w9 h9)) hown hK hP 0 rfl rfl 6 (by decide) (hts _ (List.mem_cons_of_mem _ flP_17)) (fun _ h9 => h9) rfl dP_shift_12 ?_
  refine lv_iload_n hx hb dP_shift_15 rfl (lv_at hl 2 rfl) ?_
  refine xi_add (z := py + dy) hx hb dP_shift_16 rfl ?_
  refine va_put (D := (dC, dI)) (ci := 0) (v := .int (iI (py + dy))) (ty := .int) (C := RP) (T := TP) (N := 11) hx hb hts (fun w9 h9 => List.mem_cons_of_mem _ (inP w9 h9)) tyP tyP_ok nmP hown hK hP hD hS 0 rfl rfl 6 (by decide) (hts _ (List.mem_cons_of_mem _ flP_17)) (fun _ h9 => h9) rfl (by decide +kernel) rfl rfl (Nat.le_of_ble_eq_true rfl) dP_shift_17 (fun H locs hP hD hS => ?_)
  have hP : va_P (dC, dI) vwCl [(h0, .inr (0, [.int (iI (bz ln)), .int (iI sx), .int (iI ox), .int (iI sy), .int (iI oy), .int (iI (px + dx)), .int (iI (py + dy)), .int (iI qx), .int (iI qy), .int (iI rx), .int (iI ry)]))] H := hP
  have hD : va_D A [(h0, .inr (0, [.int (iI (bz ln)), .int (iI sx), .int (iI ox), .int (iI sy), .int (iI oy), .int (iI (px + dx)), .int (iI (py + dy)), .int (iI qx), .int (iI qy), .int (iI rx), .int (iI ry)]))] := hD
  refine lv_aload_n hx hb dP_shift_20 rfl (lv_at hl 0 rfl) ?_
  refine lv_dup hx hb dP_shift_21 rfl ?_
  refine va_get (D := (dC, dI)) (ci := 0) (v := .int (iI qx)) (C := RP) (T := TP) (N := 11) hx hb hts (fun w9 h9 => List.mem_cons_of_mem _ (inP w9 h9)) hown hK hP 0 rfl rfl 7 (by decide) (hts _ (List.mem_cons_of_mem _ flP_20)) (fun _ h9 => h9) rfl dP_shift_22 ?_
  refine lv_iload_n hx hb dP_shift_25 rfl (lv_at hl 1 rfl) ?_
  refine xi_add (z := qx + dx) hx hb dP_shift_26 rfl ?_
  refine va_put (D := (dC, dI)) (ci := 0) (v := .int (iI (qx + dx))) (ty := .int) (C := RP) (T := TP) (N := 11) hx hb hts (fun w9 h9 => List.mem_cons_of_mem _ (inP w9 h9)) tyP tyP_ok nmP hown hK hP hD hS 0 rfl rfl 7 (by decide) (hts _ (List.mem_cons_of_mem _ flP_20)) (fun _ h9 => h9) rfl (by decide +kernel) rfl rfl (Nat.le_of_ble_eq_true rfl) dP_shift_27 (fun H locs hP hD hS => ?_)
  have hP : va_P (dC, dI) vwCl [(h0, .inr (0, [.int (iI (bz ln)), .int (iI sx), .int (iI ox), .int (iI sy), .int (iI oy), .int (iI (px + dx)), .int (iI (py + dy)), .int (iI (qx + dx)), .int (iI qy), .int (iI rx), .int (iI ry)]))] H := hP
  have hD : va_D A [(h0, .inr (0, [.int (iI (bz ln)), .int (iI sx), .int (iI ox), .int (iI sy), .int (iI oy), .int (iI (px + dx)), .int (iI (py + dy)), .int (iI (qx + dx)), .int (iI qy), .int (iI rx), .int (iI ry)]))] := hD
  refine lv_aload_n hx hb dP_shift_30 rfl (lv_at hl 0 rfl) ?_
  refine lv_dup hx hb dP_shift_31 rfl ?_
  refine va_get (D := (dC, dI)) (ci := 0) (v := .int (iI qy)) (C := RP) (T := TP) (N := 11) hx hb hts (fun w9 h9 => List.mem_cons_of_mem _ (inP w9 h9)) hown hK hP 0 rfl rfl 8 (by decide) (hts _ (List.mem_cons_of_mem _ flP_23)) (fun _ h9 => h9) rfl dP_shift_32 ?_
  refine lv_iload_n hx hb dP_shift_35 rfl (lv_at hl 2 rfl) ?_
  refine xi_add (z := qy + dy) hx hb dP_shift_36 rfl ?_
  refine va_put (D := (dC, dI)) (ci := 0) (v := .int (iI (qy + dy))) (ty := .int) (C := RP) (T := TP) (N := 11) hx hb hts (fun w9 h9 => List.mem_cons_of_mem _ (inP w9 h9)) tyP tyP_ok nmP hown hK hP hD hS 0 rfl rfl 8 (by decide) (hts _ (List.mem_cons_of_mem _ flP_23)) (fun _ h9 => h9) rfl (by decide +kernel) rfl rfl (Nat.le_of_ble_eq_true rfl) dP_shift_37 (fun H locs hP hD hS => ?_)
  have hP : va_P (dC, dI) vwCl [(h0, .inr (0, [.int (iI (bz ln)), .int (iI sx), .int (iI ox), .int (iI sy), .int (iI oy), .int (iI (px + dx)), .int (iI (py + dy)), .int (iI (qx + dx)), .int (iI (qy + dy)), .int (iI rx), .int (iI ry)]))] H := hP
  have hD : va_D A [(h0, .inr (0, [.int (iI (bz ln)), .int (iI sx), .int (iI ox), .int (iI sy), .int (iI oy), .int (iI (px + dx)), .int (iI (py + dy)), .int (iI (qx + dx)), .int (iI (qy + dy)), .int (iI rx), .int (iI ry)]))] := hD
  refine lv_aload_n hx hb dP_shift_40 rfl (lv_at hl 0 rfl) ?_
  refine lv_dup hx hb dP_shift_41 rfl ?_
  refine va_get (D := (dC, dI)) (ci := 0) (v := .int (iI rx)) (C := RP) (T := TP) (N := 11) hx hb hts (fun w9 h9 => List.mem_cons_of_mem _ (inP w9 h9)) hown hK hP 0 rfl rfl 9 (by decide) (hts _ (List.mem_cons_of_mem _ flP_26)) (fun _ h9 => h9) rfl dP_shift_42 ?_
  refine lv_iload_n hx hb dP_shift_45 rfl (lv_at hl 1 rfl) ?_
  refine xi_add (z := rx + dx) hx hb dP_shift_46 rfl ?_
  refine va_put (D := (dC, dI)) (ci := 0) (v := .int (iI (rx + dx))) (ty := .int) (C := RP) (T := TP) (N := 11) hx hb hts (fun w9 h9 => List.mem_cons_of_mem _ (inP w9 h9)) tyP tyP_ok nmP hown hK hP hD hS 0 rfl rfl 9 (by decide) (hts _ (List.mem_cons_of_mem _ flP_26)) (fun _ h9 => h9) rfl (by decide +kernel) rfl rfl (Nat.le_of_ble_eq_true rfl) dP_shift_47 (fun H locs hP hD hS => ?_)
  have hP : va_P (dC, dI) vwCl [(h0, .inr (0, [.int (iI (bz ln)), .int (iI sx), .int (iI ox), .int (iI sy), .int (iI oy), .int (iI (px + dx)), .int (iI (py + dy)), .int (iI (qx + dx)), .int (iI (qy + dy)), .int (iI (rx + dx)), .int (iI ry)]))] H := hP
  have hD : va_D A [(h0, .inr (0, [.int (iI (bz ln)), .int (iI sx), .int (iI ox), .int (iI sy), .int (iI oy), .int (iI (px + dx)), .int (iI (py + dy)), .int (iI (qx + dx)), .int (iI (qy + dy)), .int (iI (rx + dx)), .int (iI ry)]))] := hD
  refine lv_aload_n hx hb dP_shift_50 rfl (lv_at hl 0 rfl) ?_
  refine lv_dup hx hb dP_shift_51 rfl ?_
  refine va_get (D := (dC, dI)) (ci := 0) (v := .int (iI ry)) (C := RP) (T := TP) (N := 11) hx hb hts (fun w9 h9 => List.mem_cons_of_mem _ (inP w9 h9)) hown hK hP 0 rfl rfl 10 (by decide) (hts _ (List.mem_cons_of_mem _ flP_29)) (fun _ h9 => h9) rfl dP_shift_52 ?_
  refine lv_iload_n hx hb dP_shift_55 rfl (lv_at hl 2 rfl) ?_
  refine xi_add (z := ry + dy) hx hb dP_shift_56 rfl ?_
  refine va_put (D := (dC, dI)) (ci := 0) (v := .int (iI (ry + dy))) (ty := .int) (C := RP) (T := TP) (N := 11) hx hb hts (fun w9 h9 => List.mem_cons_of_mem _ (inP w9 h9)) tyP tyP_ok nmP hown hK hP hD hS 0 rfl rfl 10 (by decide) (hts _ (List.mem_cons_of_mem _ flP_29)) (fun _ h9 => h9) rfl (by decide +kernel) rfl rfl (Nat.le_of_ble_eq_true rfl) dP_shift_57 (fun H locs hP hD hS => ?_)
  have hP : va_P (dC, dI) vwCl [(h0, .inr (0, [.int (iI (bz ln)), .int (iI sx), .int (iI ox), .int (iI sy), .int (iI oy), .int (iI (px + dx)), .int (iI (py + dy)), .int (iI (qx + dx)), .int (iI (qy + dy)), .int (iI (rx + dx)), .int (iI (ry + dy))]))] H := hP
  have hD : va_D A [(h0, .inr (0, [.int (iI (bz ln)), .int (iI sx), .int (iI ox), .int (iI sy), .int (iI oy), .int (iI (px + dx)), .int (iI (py + dy)), .int (iI (qx + dx)), .int (iI (qy + dy)), .int (iI (rx + dx)), .int (iI (ry + dy))]))] := hD
  subst hQ
  exact W.vret hx hb hr (fun t9 ht9 hW9 => ⟨⟨(), rfl, (trivial), by rw [ht9]; exact hP, va_K.moved hW9.alike hK, hD⟩, hS.F ht9⟩) hS.2.2 dP_shift_60
set_option maxHeartbeats 4000000 in
set_option maxRecDepth 100000 in
/-- bound -/
theorem p_bound (l : Launch) (dC : Nat → ClassId) (dI : Nat → Nat → Nat) (h0 : Nat) (ln : Bool) (sx ox sy oy px py qx qy rx ry : Int) (z : Int) (hz : 0 ≤ z ∧ z ≤ 3) (h1 : -8192 ≤ px ∧ px ≤ 8192) (h2 : -8192 ≤ py ∧ py ≤ 8192) (h3 : -8192 ≤ qx ∧ qx ≤ 8192) (h4 : -8192 ≤ qy ∧ qy ≤ 8192) (h5 : -8192 ≤ rx ∧ rx ≤ 8192) (h6 : -8192 ≤ ry ∧ ry ≤ 8192) : Met l yP_bound wP_bound ({ frames := 2, cells := 0, slots := 0, locals := 53 }) (va_Pc [.ref h0, .int (iI z)] (fun U => va_P (dC, dI) vwCl [(h0, .inr (0, [.int (iI (bz ln)), .int (iI sx), .int (iI ox), .int (iI sy), .int (iI oy), .int (iI px), .int (iI py), .int (iI qx), .int (iI qy), .int (iI rx), .int (iI ry)]))] U.heap ∧ va_K (dC, dI) vwCl [] U)) (vp_Si (fun r => r = iI (pbd px py qx qy rx ry z))) 0 0 (fun _ => False) := by
  refine Met.ofW (cc := cP_bound) (maxL := 2) (ret := (some .int)) (by decide) rfl ?_
  intro p e s m args below meth c s₁ B hml hv
  obtain ⟨hargs, hP, hK⟩ := hv
  have hx := B.exec
  have hb := B.bytes
  have hr := B.returns
  have hts := atoms_spec (ws := wP_bound) B.pre
  have hown : s.vm.findClass RP = some m.cls := findClass_of_methodNamed B.named
  have hlocks := B.notSynchronized
  refine x_name (fun R Q H locs hR hQ hH hlo => ?_)
  rw [← hH] at hP
  refine x_entry hargs (Nat.le_of_ble_eq_true rfl) (fun ls hl => ?_)
  have hl : lv_has ls 2 [(0, .ref h0), (1, .int (iI z))] := hl
  have hP : va_P (dC, dI) vwCl [(h0, .inr (0, [.int (iI (bz ln)), .int (iI sx), .int (iI ox), .int (iI sy), .int (iI oy), .int (iI px), .int (iI py), .int (iI qx), .int (iI qy), .int (iI rx), .int (iI ry)]))] H := hP
  refine lv_iload_n hx hb dP_bound_0 rfl (lv_at hl 1 rfl) ?_
  rcases (show z = 0 ∨ z = 1 ∨ z = 2 ∨ (z < 0 ∨ 2 < z) by omega) with hz_0 | hz_1 | hz_2 | hz_d
  · refine lv_tableIn (tgt := 28) hx hb dP_bound_1 (by rw [iI_toInt (by omega)]; omega) (by rw [iI_toInt (by omega)]; omega) (by rw [iI_toInt (by omega), hz_0]; rfl) (by decide) ?_
    refine lv_aload_n hx hb dP_bound_28 rfl (lv_at hl 0 rfl) ?_
    refine va_get (D := (dC, dI)) (ci := 0) (v := .int (iI px)) (C := RP) (T := TP) (N := 11) hx hb hts (fun w9 h9 => List.mem_cons_of_mem _ (inP w9 h9)) hown hK hP 0 rfl rfl 5 (by decide) (hts _ (List.mem_cons_of_mem _ flP_13)) (fun _ h9 => h9) rfl dP_bound_29 ?_
    refine lv_aload_n hx hb dP_bound_32 rfl (lv_at hl 0 rfl) ?_
    refine va_get (D := (dC, dI)) (ci := 0) (v := .int (iI qx)) (C := RP) (T := TP) (N := 11) hx hb hts (fun w9 h9 => List.mem_cons_of_mem _ (inP w9 h9)) hown hK hP 0 rfl rfl 7 (by decide) (hts _ (List.mem_cons_of_mem _ flP_20)) (fun _ h9 => h9) rfl dP_bound_33 ?_
    refine lv_aload_n hx hb dP_bound_36 rfl (lv_at hl 0 rfl) ?_
    refine va_get (D := (dC, dI)) (ci := 0) (v := .int (iI rx)) (C := RP) (T := TP) (N := 11) hx hb hts (fun w9 h9 => List.mem_cons_of_mem _ (inP w9 h9)) hown hK hP 0 rfl rfl 9 (by decide) (hts _ (List.mem_cons_of_mem _ flP_26)) (fun _ h9 => h9) rfl dP_bound_37 ?_
    refine vp_callSi (W.runS (As := [.int (iI px), .int (iI qx), .int (iI rx)]) (rest := []) ⟨hx, hb, hml, hown, hts⟩ (p_floorOfLeast l dC dI px qx rx (by omega) (by omega) (by omega)) (va_cwS 3 hts (tb_S mlP_50 smP_floorOfLeast iniP coP_floorOfLeast) rfl rfl rfl (by decide +kernel) (by subst hR; exact ⟨Nat.le_of_ble_eq_true rfl, Nat.le_of_ble_eq_true rfl⟩)) ⟨fun a9 U9 g9 mk9 q9 => q9, fun U hU hW => ⟨rfl, trivial⟩⟩ rfl rfl hl.1 rfl (lv_room (Nat.le_of_ble_eq_true rfl)) dP_bound_40 ⟨by subst hR; exact Nat.zero_le _, by subst hR; exact Nat.zero_le _⟩) (fun r_40 hw_40 => ?_)
    subst hw_40
    subst hQ
    exact W.iret (v := (iI (fol px qx rx))) hx hb hr (fun t9 ht9 hW9 => ⟨_, rfl, (by unfold pbd; rw [if_pos hz_0]), ht9.trans hH⟩) (by rw [hlo]; intro q9 h9; cases h9) dP_bound_43
  · refine lv_tableIn (tgt := 44) hx hb dP_bound_1 (by rw [iI_toInt (by omega)]; omega) (by rw [iI_toInt (by omega)]; omega) (by rw [iI_toInt (by omega), hz_1]; rfl) (by decide) ?_
    refine lv_aload_n hx hb dP_bound_44 rfl (lv_at hl 0 rfl) ?_
    refine va_get (D := (dC, dI)) (ci := 0) (v := .int (iI py)) (C := RP) (T := TP) (N := 11) hx hb hts (fun w9 h9 => List.mem_cons_of_mem _ (inP w9 h9)) hown hK hP 0 rfl rfl 6 (by decide) (hts _ (List.mem_cons_of_mem _ flP_17)) (fun _ h9 => h9) rfl dP_bound_45 ?_
    refine lv_aload_n hx hb dP_bound_48 rfl (lv_at hl 0 rfl) ?_
    refine va_get (D := (dC, dI)) (ci := 0) (v := .int (iI qy)) (C := RP) (T := TP) (N := 11) hx hb hts (fun w9 h9 => List.mem_cons_of_mem _ (inP w9 h9)) hown hK hP 0 rfl rfl 8 (by decide) (hts _ (List.mem_cons_of_mem _ flP_23)) (fun _ h9 => h9) rfl dP_bound_49 ?_
    refine lv_aload_n hx hb dP_bound_52 rfl (lv_at hl 0 rfl) ?_
    refine va_get (D := (dC, dI)) (ci := 0) (v := .int (iI ry)) (C := RP) (T := TP) (N := 11) hx hb hts (fun w9 h9 => List.mem_cons_of_mem _ (inP w9 h9)) hown hK hP 0 rfl rfl 10 (by decide) (hts _ (List.mem_cons_of_mem _ flP_29)) (fun _ h9 => h9) rfl dP_bound_53 ?_
    refine vp_callSi (W.runS (As := [.int (iI py), .int (iI qy), .int (iI ry)]) (rest := []) ⟨hx, hb, hml, hown, hts⟩ (p_floorOfLeast l dC dI py qy ry (by omega) (by omega) (by omega)) (va_cwS 3 hts (tb_S mlP_50 smP_floorOfLeast iniP coP_floorOfLeast) rfl rfl rfl (by decide +kernel) (by subst hR; exact ⟨Nat.le_of_ble_eq_true rfl, Nat.le_of_ble_eq_true rfl⟩)) ⟨fun a9 U9 g9 mk9 q9 => q9, fun U hU hW => ⟨rfl, trivial⟩⟩ rfl rfl hl.1 rfl (lv_room (Nat.le_of_ble_eq_true rfl)) dP_bound_56 ⟨by subst hR; exact Nat.zero_le _, by subst hR; exact Nat.zero_le _⟩) (fun r_56 hw_56 => ?_)
    subst hw_56
    subst hQ
    exact W.iret (v := (iI (fol py qy ry))) hx hb hr (fun t9 ht9 hW9 => ⟨_, rfl, (by unfold pbd; rw [if_neg (by omega), if_pos hz_1]), ht9.trans hH⟩) (by rw [hlo]; intro q9 h9; cases h9) dP_bound_59
  · refine lv_tableIn (tgt := 60) hx hb dP_bound_1 (by rw [iI_toInt (by omega)]; omega) (by rw [iI_toInt (by omega)]; omega) (by rw [iI_toInt (by omega), hz_2]; rfl) (by decide) ?_
    refine lv_aload_n hx hb dP_bound_60 rfl (lv_at hl 0 rfl) ?_
    refine va_get (D := (dC, dI)) (ci := 0) (v := .int (iI px)) (C := RP) (T := TP) (N := 11) hx hb hts (fun w9 h9 => List.mem_cons_of_mem _ (inP w9 h9)) hown hK hP 0 rfl rfl 5 (by decide) (hts _ (List.mem_cons_of_mem _ flP_13)) (fun _ h9 => h9) rfl dP_bound_61 ?_
    refine xi_neg (z := -px) hx hb dP_bound_64 rfl ?_
    refine lv_aload_n hx hb dP_bound_65 rfl (lv_at hl 0 rfl) ?_
    refine va_get (D := (dC, dI)) (ci := 0) (v := .int (iI qx)) (C := RP) (T := TP) (N := 11) hx hb hts (fun w9 h9 => List.mem_cons_of_mem _ (inP w9 h9)) hown hK hP 0 rfl rfl 7 (by decide) (hts _ (List.mem_cons_of_mem _ flP_20)) (fun _ h9 => h9) rfl dP_bound_66 ?_
    refine xi_neg (z := -qx) hx hb dP_bound_69 rfl ?_
    refine lv_aload_n hx hb dP_bound_70 rfl (lv_at hl 0 rfl) ?_
    refine va_get (D := (dC, dI)) (ci := 0) (v := .int (iI rx)) (C := RP) (T := TP) (N := 11) hx hb hts (fun w9 h9 => List.mem_cons_of_mem _ (inP w9 h9)) hown hK hP 0 rfl rfl 9 (by decide) (hts _ (List.mem_cons_of_mem _ flP_26)) (fun _ h9 => h9) rfl dP_bound_71 ?_
    refine xi_neg (z := -rx) hx hb dP_bound_74 rfl ?_
    refine vp_callSi (W.runS (As := [.int (iI (-px)), .int (iI (-qx)), .int (iI (-rx))]) (rest := []) ⟨hx, hb, hml, hown, hts⟩ (p_floorOfLeast l dC dI (-px) (-qx) (-rx) (by omega) (by omega) (by omega)) (va_cwS 3 hts (tb_S mlP_50 smP_floorOfLeast iniP coP_floorOfLeast) rfl rfl rfl (by decide +kernel) (by subst hR; exact ⟨Nat.le_of_ble_eq_true rfl, Nat.le_of_ble_eq_true rfl⟩)) ⟨fun a9 U9 g9 mk9 q9 => q9, fun U hU hW => ⟨rfl, trivial⟩⟩ rfl rfl hl.1 rfl (lv_room (Nat.le_of_ble_eq_true rfl)) dP_bound_75 ⟨by subst hR; exact Nat.zero_le _, by subst hR; exact Nat.zero_le _⟩) (fun r_75 hw_75 => ?_)
    subst hw_75
    refine xi_neg (z := -(fol (-px) (-qx) (-rx))) hx hb dP_bound_78 rfl ?_
    subst hQ
    exact W.iret (v := (iI (-(fol (-px) (-qx) (-rx))))) hx hb hr (fun t9 ht9 hW9 => ⟨_, rfl, (by unfold pbd; rw [if_neg (by omega), if_neg (by omega), if_pos hz_2]), ht9.trans hH⟩) (by rw [hlo]; intro q9 h9; cases h9) dP_bound_79
  · refine lv_tableOut (tgt := 80) hx hb dP_bound_1 (by rw [iI_toInt (by omega)]; omega) (by decide) ?_
    refine lv_aload_n hx hb dP_bound_80 rfl (lv_at hl 0 rfl) ?_
    refine va_get (D := (dC, dI)) (ci := 0) (v := .int (iI py)) (C := RP) (T := TP) (N := 11) hx hb hts (fun w9 h9 => List.mem_cons_of_mem _ (inP w9 h9)) hown hK hP 0 rfl rfl 6 (by decide) (hts _ (List.mem_cons_of_mem _ flP_17)) (fun _ h9 => h9) rfl dP_bound_81 ?_
    refine xi_neg (z := -py) hx hb dP_bound_84 rfl ?_
    refine lv_aload_n hx hb dP_bound_85 rfl (lv_at hl 0 rfl) ?_
    refine va_get (D := (dC, dI)) (ci := 0) (v := .int (iI qy)) (C := RP) (T := TP) (N := 11) hx hb hts (fun w9 h9 => List.mem_cons_of_mem _ (inP w9 h9)) hown hK hP 0 rfl rfl 8 (by decide) (hts _ (List.mem_cons_of_mem _ flP_23)) (fun _ h9 => h9) rfl dP_bound_86 ?_
    refine xi_neg (z := -qy) hx hb dP_bound_89 rfl ?_
    refine lv_aload_n hx hb dP_bound_90 rfl (lv_at hl 0 rfl) ?_
    refine va_get (D := (dC, dI)) (ci := 0) (v := .int (iI ry)) (C := RP) (T := TP) (N := 11) hx hb hts (fun w9 h9 => List.mem_cons_of_mem _ (inP w9 h9)) hown hK hP 0 rfl rfl 10 (by decide) (hts _ (List.mem_cons_of_mem _ flP_29)) (fun _ h9 => h9) rfl dP_bound_91 ?_
    refine xi_neg (z := -ry) hx hb dP_bound_94 rfl ?_
    refine vp_callSi (W.runS (As := [.int (iI (-py)), .int (iI (-qy)), .int (iI (-ry))]) (rest := []) ⟨hx, hb, hml, hown, hts⟩ (p_floorOfLeast l dC dI (-py) (-qy) (-ry) (by omega) (by omega) (by omega)) (va_cwS 3 hts (tb_S mlP_50 smP_floorOfLeast iniP coP_floorOfLeast) rfl rfl rfl (by decide +kernel) (by subst hR; exact ⟨Nat.le_of_ble_eq_true rfl, Nat.le_of_ble_eq_true rfl⟩)) ⟨fun a9 U9 g9 mk9 q9 => q9, fun U hU hW => ⟨rfl, trivial⟩⟩ rfl rfl hl.1 rfl (lv_room (Nat.le_of_ble_eq_true rfl)) dP_bound_95 ⟨by subst hR; exact Nat.zero_le _, by subst hR; exact Nat.zero_le _⟩) (fun r_95 hw_95 => ?_)
    subst hw_95
    refine xi_neg (z := -(fol (-py) (-qy) (-ry))) hx hb dP_bound_98 rfl ?_
    subst hQ
    exact W.iret (v := (iI (-(fol (-py) (-qy) (-ry))))) hx hb hr (fun t9 ht9 hW9 => ⟨_, rfl, (by unfold pbd; rw [if_neg (by omega), if_neg (by omega), if_neg (by omega)]), ht9.trans hH⟩) (by rw [hlo]; intro q9 h9; cases h9) dP_bound_99
set_option maxHeartbeats 4000000 in
set_option maxRecDepth 100000 in
/-- curveEnd -/
theorem k_curveEnd (l : Launch) (dC : Nat → ClassId) (dI : Nat → Nat → Nat) (h0 a1 a2 a3 a4 a5 a6 : Nat) (nc np op : Int) (par : Bool) (aF : Nat) (cO cF : ClassId) (O : Int → Bool) (F : Int → Int) (i nb : Int) (hi : 0 ≤ i ∧ i < 512) (hnb : 0 ≤ nb ∧ nb < 512) (h1 : -8192 ≤ F i ∧ F i ≤ 8191) (h2 : -8192 ≤ F nb ∧ F nb ≤ 8191) : Met l yC_curveEnd wC_curveEnd ({ frames := 1, cells := 0, slots := 0, locals := 22 }) (va_Pc [.ref h0, .ref aF, .int (iI i), .int (iI nb)] (fun U => va_P (dC, dI) vwCl [(h0, .inr (2, [.ref a1, .ref a2, .ref a3, .ref a4, .ref a5, .ref a6, .int (iI nc), .int (iI np), .int (iI op), .int (iI (bz par))])), (a3, .inl (cO, 512, .inl (aB O))), (aF, .inl (cF, 512, .inl (aI F)))] U.heap ∧ va_K (dC, dI) vwCl [(cO, .boolean), (cF, .int)] U)) (vp_Si (fun r => r = iI (cen F O i nb))) 0 0 (fun _ => False) := by
  refine Met.ofW (cc := cC_curveEnd) (maxL := 4) (ret := (some .int)) (by decide) rfl ?_
  intro p e s m args below meth c s₁ B hml hv
  obtain ⟨hargs, hP, hK⟩ := hv
  have hx := B.exec
  have hb := B.bytes
  have hr := B.returns
  have hts := atoms_spec (ws := wC_curveEnd) B.pre
  have hown : s.vm.findClass RC = some m.cls := findClass_of_methodNamed B.named
  have hlocks := B.notSynchronized
  refine x_name (fun R Q H locs hR hQ hH hlo => ?_)
  rw [← hH] at hP
  refine x_entry hargs (Nat.le_of_ble_eq_true rfl) (fun ls hl => ?_)
  have hl : lv_has ls 4 [(0, .ref h0), (1, .ref aF), (2, .int (iI i)), (3, .int (iI nb))] := hl
  have hP : va_P (dC, dI) vwCl [(h0, .inr (2, [.ref a1, .ref a2, .ref a3, .ref a4, .ref a5, .ref a6, .int (iI nc), .int (iI np), .int (iI op), .int (iI (bz par))])), (a3, .inl (cO, 512, .inl (aB O))), (aF, .inl (cF, 512, .inl (aI F)))] H := hP
  refine lv_aload_n hx hb dC_curveEnd_0 rfl (lv_at hl 0 rfl) ?_
  refine va_get (D := (dC, dI)) (ci := 2) (v := .ref a3) (C := RC) (T := TC) (N := 10) hx hb hts (fun w9 h9 => List.mem_cons_of_mem _ (inC w9 h9)) hown hK hP 0 rfl rfl 2 (by decide) (hts _ (List.mem_cons_of_mem _ flC_16)) (fun _ h9 => h9) rfl dC_curveEnd_1 ?_
  refine lv_iload_n hx hb dC_curveEnd_4 rfl (lv_at hl 3 rfl) ?_
  refine xa_zald hx hb hK hP 1 0 rfl rfl (by decide) (by omega) dC_curveEnd_5 ?_
  refine xb_if_eq (tgt := 13) hx hb dC_curveEnd_6 (by decide) (fun c_6 => ?_) (fun c_6 => ?_)
  · skip
    refine lv_aload_n hx hb dC_curveEnd_13 rfl (lv_at hl 1 rfl) ?_
    refine lv_iload_n hx hb dC_curveEnd_14 rfl (lv_at hl 2 rfl) ?_
    refine xa_iald hx hb hK hP 2 1 rfl rfl (by decide) (by omega) dC_curveEnd_15 ?_
    refine lv_aload_n hx hb dC_curveEnd_16 rfl (lv_at hl 1 rfl) ?_
    refine lv_iload_n hx hb dC_curveEnd_17 rfl (lv_at hl 3 rfl) ?_
    refine xa_iald hx hb hK hP 2 1 rfl rfl (by decide) (by omega) dC_curveEnd_18 ?_
    refine xi_add (z := (F i) + (F nb)) hx hb dC_curveEnd_19 rfl ?_
    refine xi_iconst hx hb dC_curveEnd_20 ?_
    refine vp_callSi (W.runS (As := [.int (iI ((F i) + (F nb))), .int (iI 2)]) (rest := []) ⟨hx, hb, hml, hown, hts⟩ (j_floorDiv l dC dI (F i + F nb) 2 (by omega) (by omega)) (va_cwS 2 hts (tb_S mlC_163 smJM_floorDiv iniJM coJM_floorDiv) rfl rfl rfl (by decide +kernel) (by subst hR; exact ⟨Nat.le_of_ble_eq_true rfl, Nat.le_of_ble_eq_true rfl⟩)) ⟨fun a9 U9 g9 mk9 q9 => q9, fun U hU hW => ⟨rfl, trivial⟩⟩ rfl rfl hl.1 rfl (lv_room (Nat.le_of_ble_eq_true rfl)) dC_curveEnd_21 ⟨by subst hR; exact Nat.zero_le _, by subst hR; exact Nat.zero_le _⟩) (fun r_21 hw_21 => ?_)
    subst hw_21
    subst hQ
    exact W.iret (v := (iI ((F i + F nb) / 2))) hx hb hr (fun t9 ht9 hW9 => ⟨_, rfl, (by unfold cen; rw [if_neg (by rw [c_6]; decide)]), ht9.trans hH⟩) (by rw [hlo]; intro q9 h9; cases h9) dC_curveEnd_24
  · skip
    refine lv_aload_n hx hb dC_curveEnd_9 rfl (lv_at hl 1 rfl) ?_
    refine lv_iload_n hx hb dC_curveEnd_10 rfl (lv_at hl 3 rfl) ?_
    refine xa_iald hx hb hK hP 2 1 rfl rfl (by decide) (by omega) dC_curveEnd_11 ?_
    subst hQ
    exact W.iret (v := (iI (F nb))) hx hb hr (fun t9 ht9 hW9 => ⟨_, rfl, (by unfold cen; rw [if_pos c_6]), ht9.trans hH⟩) (by rw [hlo]; intro q9 h9; cases h9) dC_curveEnd_12
set_option maxHeartbeats 4000000 in
set_option maxRecDepth 100000 in
/-- isIn -/
theorem k_isIn (l : Launch) (dC : Nat → ClassId) (dI : Nat → Nat → Nat) (h0 a1 a2 a3 a4 a5 a6 : Nat) (nc np op : Int) (par : Bool) (w : Int) (hw : -2147483648 ≤ w ∧ w ≤ 2147483647) : Met l yC_isIn wC_isIn ({ frames := 0, cells := 0, slots := 0, locals := 0 }) (va_Pc [.ref h0, .int (iI w)] (fun U => va_P (dC, dI) vwCl [(h0, .inr (2, [.ref a1, .ref a2, .ref a3, .ref a4, .ref a5, .ref a6, .int (iI nc), .int (iI np), .int (iI op), .int (iI (bz par))]))] U.heap ∧ va_K (dC, dI) vwCl [] U)) (vp_Si (fun r => r = iI (bz (isin par w)))) 0 0 (fun _ => False) := by
  refine Met.ofW (cc := cC_isIn) (maxL := 2) (ret := (some .boolean)) (by decide) rfl ?_
  intro p e s m args below meth c s₁ B hml hv
  obtain ⟨hargs, hP, hK⟩ := hv
  have hx := B.exec
  have hb := B.bytes
  have hr := B.returns
  have hts := atoms_spec (ws := wC_isIn) B.pre
  have hown : s.vm.findClass RC = some m.cls := findClass_of_methodNamed B.named
  have hlocks := B.notSynchronized
  refine x_name (fun R Q H locs hR hQ hH hlo => ?_)
  rw [← hH] at hP
  refine x_entry hargs (Nat.le_of_ble_eq_true rfl) (fun ls hl => ?_)
  have hl : lv_has ls 2 [(0, .ref h0), (1, .int (iI w))] := hl
  have hP : va_P (dC, dI) vwCl [(h0, .inr (2, [.ref a1, .ref a2, .ref a3, .ref a4, .ref a5, .ref a6, .int (iI nc), .int (iI np), .int (iI op), .int (iI (bz par))]))] H := hP
  have cut_30_1 : ∀ (v : Bool) (ls : Array Slot), (v = isin par w) → lv_has ls 2 [(0, .ref h0), (1, .int (iI w))] → W p l e R s m args below meth c H locs 0 0 Q (F0 m 30 ls [.int (iI (bz v))]) := by
    intro v ls hv hl
    subst hQ
    exact W.zret (v := (iI (bz v))) hx hb hr (xi_narZ2 _) (fun t9 ht9 hW9 => ⟨_, rfl, (by rw [hv]), ht9.trans hH⟩) (by rw [hlo]; intro q9 h9; cases h9) dC_isIn_30
  refine lv_aload_n hx hb dC_isIn_0 rfl (lv_at hl 0 rfl) ?_
  refine va_get (D := (dC, dI)) (ci := 2) (v := .int (iI (bz par))) (C := RC) (T := TC) (N := 10) hx hb hts (fun w9 h9 => List.mem_cons_of_mem _ (inC w9 h9)) hown hK hP 0 rfl rfl 9 (by decide) (hts _ (List.mem_cons_of_mem _ flC_46)) (fun _ h9 => h9) rfl dC_isIn_1 ?_
  refine xb_if_eq (tgt := 21) hx hb dC_isIn_4 (by decide) (fun c_4 => ?_) (fun c_4 => ?_)
  · skip
    refine lv_iload_n hx hb dC_isIn_21 rfl (lv_at hl 1 rfl) ?_
    refine xi_if_eq (tgt := 29) hx hb dC_isIn_22 (by decide) (by omega) (fun c_22 => ?_) (fun c_22 => ?_)
    · skip
      refine xi_iconst hx hb dC_isIn_29 ?_
      exact cut_30_1 false _ (by unfold isin; rw [if_neg (by rw [c_4]; decide), decide_eq_false (by omega)]) (lv_sub hl [0, 1] rfl)
    · skip
      refine xi_iconst hx hb dC_isIn_25 ?_
      refine lv_goto (tgt := 30) hx hb dC_isIn_26 (by decide) ?_
      exact cut_30_1 true _ (by unfold isin; rw [if_neg (by rw [c_4]; decide), decide_eq_true (by omega)]) (lv_sub hl [0, 1] rfl)
  · skip
    refine lv_iload_n hx hb dC_isIn_7 rfl (lv_at hl 1 rfl) ?_
    refine xi_iconst hx hb dC_isIn_8 ?_
    refine lv_iand hx hb dC_isIn_9 ?_
    refine xi_top (y := .int (iI (w % 2))) (by rw [iI_and1]) ?_
    refine xi_if_eq (tgt := 17) hx hb dC_isIn_10 (by decide) (by omega) (fun c_10 => ?_) (fun c_10 => ?_)
    · skip
      refine xi_iconst hx hb dC_isIn_17 ?_
      refine lv_goto (tgt := 30) hx hb dC_isIn_18 (by decide) ?_
      exact cut_30_1 false _ (by unfold isin; rw [if_pos c_4, decide_eq_false (by omega)]) (lv_sub hl [0, 1] rfl)
    · skip
      refine xi_iconst hx hb dC_isIn_13 ?_
      refine lv_goto (tgt := 30) hx hb dC_isIn_14 (by decide) ?_
      exact cut_30_1 true _ (by unfold isin; rw [if_pos c_4, decide_eq_true (by omega)]) (lv_sub hl [0, 1] rfl)
set_option maxHeartbeats 4000000 in
set_option maxRecDepth 100000 in
/-- Arrays.fill of the windings -/
theorem j_fill (l : Launch) (dC : Nat → ClassId) (dI : Nat → Nat → Nat) (sz : Nat) (h0 : Nat) (cF : ClassId) (F : Int → Int) (v : Int) : Met l yJA_fill wJA_fill ({ frames := 0, cells := 0, slots := 0, locals := 0 }) (va_Pc [.ref h0, .int (iI v)] (fun U => U.heap.size = sz ∧ va_P (dC, dI) vwCl [(h0, .inl (cF, 65, .inl (aI F)))] U.heap ∧ va_K (dC, dI) vwCl [(cF, .int)] U ∧ va_D (fun _ => True) [(h0, .inl (cF, 65, .inl (aI F)))])) (va_Qv (fun (u : Int → Int) => ∀ k : Int, 0 ≤ k → k < 65 → u k = v) (fun (u : Int → Int) t9 => va_P (dC, dI) vwCl [(h0, .inl (cF, 65, .inl (aI u)))] t9.heap ∧ va_K (dC, dI) vwCl [(cF, .int)] t9 ∧ va_D (va_A [(h0, .inl (cF, 65, .inl (aI F)))] sz) [(h0, .inl (cF, 65, .inl (aI u)))]) (va_A [(h0, .inl (cF, 65, .inl (aI F)))] sz)) 0 0 (va_A [(h0, .inl (cF, 65, .inl (aI F)))] sz) := by
  refine va_MetF (cc := cJA_fill) (maxL := 4) (ret := none) (by decide +kernel) rfl ?_
  intro p e s m args below meth c s₁ B hml hv
  obtain ⟨hargs, hsz, hP, hK, hD0⟩ := hv
  have hx := B.exec
  have hb := B.bytes
  have hr := B.returns
  have hts := atoms_spec (ws := wJA_fill) B.pre
  have hown : s.vm.findClass RJA = some m.cls := findClass_of_methodNamed B.named
  have hlocks := B.notSynchronized
  subst hsz
  have hD := hD0.self (sz := s.heap.size)
  generalize hAe : va_A [(h0, .inl (cF, 65, .inl (aI F)))] s.heap.size = A at hD ⊢
  have hA : ∀ q : Nat, s.heap.size ≤ q → A q := fun q h => by rw [← hAe]; exact Or.inr h
  have hS0 : va_S A s.heap s.heap [] := va_S.rf
  refine x_name (fun R Q H locs hR hQ hH hlo => ?_)
  rw [← hH] at hP
  have hS : va_S A s.heap H locs := by rw [hH, hlo]; exact hS0
  refine x_entry hargs (Nat.le_of_ble_eq_true rfl) (fun ls hl => ?_)
  have hl : lv_has ls 4 [(0, .ref h0), (1, .int (iI v))] := hl
  have hP : va_P (dC, dI) vwCl [(h0, .inl (cF, 65, .inl (aI F)))] H := hP
  refine xi_iconst hx hb dJA_fill_0 ?_
  refine lv_istore_n (lv' := [(2, .int (iI 0)), (0, .ref h0), (1, .int (iI v))]) hx hb dJA_fill_1 rfl hl (by decide) rfl (fun ls hl => ?_)
  refine lv_aload_n hx hb dJA_fill_2 rfl (lv_at hl 1 rfl) ?_
  refine va_alen (v := iI 65) hx hb hK hP 0 0 rfl rfl (show Int32.ofNat 65 = iI 65 by decide +kernel) dJA_fill_3 ?_
  refine lv_istore_n (lv' := [(3, .int (iI 65)), (2, .int (iI 0)), (0, .ref h0), (1, .int (iI v))]) hx hb dJA_fill_4 rfl hl (by decide) rfl (fun ls hl => ?_)
  have cut_5_1 : ∀ (n : Nat) (z : Int) (G : Int → Int) (H : Heap) (locs : List Loc) (ls : Array Slot), ((65 - z).toNat) < n → (0 ≤ z ∧ z ≤ 65) → (∀ k : Int, 0 ≤ k → k < z → G k = v) → va_P (dC, dI) vwCl [(h0, .inl (cF, 65, .inl (aI G)))] H → va_D A [(h0, .inl (cF, 65, .inl (aI G)))] → va_S A s.heap H locs → lv_has ls 4 [(0, .ref h0), (1, .int (iI v)), (2, .int (iI z)), (3, .int (iI 65))] → W p l e R s m args below meth c H locs 0 0 Q (F0 m 5 ls []) := by
    intro n
    induction n with
    | zero => intro _ _ _ _ _ hm; exact absurd hm (Nat.not_lt_zero _)
    | succ n ih =>
      intro z G H locs ls hm i1 i2 hP hD hS hl
      refine lv_iload_n hx hb dJA_fill_5 rfl (lv_at hl 2 rfl) ?_
      refine lv_iload_n hx hb dJA_fill_6 rfl (lv_at hl 3 rfl) ?_
      refine xi_icmp_ge (tgt := 20) hx hb dJA_fill_7 (by decide) (by omega) (by omega) (fun c_7 => ?_) (fun c_7 => ?_)
      · skip
        subst hQ
        exact W.vret hx hb hr (fun t9 ht9 hW9 => ⟨⟨G, rfl, (fun k h1 h2 => i2 k h1 (by omega)), by rw [ht9]; exact hP, va_K.moved hW9.alike hK, hD⟩, hS.F ht9⟩) hS.2.2 dJA_fill_20
      · skip
        refine lv_aload_n hx hb dJA_fill_10 rfl (lv_at hl 0 rfl) ?_
        refine lv_iload_n hx hb dJA_fill_11 rfl (lv_at hl 2 rfl) ?_
        refine lv_iload_n hx hb dJA_fill_12 rfl (lv_at hl 1 rfl) ?_
        refine xa_iast (z := z) (v := v) hx hb hK hP hD hS 0 0 rfl rfl (by decide) (by omega) dJA_fill_13 (fun H locs hP hD hS => ?_)
        have hP : va_P (dC, dI) vwCl [(h0, .inl (cF, 65, .inl (aI (up G z v))))] H := hP
        have hD : va_D A [(h0, .inl (cF, 65, .inl (aI (up G z v))))] := hD
        refine xi_iinc (z := z + 1) (lv' := [(2, .int (iI (z + 1))), (0, .ref h0), (1, .int (iI v)), (3, .int (iI 65))]) hx hb dJA_fill_14 hl (k := 2) rfl rfl (by decide) rfl (fun ls hl => ?_)
        refine lv_goto (tgt := 5) hx hb dJA_fill_17 (by decide) ?_
        exact ih (z + 1) (up G z v) _ _ _ (by omega) (by omega) (fun k h1 h2 => by (by_cases h : k = z; (rw [h, up_s]); (rw [up_n _ _ h]; exact i2 k h1 (by omega)))) hP hD hS (lv_sub hl [1, 2, 0, 3] rfl)
  exact cut_5_1 (((65 - (0 : Int)).toNat) + 1) 0 F _ _ _ (Nat.lt_succ_self _) (by omega) (fun k h1 h2 => by omega) hP hD hS (lv_sub hl [2, 3, 1, 0] rfl)
end
section
/-! the reference: its world -/
abbrev mW (ad : Nat → Nat) (cs : Nat → ClassId) (ft : Int) (par : Bool) (np : Int) (nc : Int) (rs : Int) (npc : Int) (hi : Int) (lo : Int) (X : Int → Int) (Y : Int → Int) (O : Int → Bool) (E : Int → Int) (RX : Int → Int) (RY : Int → Int) (RO : Int → Bool) (PC : Int → Int) (CV : Int → Bool) : va_W := [((ad 0), .inr (3, [.int (iI ft), .int (iI (bz par)), .int (iI np), .ref (ad 1), .ref (ad 2), .ref (ad 3), .int (iI nc), .ref (ad 4), .int (iI rs), .ref (ad 5), .ref (ad 6), .ref (ad 7), .int (iI npc), .ref (ad 8), .ref (ad 9), .long (lI hi), .long (lI lo)])), ((ad 1), .inl (cs 0, 512, .inl (aI X))), ((ad 2), .inl (cs 1, 512, .inl (aI Y))), ((ad 3), .inl (cs 2, 512, .inl (aB O))), ((ad 4), .inl (cs 3, 64, .inl (aI E))), ((ad 5), .inl (cs 4, 1024, .inl (aI RX))), ((ad 6), .inl (cs 5, 1024, .inl (aI RY))), ((ad 7), .inl (cs 6, 1024, .inl (aB RO))), ((ad 8), .inl (cs 7, 3072, .inl (aI PC))), ((ad 9), .inl (cs 8, 512, .inl (aB CV)))]
abbrev mT (cs : Nat → ClassId) : List (ClassId × FieldType) := [(cs 0, .int), (cs 1, .int), (cs 2, .boolean), (cs 3, .int), (cs 4, .int), (cs 5, .int), (cs 6, .boolean), (cs 7, .int), (cs 8, .boolean)]
theorem lI_shr {a : Int} (ha : -9223372036854775808 ≤ a ∧ a ≤ 9223372036854775807) : lI a >>> ((iI 24).toInt64 &&& 63) = lI (a / 16777216) := by
  apply Int64.toInt_inj.mp
  have h1 : (lI a >>> ((iI 24).toInt64 &&& 63)).toInt = (lI a).toInt >>> (24 : Nat) := by
    show ((lI a).toBitVec.sshiftRight ((((iI 24).toInt64 &&& 63).toBitVec).smod 64).toNat).toInt = _
    rw [show ((((iI 24).toInt64 &&& 63).toBitVec).smod 64).toNat = 24 by decide +kernel, BitVec.toInt_sshiftRight]
    rfl
  rw [h1, lI_toInt ha, Int.shiftRight_eq_div_pow, lI_toInt (by omega)]
  rfl
theorem lI_and (a : Int) : lI a &&& lI 16777215 = lI (a % 16777216) := by
  apply Int64.toBitVec_inj.mp
  have h1 : (lI a).toBitVec = BitVec.ofInt 64 a := by unfold lI; rw [Int64.toBitVec_ofInt]
  have h2 : (lI (a % 16777216)).toBitVec = BitVec.ofInt 64 (a % 16777216) := by unfold lI; rw [Int64.toBitVec_ofInt]
  have h3 : (lI 16777215).toBitVec = BitVec.ofNat 64 16777215 := by decide +kernel
  rw [Int64.toBitVec_and, h1, h2, h3]
  apply BitVec.eq_of_toNat_eq
  rw [BitVec.toNat_and, BitVec.toNat_ofInt, BitVec.toNat_ofInt, BitVec.toNat_ofNat]
  rw [show 16777215 % 2 ^ 64 = 2 ^ 24 - 1 from rfl, Nat.and_two_pow_sub_one_eq_mod]
  have h4 : 0 ≤ a % ((2 ^ 64 : Nat) : Int) := Int.emod_nonneg _ (by decide)
  have h5 : ((2 ^ 64 : Nat) : Int) = 18446744073709551616 := rfl
  rw [h5] at h4 ⊢
  omega
theorem ap_eq {hi lo u v hi2 lo2 : Int} (h1 : hi2 = hi + u / 16777216 * v + (lo + u % 16777216 * v) / 16777216) (h2 : lo2 = (lo + u % 16777216 * v) % 16777216) : hi2 * 16777216 + lo2 = hi * 16777216 + lo + u * v ∧ 0 ≤ lo2 ∧ lo2 < 16777216 := by
  have e1 : u * v = u / 16777216 * v * 16777216 + u % 16777216 * v := by
    have e2 : u = u / 16777216 * 16777216 + u % 16777216 := by omega
    generalize u / 16777216 = t at *
    generalize u % 16777216 = r at *
    subst e2
    grind
  generalize u / 16777216 * v = tv at *
  generalize u % 16777216 * v = rv at *
  omega
theorem sgn_hl {hi lo t : Int} (h : hi * 16777216 + lo = t) (h0 : 0 ≤ lo) (h1 : lo < 16777216) : (hi ≠ 0 → sgn t = sgn hi) ∧ (hi = 0 → sgn t = sgn lo) := by
  refine ⟨fun h2 => ?_, fun h2 => ?_⟩
  · rcases Int.lt_or_gt_of_ne h2 with h3 | h3
    · rw [sgn_n (by omega), sgn_n h3]
    · rw [sgn_p (by omega), sgn_p (by omega)]
  · rw [show t = lo by omega]
theorem sgn_bd (z : Int) : -1 ≤ sgn z ∧ sgn z ≤ 1 := by rcases sgn_in z with h | h | h <;> omega
theorem sgn_mul_bd (y z : Int) : -1 ≤ sgn y * sgn z ∧ sgn y * sgn z ≤ 1 := by
  rcases sgn_in y with ⟨-, h⟩ | ⟨-, h⟩ | ⟨-, h⟩ <;> rcases sgn_in z with ⟨-, h2⟩ | ⟨-, h2⟩ | ⟨-, h2⟩ <;> rw [h, h2] <;> decide
def cmr2 (side mid : Int) (g : Bool) : Int := if side < 0 then (if g = true then 1 else -1) else if 0 < side then (if mid < 0 then 1 else -1) else if g = true then (if mid < 0 then 1 else 0) else (if 0 < mid then -1 else 0)
def cmr (a b c : Int) (g : Bool) (n d : Int) : Int := cmr2 (sgn a * sgn ((a * n + b * d) * n + c * d * d)) (sgn a * sgn (2 * a * n + b * d)) g
theorem cmr_bd (a b c : Int) (g : Bool) (n d : Int) : -1 ≤ cmr a b c g n d ∧ cmr a b c g n d ≤ 1 := by
  unfold cmr cmr2
  repeat' split
  all_goals omega
def isg (a b c : Int) (g : Bool) (e f x : Int) : Int := if a * f - e * b = 0 then sgn (a * x - e * c) else sgn (a * f - e * b) * cmr a b c g (if 0 < a * f - e * b then -(a * x - e * c) else a * x - e * c) (if 0 < a * f - e * b then a * f - e * b else -(a * f - e * b))
def ilf (a b c : Int) (g : Bool) (e f x : Int) : Bool := if a = 0 then decide (sgn (e * c * c - f * c * b + x * b * b) ≤ 0) else decide (sgn a * isg a b c g e f x ≤ 0)
def lnc (px py rx ry x y : Int) : Int := if decide (y < py) = decide (y < ry) then 0 else if 0 < sgn ((rx - px) * (y - py) - (x - px) * (ry - py)) * sgn (ry - py) then 0 else if y < ry then 1 else -1

set_option maxHeartbeats 4000000 in
set_option maxRecDepth 100000 in
/-- addProduct -/
theorem m_addProduct (l : Launch) (dC : Nat → ClassId) (dI : Nat → Nat → Nat) (ad : Nat → Nat) (cs : Nat → ClassId) (sz : Nat) (ft : Int) (par : Bool) (np nc rs npc hi lo : Int) (X Y : Int → Int) (O : Int → Bool) (E RX RY : Int → Int) (RO : Int → Bool) (PC : Int → Int) (CV : Int → Bool) (a b : Int) (h1 : -1125899906842624 ≤ a ∧ a ≤ 1125899906842624) (h2 : -4294967296 ≤ b ∧ b ≤ 4294967296) (h3 : -33554432 ≤ lo ∧ lo ≤ 33554432) : Met l yM_addProduct wM_addProduct ({ frames := 0, cells := 0, slots := 0, locals := 0 }) (va_Pc [.ref (ad 0), .long (lI a), .long (lI b)] (fun U => U.heap.size = sz ∧ va_P (dC, dI) vwCl (mW ad cs ft par np nc rs npc hi lo X Y O E RX RY RO PC CV) U.heap ∧ va_K (dC, dI) vwCl (mT cs) U ∧ va_D (fun _ => True) (mW ad cs ft par np nc rs npc hi lo X Y O E RX RY RO PC CV))) (va_Qv (fun (u : Int × Int) => u.1 * 16777216 + u.2 = hi * 16777216 + lo + a * b ∧ 0 ≤ u.2 ∧ u.2 < 16777216) (fun (u : Int × Int) t9 => va_P (dC, dI) vwCl (mW ad cs ft par np nc rs npc u.1 u.2 X Y O E RX RY RO PC CV) t9.heap ∧ va_K (dC, dI) vwCl (mT cs) t9 ∧ va_D (va_A (mW ad cs ft par np nc rs npc hi lo X Y O E RX RY RO PC CV) sz) (mW ad cs ft par np nc rs npc u.1 u.2 X Y O E RX RY RO PC CV)) (va_A (mW ad cs ft par np nc rs npc hi lo X Y O E RX RY RO PC CV) sz)) 0 0 (va_A (mW ad cs ft par np nc rs npc hi lo X Y O E RX RY RO PC CV) sz) := by
  refine Met.ofW (cc := cM_addProduct) (maxL := 9) (ret := none) (by decide) rfl ?_
  intro p e s m args below meth c s₁ B hml hv
  obtain ⟨hargs, hsz, hP, hK, hD0⟩ := hv
  have hx := B.exec
  have hb := B.bytes
  have hr := B.returns
  have hts := atoms_spec (ws := wM_addProduct) B.pre
  have hown : s.vm.findClass RM = some m.cls := findClass_of_methodNamed B.named
  have hlocks := B.notSynchronized
  subst hsz
  have hD := hD0.self (sz := s.heap.size)
  generalize hAe : va_A (mW ad cs ft par np nc rs npc hi lo X Y O E RX RY RO PC CV) s.heap.size = A at hD ⊢
  have hA : ∀ q : Nat, s.heap.size ≤ q → A q := fun q h => by rw [← hAe]; exact Or.inr h
  have hS0 : va_S A s.heap s.heap [] := va_S.rf
  refine x_name (fun R Q H locs hR hQ hH hlo => ?_)
  rw [← hH] at hP
  have hS : va_S A s.heap H locs := by rw [hH, hlo]; exact hS0
  refine x_entry hargs (Nat.le_of_ble_eq_true rfl) (fun ls hl => ?_)
  have hl : lv_has ls 9 [(0, .ref (ad 0)), (1, .long (lI a)), (3, .long (lI b))] := hl
  have hP : va_P (dC, dI) vwCl (mW ad cs ft par np nc rs npc hi lo X Y O E RX RY RO PC CV) H := hP
  have b1 := mul_bd 16777216 4294967296 (a := a % 16777216) (b := b) (by omega) (by omega)
  refine lv_lload_n hx hb dM_addProduct_0 rfl (lv_at hl 1 rfl) ?_
  refine lv_bipush (v := iI 24) hx hb dM_addProduct_1 (by decide +kernel) ?_
  refine lv_lshr (v := lI (a / 16777216)) hx hb dM_addProduct_3 (lI_shr (by omega)) ?_
  refine lv_lstore (lv' := [(5, .long (lI (a / 16777216))), (0, .ref (ad 0)), (1, .long (lI a)), (3, .long (lI b))]) hx hb dM_addProduct_4 hl (by decide) rfl (fun ls hl => ?_)
  refine lv_lload_n hx hb dM_addProduct_6 rfl (lv_at hl 2 rfl) ?_
  refine lv_ldc2 (v := 16777215) hx hb hown (hts _ (List.mem_cons_of_mem _ klM_89)) dM_addProduct_7 ?_
  refine xi_top (y := .long (lI 16777215)) (by decide +kernel) ?_
  refine lv_land hx hb dM_addProduct_10 ?_
  refine xi_top (y := .long (lI (a % 16777216))) (by rw [lI_and]) ?_
  refine lv_lstore (lv' := [(7, .long (lI (a % 16777216))), (5, .long (lI (a / 16777216))), (0, .ref (ad 0)), (1, .long (lI a)), (3, .long (lI b))]) hx hb dM_addProduct_11 hl (by decide) rfl (fun ls hl => ?_)
  refine lv_aload_n hx hb dM_addProduct_13 rfl (lv_at hl 2 rfl) ?_
  refine lv_aload_n hx hb dM_addProduct_14 rfl (lv_at hl 2 rfl) ?_
  refine va_get (D := (dC, dI)) (ci := 3) (v := .long (lI hi)) (C := RM) (T := TM) (N := 17) hx hb hts (fun w9 h9 => List.mem_cons_of_mem _ (inM w9 h9)) hown hK hP 0 rfl rfl 15 (by decide) (hts _ (List.mem_cons_of_mem _ flM_91)) (fun _ h9 => h9) rfl dM_addProduct_15 ?_
  refine lv_lload hx hb dM_addProduct_18 (lv_at hl 1 rfl) ?_
  refine lv_lload_n hx hb dM_addProduct_20 rfl (lv_at hl 4 rfl) ?_
  refine xl_mul (z := (a / 16777216) * b) hx hb dM_addProduct_21 rfl ?_
  refine xl_add (z := hi + ((a / 16777216) * b)) hx hb dM_addProduct_22 rfl ?_
  refine va_put (D := (dC, dI)) (ci := 3) (v := .long (lI (hi + ((a / 16777216) * b)))) (ty := .long) (C := RM) (T := TM) (N := 17) hx hb hts (fun w9 h9 => List.mem_cons_of_mem _ (inM w9 h9)) tyM tyM_ok nmM hown hK hP hD hS 0 rfl rfl 15 (by decide) (hts _ (List.mem_cons_of_mem _ flM_91)) (fun _ h9 => h9) rfl (by decide +kernel) rfl rfl (Nat.le_of_ble_eq_true rfl) dM_addProduct_23 (fun H locs hP hD hS => ?_)
  have hP : va_P (dC, dI) vwCl (mW ad cs ft par np nc rs npc (hi + ((a / 16777216) * b)) lo X Y O E RX RY RO PC CV) H := hP
  have hD : va_D A (mW ad cs ft par np nc rs npc (hi + ((a / 16777216) * b)) lo X Y O E RX RY RO PC CV) := hD
  refine lv_aload_n hx hb dM_addProduct_26 rfl (lv_at hl 2 rfl) ?_
  refine lv_aload_n hx hb dM_addProduct_27 rfl (lv_at hl 2 rfl) ?_
  refine va_get (D := (dC, dI)) (ci := 3) (v := .long (lI lo)) (C := RM) (T := TM) (N := 17) hx hb hts (fun w9 h9 => List.mem_cons_of_mem _ (inM w9 h9)) hown hK hP 0 rfl rfl 16 (by decide) (hts _ (List.mem_cons_of_mem _ flM_95)) (fun _ h9 => h9) rfl dM_addProduct_28 ?_
  refine lv_lload hx hb dM_addProduct_31 (lv_at hl 0 rfl) ?_
  refine lv_lload_n hx hb dM_addProduct_33 rfl (lv_at hl 4 rfl) ?_
  refine xl_mul (z := (a % 16777216) * b) hx hb dM_addProduct_34 rfl ?_
  refine xl_add (z := lo + ((a % 16777216) * b)) hx hb dM_addProduct_35 rfl ?_
  refine va_put (D := (dC, dI)) (ci := 3) (v := .long (lI (lo + ((a % 16777216) * b)))) (ty := .long) (C := RM) (T := TM) (N := 17) hx hb hts (fun w9 h9 => List.mem_cons_of_mem _ (inM w9 h9)) tyM tyM_ok nmM hown hK hP hD hS 0 rfl rfl 16 (by decide) (hts _ (List.mem_cons_of_mem _ flM_95)) (fun _ h9 => h9) rfl (by decide +kernel) rfl rfl (Nat.le_of_ble_eq_true rfl) dM_addProduct_36 (fun H locs hP hD hS => ?_)
  have hP : va_P (dC, dI) vwCl (mW ad cs ft par np nc rs npc (hi + ((a / 16777216) * b)) (lo + ((a % 16777216) * b)) X Y O E RX RY RO PC CV) H := hP
  have hD : va_D A (mW ad cs ft par np nc rs npc (hi + ((a / 16777216) * b)) (lo + ((a % 16777216) * b)) X Y O E RX RY RO PC CV) := hD
  refine lv_aload_n hx hb dM_addProduct_39 rfl (lv_at hl 2 rfl) ?_
  refine lv_aload_n hx hb dM_addProduct_40 rfl (lv_at hl 2 rfl) ?_
  refine va_get (D := (dC, dI)) (ci := 3) (v := .long (lI (hi + ((a / 16777216) * b)))) (C := RM) (T := TM) (N := 17) hx hb hts (fun w9 h9 => List.mem_cons_of_mem _ (inM w9 h9)) hown hK hP 0 rfl rfl 15 (by decide) (hts _ (List.mem_cons_of_mem _ flM_91)) (fun _ h9 => h9) rfl dM_addProduct_41 ?_
  refine lv_aload_n hx hb dM_addProduct_44 rfl (lv_at hl 2 rfl) ?_
  refine va_get (D := (dC, dI)) (ci := 3) (v := .long (lI (lo + ((a % 16777216) * b)))) (C := RM) (T := TM) (N := 17) hx hb hts (fun w9 h9 => List.mem_cons_of_mem _ (inM w9 h9)) hown hK hP 0 rfl rfl 16 (by decide) (hts _ (List.mem_cons_of_mem _ flM_95)) (fun _ h9 => h9) rfl dM_addProduct_45 ?_
  refine lv_bipush (v := iI 24) hx hb dM_addProduct_48 (by decide +kernel) ?_
  refine lv_lshr (v := lI ((lo + ((a % 16777216) * b)) / 16777216)) hx hb dM_addProduct_50 (lI_shr (by omega)) ?_
  refine xl_add (z := (hi + ((a / 16777216) * b)) + ((lo + ((a % 16777216) * b)) / 16777216)) hx hb dM_addProduct_51 rfl ?_
  refine va_put (D := (dC, dI)) (ci := 3) (v := .long (lI ((hi + ((a / 16777216) * b)) + ((lo + ((a % 16777216) * b)) / 16777216)))) (ty := .long) (C := RM) (T := TM) (N := 17) hx hb hts (fun w9 h9 => List.mem_cons_of_mem _ (inM w9 h9)) tyM tyM_ok nmM hown hK hP hD hS 0 rfl rfl 15 (by decide) (hts _ (List.mem_cons_of_mem _ flM_91)) (fun _ h9 => h9) rfl (by decide +kernel) rfl rfl (Nat.le_of_ble_eq_true rfl) dM_addProduct_52 (fun H locs hP hD hS => ?_)
  have hP : va_P (dC, dI) vwCl (mW ad cs ft par np nc rs npc ((hi + ((a / 16777216) * b)) + ((lo + ((a % 16777216) * b)) / 16777216)) (lo + ((a % 16777216) * b)) X Y O E RX RY RO PC CV) H := hP
  have hD : va_D A (mW ad cs ft par np nc rs npc ((hi + ((a / 16777216) * b)) + ((lo + ((a % 16777216) * b)) / 16777216)) (lo + ((a % 16777216) * b)) X Y O E RX RY RO PC CV) := hD
  refine lv_aload_n hx hb dM_addProduct_55 rfl (lv_at hl 2 rfl) ?_
  refine lv_aload_n hx hb dM_addProduct_56 rfl (lv_at hl 2 rfl) ?_
  refine va_get (D := (dC, dI)) (ci := 3) (v := .long (lI (lo + ((a % 16777216) * b)))) (C := RM) (T := TM) (N := 17) hx hb hts (fun w9 h9 => List.mem_cons_of_mem _ (inM w9 h9)) hown hK hP 0 rfl rfl 16 (by decide) (hts _ (List.mem_cons_of_mem _ flM_95)) (fun _ h9 => h9) rfl dM_addProduct_57 ?_
  refine lv_ldc2 (v := 16777215) hx hb hown (hts _ (List.mem_cons_of_mem _ klM_89)) dM_addProduct_60 ?_
  refine xi_top (y := .long (lI 16777215)) (by decide +kernel) ?_
  refine lv_land hx hb dM_addProduct_63 ?_
  refine xi_top (y := .long (lI ((lo + ((a % 16777216) * b)) % 16777216))) (by rw [lI_and]) ?_
  refine va_put (D := (dC, dI)) (ci := 3) (v := .long (lI ((lo + ((a % 16777216) * b)) % 16777216))) (ty := .long) (C := RM) (T := TM) (N := 17) hx hb hts (fun w9 h9 => List.mem_cons_of_mem _ (inM w9 h9)) tyM tyM_ok nmM hown hK hP hD hS 0 rfl rfl 16 (by decide) (hts _ (List.mem_cons_of_mem _ flM_95)) (fun _ h9 => h9) rfl (by decide +kernel) rfl rfl (Nat.le_of_ble_eq_true rfl) dM_addProduct_64 (fun H locs hP hD hS => ?_)
  have hP : va_P (dC, dI) vwCl (mW ad cs ft par np nc rs npc ((hi + ((a / 16777216) * b)) + ((lo + ((a % 16777216) * b)) / 16777216)) ((lo + ((a % 16777216) * b)) % 16777216) X Y O E RX RY RO PC CV) H := hP
  have hD : va_D A (mW ad cs ft par np nc rs npc ((hi + ((a / 16777216) * b)) + ((lo + ((a % 16777216) * b)) / 16777216)) ((lo + ((a % 16777216) * b)) % 16777216) X Y O E RX RY RO PC CV) := hD
  subst hQ
  exact W.vret hx hb hr (fun t9 ht9 hW9 => ⟨⟨((hi + ((a / 16777216) * b)) + ((lo + ((a % 16777216) * b)) / 16777216), (lo + ((a % 16777216) * b)) % 16777216), rfl, (ap_eq rfl rfl), by rw [ht9]; exact hP, va_K.moved hW9.alike hK, hD⟩, hS.F ht9⟩) hS.2.2 dM_addProduct_67
set_option maxHeartbeats 4000000 in
set_option maxRecDepth 100000 in
/-- signAt -/
theorem m_signAt (l : Launch) (dC : Nat → ClassId) (dI : Nat → Nat → Nat) (ad : Nat → Nat) (cs : Nat → ClassId) (sz : Nat) (ft : Int) (par : Bool) (np nc rs npc hi lo : Int) (X Y : Int → Int) (O : Int → Bool) (E RX RY : Int → Int) (RO : Int → Bool) (PC : Int → Int) (CV : Int → Bool) (a b k0 n d : Int) (h1 : -32768 ≤ a ∧ a ≤ 32768) (h2 : -32768 ≤ b ∧ b ≤ 32768) (h3 : -32768 ≤ k0 ∧ k0 ≤ 32768) (h4 : -4294967296 ≤ n ∧ n ≤ 4294967296) (h5 : 0 < d ∧ d ≤ 4294967296) : Met l yM_signAt wM_signAt ({ frames := 1, cells := 0, slots := 0, locals := 28 }) (va_Pc [.ref (ad 0), .long (lI a), .long (lI b), .long (lI k0), .long (lI n), .long (lI d)] (fun U => U.heap.size = sz ∧ va_P (dC, dI) vwCl (mW ad cs ft par np nc rs npc hi lo X Y O E RX RY RO PC CV) U.heap ∧ va_K (dC, dI) vwCl (mT cs) U ∧ va_D (fun _ => True) (mW ad cs ft par np nc rs npc hi lo X Y O E RX RY RO PC CV))) (va_Qi (fun (r : Int32) (u : Int × Int) => r = iI (sgn ((a * n + b * d) * n + k0 * d * d)) ∧ True) (fun (u : Int × Int) t9 => va_P (dC, dI) vwCl (mW ad cs ft par np nc rs npc u.1 u.2 X Y O E RX RY RO PC CV) t9.heap ∧ va_K (dC, dI) vwCl (mT cs) t9 ∧ va_D (va_A (mW ad cs ft par np nc rs npc hi lo X Y O E RX RY RO PC CV) sz) (mW ad cs ft par np nc rs npc u.1 u.2 X Y O E RX RY RO PC CV)) (va_A (mW ad cs ft par np nc rs npc hi lo X Y O E RX RY RO PC CV) sz)) 0 0 (va_A (mW ad cs ft par np nc rs npc hi lo X Y O E RX RY RO PC CV) sz) := by
  refine Met.ofW (cc := cM_signAt) (maxL := 11) (ret := (some .int)) (by decide) rfl ?_
  intro p e s m args below meth c s₁ B hml hv
  obtain ⟨hargs, hsz, hP, hK, hD0⟩ := hv
  have hx := B.exec
  have hb := B.bytes
  have hr := B.returns
  have hts := atoms_spec (ws := wM_signAt) B.pre
  have hown : s.vm.findClass RM = some m.cls := findClass_of_methodNamed B.named
  have hlocks := B.notSynchronized
  subst hsz
  have hD := hD0.self (sz := s.heap.size)
  generalize hAe : va_A (mW ad cs ft par np nc rs npc hi lo X Y O E RX RY RO PC CV) s.heap.size = A at hD ⊢
  have hA : ∀ q : Nat, s.heap.size ≤ q → A q := fun q h => by rw [← hAe]; exact Or.inr h
  have hS0 : va_S A s.heap s.heap [] := va_S.rf
  refine x_name (fun R Q H locs hR hQ hH hlo => ?_)
  rw [← hH] at hP
  have hS : va_S A s.heap H locs := by rw [hH, hlo]; exact hS0
  refine x_entry hargs (Nat.le_of_ble_eq_true rfl) (fun ls hl => ?_)
  have hl : lv_has ls 11 [(0, .ref (ad 0)), (1, .long (lI a)), (3, .long (lI b)), (5, .long (lI k0)), (7, .long (lI n)), (9, .long (lI d))] := hl
  have hP : va_P (dC, dI) vwCl (mW ad cs ft par np nc rs npc hi lo X Y O E RX RY RO PC CV) H := hP
  have b1 := mul_bd 32768 4294967296 (a := a) (b := n) (by omega) (by omega)
  have b2 := mul_bd 32768 4294967296 (a := b) (b := d) (by omega) (by omega)
  have b3 := mul_bd 32768 4294967296 (a := k0) (b := d) (by omega) (by omega)
  have b4 := mul_bd 1125899906842624 4294967296 (a := a * n + b * d) (b := n) (by omega) (by omega)
  have b5 := mul_bd 1125899906842624 4294967296 (a := k0 * d) (b := d) (by omega) (by omega)
  refine lv_aload_n hx hb dM_signAt_0 rfl (lv_at hl 0 rfl) ?_
  refine lv_lconst (v := lI 0) hx hb dM_signAt_1 (by decide +kernel) ?_
  refine va_put (D := (dC, dI)) (ci := 3) (v := .long (lI 0)) (ty := .long) (C := RM) (T := TM) (N := 17) hx hb hts (fun w9 h9 => List.mem_cons_of_mem _ (inM w9 h9)) tyM tyM_ok nmM hown hK hP hD hS 0 rfl rfl 15 (by decide) (hts _ (List.mem_cons_of_mem _ flM_91)) (fun _ h9 => h9) rfl (by decide +kernel) rfl rfl (Nat.le_of_ble_eq_true rfl) dM_signAt_2 (fun H locs hP hD hS => ?_)
  have hP : va_P (dC, dI) vwCl (mW ad cs ft par np nc rs npc 0 lo X Y O E RX RY RO PC CV) H := hP
  have hD : va_D A (mW ad cs ft par np nc rs npc 0 lo X Y O E RX RY RO PC CV) := hD
  refine lv_aload_n hx hb dM_signAt_5 rfl (lv_at hl 0 rfl) ?_
  refine lv_lconst (v := lI 0) hx hb dM_signAt_6 (by decide +kernel) ?_
  refine va_put (D := (dC, dI)) (ci := 3) (v := .long (lI 0)) (ty := .long) (C := RM) (T := TM) (N := 17) hx hb hts (fun w9 h9 => List.mem_cons_of_mem _ (inM w9 h9)) tyM tyM_ok nmM hown hK hP hD hS 0 rfl rfl 16 (by decide) (hts _ (List.mem_cons_of_mem _ flM_95)) (fun _ h9 => h9) rfl (by decide +kernel) rfl rfl (Nat.le_of_ble_eq_true rfl) dM_signAt_7 (fun H locs hP hD hS => ?_)
  have hP : va_P (dC, dI) vwCl (mW ad cs ft par np nc rs npc 0 0 X Y O E RX RY RO PC CV) H := hP
  have hD : va_D A (mW ad cs ft par np nc rs npc 0 0 X Y O E RX RY RO PC CV) := hD
  refine lv_aload_n hx hb dM_signAt_10 rfl (lv_at hl 0 rfl) ?_
  refine lv_lload_n hx hb dM_signAt_11 rfl (lv_at hl 1 rfl) ?_
  refine lv_lload hx hb dM_signAt_12 (lv_at hl 4 rfl) ?_
  refine xl_mul (z := a * n) hx hb dM_signAt_14 rfl ?_
  refine lv_lload_n hx hb dM_signAt_15 rfl (lv_at hl 2 rfl) ?_
  refine lv_lload hx hb dM_signAt_16 (lv_at hl 5 rfl) ?_
  refine xl_mul (z := b * d) hx hb dM_signAt_18 rfl ?_
  refine xl_add (z := (a * n) + (b * d)) hx hb dM_signAt_19 rfl ?_
  refine lv_lload hx hb dM_signAt_20 (lv_at hl 4 rfl) ?_
  have hFc := xw_free hD hS hA
  refine va_callv (va_runV (As := [.long (lI ((a * n) + (b * d))), .long (lI n)]) (rest := []) ⟨hx, hb, hml, hown, hts⟩ (m_addProduct l dC dI ad cs H.size ft par np nc rs npc 0 0 X Y O E RX RY RO PC CV (a * n + b * d) n (by omega) (by omega) (by omega)) (cwV 2 hts (tb_V mlM_98 imM_addProduct seM_addProduct iniM coM_addProduct) rfl rfl rfl (by decide +kernel) (by subst hR; exact ⟨Nat.le_of_ble_eq_true rfl, Nat.le_of_ble_eq_true rfl⟩)) ⟨fun a9 U9 g9 mk9 q9 => by obtain ⟨q0, q1, qP, qK, qD⟩ := q9; exact ⟨q0, q1, qP, va_K.moved (u := U9) (U := U9.calling g9 mk9 a9) (Vm.Alike.refl U9.vm) qK, qD⟩, va_recv hK hP (ci := 3) (q0 := 0) rfl rfl, fun U hU hW => ⟨rfl, by rw [hU], by rw [hU]; exact hP, va_K.moved hW.alike hK, hD.weaken (fun _ _ _ _ => trivial)⟩⟩ rfl rfl hl.1 rfl (lv_room (Nat.le_of_ble_eq_true rfl)) dM_signAt_22 ⟨by subst hR; exact Nat.le_of_ble_eq_true rfl, by subst hR; exact Nat.le_of_ble_eq_true rfl⟩) hS (fun q9 _ h9 => hFc q9 h9) hFc (fun u_22 t9 H1 locs1 ht9 hvm9 hw_22 hB9 hz9 hk9 hS1 => ?_)
  obtain ⟨hP1, hK1, hD1⟩ := hB9
  rw [ht9] at hP1
  have hP : va_P (dC, dI) vwCl (mW ad cs ft par np nc rs npc u_22.1 u_22.2 X Y O E RX RY RO PC CV) H1 := hP1
  have hD : va_D A (mW ad cs ft par np nc rs npc u_22.1 u_22.2 X Y O E RX RY RO PC CV) := hD1.weaken (fun _ _ _ h9 => hFc _ h9)
  clear hP1 hD1 hK1 hFc
  have hS := hS1
  clear hS1 hz9 hk9 ht9 hvm9
  revert hP hD hS; generalize H1 = H; generalize locs1 = locs; intro hP hD hS
  refine lv_aload_n hx hb dM_signAt_25 rfl (lv_at hl 0 rfl) ?_
  refine lv_lload hx hb dM_signAt_26 (lv_at hl 3 rfl) ?_
  refine lv_lload hx hb dM_signAt_28 (lv_at hl 5 rfl) ?_
  refine xl_mul (z := k0 * d) hx hb dM_signAt_30 rfl ?_
  refine lv_lload hx hb dM_signAt_31 (lv_at hl 5 rfl) ?_
  have hFc := xw_free hD hS hA
  refine va_callv (va_runV (As := [.long (lI (k0 * d)), .long (lI d)]) (rest := []) ⟨hx, hb, hml, hown, hts⟩ (m_addProduct l dC dI ad cs H.size ft par np nc rs npc u_22.1 u_22.2 X Y O E RX RY RO PC CV (k0 * d) d (by omega) (by omega) (by omega)) (cwV 2 hts (tb_V mlM_98 imM_addProduct seM_addProduct iniM coM_addProduct) rfl rfl rfl (by decide +kernel) (by subst hR; exact ⟨Nat.le_of_ble_eq_true rfl, Nat.le_of_ble_eq_true rfl⟩)) ⟨fun a9 U9 g9 mk9 q9 => by obtain ⟨q0, q1, qP, qK, qD⟩ := q9; exact ⟨q0, q1, qP, va_K.moved (u := U9) (U := U9.calling g9 mk9 a9) (Vm.Alike.refl U9.vm) qK, qD⟩, va_recv hK hP (ci := 3) (q0 := 0) rfl rfl, fun U hU hW => ⟨rfl, by rw [hU], by rw [hU]; exact hP, va_K.moved hW.alike hK, hD.weaken (fun _ _ _ _ => trivial)⟩⟩ rfl rfl hl.1 rfl (lv_room (Nat.le_of_ble_eq_true rfl)) dM_signAt_33 ⟨by subst hR; exact Nat.le_of_ble_eq_true rfl, by subst hR; exact Nat.le_of_ble_eq_true rfl⟩) hS (fun q9 _ h9 => hFc q9 h9) hFc (fun u_33 t9 H1 locs1 ht9 hvm9 hw_33 hB9 hz9 hk9 hS1 => ?_)
  obtain ⟨hP1, hK1, hD1⟩ := hB9
  rw [ht9] at hP1
  have hP : va_P (dC, dI) vwCl (mW ad cs ft par np nc rs npc u_33.1 u_33.2 X Y O E RX RY RO PC CV) H1 := hP1
  have hD : va_D A (mW ad cs ft par np nc rs npc u_33.1 u_33.2 X Y O E RX RY RO PC CV) := hD1.weaken (fun _ _ _ h9 => hFc _ h9)
  clear hP1 hD1 hK1 hFc
  have hS := hS1
  clear hS1 hz9 hk9 ht9 hvm9
  revert hP hD hS; generalize H1 = H; generalize locs1 = locs; intro hP hD hS
  have b6 := sgn_hl (hi := u_33.1) (lo := u_33.2) (t := (a * n + b * d) * n + k0 * d * d) (by omega) hw_33.2.1 hw_33.2.2
  have cut_62_1 : ∀ (v : Int) (ls : Array Slot), (v = sgn ((a * n + b * d) * n + k0 * d * d)) → lv_has ls 11 [(0, .ref (ad 0)), (1, .long (lI a)), (3, .long (lI b)), (5, .long (lI k0)), (7, .long (lI n)), (9, .long (lI d))] → W p l e R s m args below meth c H locs 0 0 Q (F0 m 62 ls [.int (iI v)]) := by
    intro v ls hv hl
    subst hQ
    exact W.iret (v := (iI v)) hx hb hr (fun t9 ht9 hW9 => ⟨⟨_, u_33, rfl, (⟨by rw [hv], trivial⟩), by rw [ht9]; exact hP, va_K.moved hW9.alike hK, hD⟩, hS.F ht9⟩) hS.2.2 dM_signAt_62
  refine lv_aload_n hx hb dM_signAt_36 rfl (lv_at hl 0 rfl) ?_
  refine va_get (D := (dC, dI)) (ci := 3) (v := .long (lI u_33.1)) (C := RM) (T := TM) (N := 17) hx hb hts (fun w9 h9 => List.mem_cons_of_mem _ (inM w9 h9)) hown hK hP 0 rfl rfl 15 (by decide) (hts _ (List.mem_cons_of_mem _ flM_91)) (fun _ h9 => h9) rfl dM_signAt_37 ?_
  refine lv_lconst (v := lI 0) hx hb dM_signAt_40 (by decide +kernel) ?_
  refine xl_eq (tgt := 55) hx hb dM_signAt_41 dM_signAt_42 (by decide) (by omega) (by omega) (fun c_41 => ?_) (fun c_41 => ?_)
  · skip
    refine lv_aload_n hx hb dM_signAt_55 rfl (lv_at hl 0 rfl) ?_
    refine va_get (D := (dC, dI)) (ci := 3) (v := .long (lI u_33.2)) (C := RM) (T := TM) (N := 17) hx hb hts (fun w9 h9 => List.mem_cons_of_mem _ (inM w9 h9)) hown hK hP 0 rfl rfl 16 (by decide) (hts _ (List.mem_cons_of_mem _ flM_95)) (fun _ h9 => h9) rfl dM_signAt_56 ?_
    refine vp_callSi (W.runS (As := [.long (lI u_33.2)]) (rest := []) ⟨hx, hb, hml, hown, hts⟩ (m_signOf l dC dI u_33.2 (by omega)) (va_cwS 1 hts (tb_S mlM_102 smM_signOf iniM coM_signOf) rfl rfl rfl (by decide +kernel) (by subst hR; exact ⟨Nat.le_of_ble_eq_true rfl, Nat.le_of_ble_eq_true rfl⟩)) ⟨fun a9 U9 g9 mk9 q9 => q9, fun U hU hW => ⟨rfl, trivial⟩⟩ rfl rfl hl.1 rfl (lv_room (Nat.le_of_ble_eq_true rfl)) dM_signAt_59 ⟨by subst hR; exact Nat.zero_le _, by subst hR; exact Nat.zero_le _⟩) (fun r_59 hw_59 => ?_)
    subst hw_59
    exact cut_62_1 (sgn u_33.2) _ (by rw [b6.2 c_41]) (lv_sub hl [0, 1, 2, 3, 4, 5] rfl)
  · skip
    refine lv_aload_n hx hb dM_signAt_45 rfl (lv_at hl 0 rfl) ?_
    refine va_get (D := (dC, dI)) (ci := 3) (v := .long (lI u_33.1)) (C := RM) (T := TM) (N := 17) hx hb hts (fun w9 h9 => List.mem_cons_of_mem _ (inM w9 h9)) hown hK hP 0 rfl rfl 15 (by decide) (hts _ (List.mem_cons_of_mem _ flM_91)) (fun _ h9 => h9) rfl dM_signAt_46 ?_
    refine vp_callSi (W.runS (As := [.long (lI u_33.1)]) (rest := []) ⟨hx, hb, hml, hown, hts⟩ (m_signOf l dC dI u_33.1 (by omega)) (va_cwS 1 hts (tb_S mlM_102 smM_signOf iniM coM_signOf) rfl rfl rfl (by decide +kernel) (by subst hR; exact ⟨Nat.le_of_ble_eq_true rfl, Nat.le_of_ble_eq_true rfl⟩)) ⟨fun a9 U9 g9 mk9 q9 => q9, fun U hU hW => ⟨rfl, trivial⟩⟩ rfl rfl hl.1 rfl (lv_room (Nat.le_of_ble_eq_true rfl)) dM_signAt_49 ⟨by subst hR; exact Nat.zero_le _, by subst hR; exact Nat.zero_le _⟩) (fun r_49 hw_49 => ?_)
    subst hw_49
    refine lv_goto (tgt := 62) hx hb dM_signAt_52 (by decide) ?_
    exact cut_62_1 (sgn u_33.1) _ (by rw [b6.1 c_41]) (lv_sub hl [0, 1, 2, 3, 4, 5] rfl)
set_option maxHeartbeats 4000000 in
set_option maxRecDepth 100000 in
/-- compareRoot -/
theorem m_compareRoot (l : Launch) (dC : Nat → ClassId) (dI : Nat → Nat → Nat) (ad : Nat → Nat) (cs : Nat → ClassId) (sz : Nat) (ft : Int) (par : Bool) (np nc rs npc hi lo : Int) (X Y : Int → Int) (O : Int → Bool) (E RX RY : Int → Int) (RO : Int → Bool) (PC : Int → Int) (CV : Int → Bool) (a b k0 : Int) (gr : Bool) (n d : Int) (h1 : -32768 ≤ a ∧ a ≤ 32768) (h2 : -32768 ≤ b ∧ b ≤ 32768) (h3 : -32768 ≤ k0 ∧ k0 ≤ 32768) (h4 : -4294967296 ≤ n ∧ n ≤ 4294967296) (h5 : 0 < d ∧ d ≤ 4294967296) : Met l yM_compareRoot wM_compareRoot ({ frames := 2, cells := 0, slots := 0, locals := 58 }) (va_Pc [.ref (ad 0), .long (lI a), .long (lI b), .long (lI k0), .int (iI (bz gr)), .long (lI n), .long (lI d)] (fun U => U.heap.size = sz ∧ va_P (dC, dI) vwCl (mW ad cs ft par np nc rs npc hi lo X Y O E RX RY RO PC CV) U.heap ∧ va_K (dC, dI) vwCl (mT cs) U ∧ va_D (fun _ => True) (mW ad cs ft par np nc rs npc hi lo X Y O E RX RY RO PC CV))) (va_Qi (fun (r : Int32) (u : Int × Int) => r = iI (cmr a b k0 gr n d) ∧ True) (fun (u : Int × Int) t9 => va_P (dC, dI) vwCl (mW ad cs ft par np nc rs npc u.1 u.2 X Y O E RX RY RO PC CV) t9.heap ∧ va_K (dC, dI) vwCl (mT cs) t9 ∧ va_D (va_A (mW ad cs ft par np nc rs npc hi lo X Y O E RX RY RO PC CV) sz) (mW ad cs ft par np nc rs npc u.1 u.2 X Y O E RX RY RO PC CV)) (va_A (mW ad cs ft par np nc rs npc hi lo X Y O E RX RY RO PC CV) sz)) 0 0 (va_A (mW ad cs ft par np nc rs npc hi lo X Y O E RX RY RO PC CV) sz) := by
  refine Met.ofW (cc := cM_compareRoot) (maxL := 14) (ret := (some .int)) (by decide) rfl ?_
  intro p e s m args below meth c s₁ B hml hv
  obtain ⟨hargs, hsz, hP, hK, hD0⟩ := hv
  have hx := B.exec
  have hb := B.bytes
  have hr := B.returns
  have hts := atoms_spec (ws := wM_compareRoot) B.pre
  have hown : s.vm.findClass RM = some m.cls := findClass_of_methodNamed B.named
  have hlocks := B.notSynchronized
  subst hsz
  have hD := hD0.self (sz := s.heap.size)
  generalize hAe : va_A (mW ad cs ft par np nc rs npc hi lo X Y O E RX RY RO PC CV) s.heap.size = A at hD ⊢
  have hA : ∀ q : Nat, s.heap.size ≤ q → A q := fun q h => by rw [← hAe]; exact Or.inr h
  have hS0 : va_S A s.heap s.heap [] := va_S.rf
  refine x_name (fun R Q H locs hR hQ hH hlo => ?_)
  rw [← hH] at hP
  have hS : va_S A s.heap H locs := by rw [hH, hlo]; exact hS0
  refine x_entry hargs (Nat.le_of_ble_eq_true rfl) (fun ls hl => ?_)
  have hl : lv_has ls 14 [(0, .ref (ad 0)), (1, .long (lI a)), (3, .long (lI b)), (5, .long (lI k0)), (7, .int (iI (bz gr))), (8, .long (lI n)), (10, .long (lI d))] := hl
  have hP : va_P (dC, dI) vwCl (mW ad cs ft par np nc rs npc hi lo X Y O E RX RY RO PC CV) H := hP
  have b1 := mul_bd 65536 4294967296 (a := 2 * a) (b := n) (by omega) (by omega)
  have b2 := mul_bd 32768 4294967296 (a := b) (b := d) (by omega) (by omega)
  obtain ⟨sd, hsd⟩ : ∃ z, z = sgn a * sgn ((a * n + b * d) * n + k0 * d * d) := ⟨_, rfl⟩
  obtain ⟨md, hmd⟩ : ∃ z, z = sgn a * sgn (2 * a * n + b * d) := ⟨_, rfl⟩
  have b3 := sgn_mul_bd a ((a * n + b * d) * n + k0 * d * d)
  have b4 := sgn_mul_bd a (2 * a * n + b * d)
  rw [← hsd] at b3
  rw [← hmd] at b4
  have e9 : cmr a b k0 gr n d = cmr2 sd md gr := by unfold cmr; rw [hsd, hmd]
  refine lv_lload_n hx hb dM_compareRoot_0 rfl (lv_at hl 1 rfl) ?_
  refine vp_callSi (W.runS (As := [.long (lI a)]) (rest := []) ⟨hx, hb, hml, hown, hts⟩ (m_signOf l dC dI (a) (by omega)) (va_cwS 1 hts (tb_S mlM_102 smM_signOf iniM coM_signOf) rfl rfl rfl (by decide +kernel) (by subst hR; exact ⟨Nat.le_of_ble_eq_true rfl, Nat.le_of_ble_eq_true rfl⟩)) ⟨fun a9 U9 g9 mk9 q9 => q9, fun U hU hW => ⟨rfl, trivial⟩⟩ rfl rfl hl.1 rfl (lv_room (Nat.le_of_ble_eq_true rfl)) dM_compareRoot_1 ⟨by subst hR; exact Nat.zero_le _, by subst hR; exact Nat.zero_le _⟩) (fun r_1 hw_1 => ?_)
  subst hw_1
  refine lv_aload_n hx hb dM_compareRoot_4 rfl (lv_at hl 0 rfl) ?_
  refine lv_lload_n hx hb dM_compareRoot_5 rfl (lv_at hl 1 rfl) ?_
  refine lv_lload_n hx hb dM_compareRoot_6 rfl (lv_at hl 2 rfl) ?_
  refine lv_lload hx hb dM_compareRoot_7 (lv_at hl 3 rfl) ?_
  refine lv_lload hx hb dM_compareRoot_9 (lv_at hl 5 rfl) ?_
  refine lv_lload hx hb dM_compareRoot_11 (lv_at hl 6 rfl) ?_
  have hFc := xw_free hD hS hA
  refine va_calli (va_runV (As := [.long (lI a), .long (lI b), .long (lI k0), .long (lI n), .long (lI d)]) (rest := [.int (iI (sgn a))]) ⟨hx, hb, hml, hown, hts⟩ (m_signAt l dC dI ad cs H.size ft par np nc rs npc hi lo X Y O E RX RY RO PC CV a b k0 n d h1 h2 h3 h4 h5) (cwV 5 hts (tb_V mlM_106 imM_signAt seM_signAt iniM coM_signAt) rfl rfl rfl (by decide +kernel) (by subst hR; exact ⟨Nat.le_of_ble_eq_true rfl, Nat.le_of_ble_eq_true rfl⟩)) ⟨fun a9 U9 g9 mk9 q9 => by obtain ⟨q0, q1, qP, qK, qD⟩ := q9; exact ⟨q0, q1, qP, va_K.moved (u := U9) (U := U9.calling g9 mk9 a9) (Vm.Alike.refl U9.vm) qK, qD⟩, va_recv hK hP (ci := 3) (q0 := 0) rfl rfl, fun U hU hW => ⟨rfl, by rw [hU], by rw [hU]; exact hP, va_K.moved hW.alike hK, hD.weaken (fun _ _ _ _ => trivial)⟩⟩ rfl rfl hl.1 rfl (lv_room (Nat.le_of_ble_eq_true rfl)) dM_compareRoot_13 ⟨by subst hR; exact Nat.le_of_ble_eq_true rfl, by subst hR; exact Nat.le_of_ble_eq_true rfl⟩) hS (fun q9 _ h9 => hFc q9 h9) hFc (fun r_13 u_13 t9 H1 locs1 ht9 hvm9 hw_13 hB9 hz9 hk9 hS1 => ?_)
  obtain ⟨hP1, hK1, hD1⟩ := hB9
  rw [ht9] at hP1
  have hP : va_P (dC, dI) vwCl (mW ad cs ft par np nc rs npc u_13.1 u_13.2 X Y O E RX RY RO PC CV) H1 := hP1
  have hD : va_D A (mW ad cs ft par np nc rs npc u_13.1 u_13.2 X Y O E RX RY RO PC CV) := hD1.weaken (fun _ _ _ h9 => hFc _ h9)
  clear hP1 hD1 hK1 hFc
  have hS := hS1
  clear hS1 hz9 hk9 ht9 hvm9
  revert hP hD hS; generalize H1 = H; generalize locs1 = locs; intro hP hD hS
  obtain ⟨hr_13, hw_13⟩ := hw_13; subst hr_13
  refine xi_mul (z := sd) hx hb dM_compareRoot_16 (hsd.symm) ?_
  refine lv_istore (lv' := [(12, .int (iI sd)), (0, .ref (ad 0)), (1, .long (lI a)), (3, .long (lI b)), (5, .long (lI k0)), (7, .int (iI (bz gr))), (8, .long (lI n)), (10, .long (lI d))]) hx hb dM_compareRoot_17 hl (by decide) rfl (fun ls hl => ?_)
  refine lv_lload_n hx hb dM_compareRoot_19 rfl (lv_at hl 2 rfl) ?_
  refine vp_callSi (W.runS (As := [.long (lI a)]) (rest := []) ⟨hx, hb, hml, hown, hts⟩ (m_signOf l dC dI (a) (by omega)) (va_cwS 1 hts (tb_S mlM_102 smM_signOf iniM coM_signOf) rfl rfl rfl (by decide +kernel) (by subst hR; exact ⟨Nat.le_of_ble_eq_true rfl, Nat.le_of_ble_eq_true rfl⟩)) ⟨fun a9 U9 g9 mk9 q9 => q9, fun U hU hW => ⟨rfl, trivial⟩⟩ rfl rfl hl.1 rfl (lv_room (Nat.le_of_ble_eq_true rfl)) dM_compareRoot_20 ⟨by subst hR; exact Nat.zero_le _, by subst hR; exact Nat.zero_le _⟩) (fun r_20 hw_20 => ?_)
  subst hw_20
  refine lv_ldc2 (v := 2) hx hb hown (hts _ (List.mem_cons_of_mem _ klM_110)) dM_compareRoot_23 ?_
  refine xi_top (y := .long (lI 2)) (by decide +kernel) ?_
  refine lv_lload_n hx hb dM_compareRoot_26 rfl (lv_at hl 2 rfl) ?_
  refine xl_mul (z := 2 * a) hx hb dM_compareRoot_27 rfl ?_
  refine lv_lload hx hb dM_compareRoot_28 (lv_at hl 6 rfl) ?_
  refine xl_mul (z := (2 * a) * n) hx hb dM_compareRoot_30 rfl ?_
  refine lv_lload_n hx hb dM_compareRoot_31 rfl (lv_at hl 3 rfl) ?_
  refine lv_lload hx hb dM_compareRoot_32 (lv_at hl 7 rfl) ?_
  refine xl_mul (z := b * d) hx hb dM_compareRoot_34 rfl ?_
  refine xl_add (z := ((2 * a) * n) + (b * d)) hx hb dM_compareRoot_35 rfl ?_
  refine vp_callSi (W.runS (As := [.long (lI (((2 * a) * n) + (b * d)))]) (rest := [.int (iI (sgn a))]) ⟨hx, hb, hml, hown, hts⟩ (m_signOf l dC dI (2 * a * n + b * d) (by omega)) (va_cwS 1 hts (tb_S mlM_102 smM_signOf iniM coM_signOf) rfl rfl rfl (by decide +kernel) (by subst hR; exact ⟨Nat.le_of_ble_eq_true rfl, Nat.le_of_ble_eq_true rfl⟩)) ⟨fun a9 U9 g9 mk9 q9 => q9, fun U hU hW => ⟨rfl, trivial⟩⟩ rfl rfl hl.1 rfl (lv_room (Nat.le_of_ble_eq_true rfl)) dM_compareRoot_36 ⟨by subst hR; exact Nat.zero_le _, by subst hR; exact Nat.zero_le _⟩) (fun r_36 hw_36 => ?_)
  subst hw_36
  refine xi_mul (z := md) hx hb dM_compareRoot_39 (hmd.symm) ?_
  refine lv_istore (lv' := [(13, .int (iI md)), (12, .int (iI sd)), (0, .ref (ad 0)), (1, .long (lI a)), (3, .long (lI b)), (5, .long (lI k0)), (7, .int (iI (bz gr))), (8, .long (lI n)), (10, .long (lI d))]) hx hb dM_compareRoot_40 hl (by decide) rfl (fun ls hl => ?_)
  refine lv_iload hx hb dM_compareRoot_42 (lv_at hl 1 rfl) ?_
  refine xi_if_ge (tgt := 58) hx hb dM_compareRoot_44 (by decide) (by omega) (fun c_44 => ?_) (fun c_44 => ?_)
  · skip
    refine lv_iload hx hb dM_compareRoot_58 (lv_at hl 1 rfl) ?_
    refine xi_if_le (tgt := 74) hx hb dM_compareRoot_60 (by decide) (by omega) (fun c_60 => ?_) (fun c_60 => ?_)
    · skip
      have cut_102_1 : ∀ (v : Int) (ls : Array Slot), (v = cmr2 sd md gr) → lv_has ls 14 [(13, .int (iI md)), (12, .int (iI sd)), (0, .ref (ad 0)), (1, .long (lI a)), (3, .long (lI b)), (5, .long (lI k0)), (7, .int (iI (bz gr))), (8, .long (lI n)), (10, .long (lI d))] → W p l e R s m args below meth c H locs 0 0 Q (F0 m 102 ls [.int (iI v)]) := by
        intro v ls hv hl
        subst hQ
        exact W.iret (v := (iI v)) hx hb hr (fun t9 ht9 hW9 => ⟨⟨_, u_13, rfl, (⟨by rw [hv, e9], trivial⟩), by rw [ht9]; exact hP, va_K.moved hW9.alike hK, hD⟩, hS.F ht9⟩) hS.2.2 dM_compareRoot_102
      refine lv_iload hx hb dM_compareRoot_74 (lv_at hl 6 rfl) ?_
      refine xb_if_eq (tgt := 92) hx hb dM_compareRoot_76 (by decide) (fun c_76 => ?_) (fun c_76 => ?_)
      · skip
        refine lv_iload hx hb dM_compareRoot_92 (lv_at hl 0 rfl) ?_
        refine xi_if_le (tgt := 101) hx hb dM_compareRoot_94 (by decide) (by omega) (fun c_94 => ?_) (fun c_94 => ?_)
        · skip
          refine xi_iconst hx hb dM_compareRoot_101 ?_
          exact cut_102_1 0 _ (by unfold cmr2; rw [if_neg (by omega), if_neg (by omega), if_neg (by rw [c_76]; decide), if_neg (by omega)]) (lv_sub hl [0, 1, 2, 3, 4, 5, 6, 7, 8] rfl)
        · skip
          refine xi_iconst hx hb dM_compareRoot_97 ?_
          refine lv_goto (tgt := 102) hx hb dM_compareRoot_98 (by decide) ?_
          exact cut_102_1 (-1) _ (by unfold cmr2; rw [if_neg (by omega), if_neg (by omega), if_neg (by rw [c_76]; decide), if_pos c_94]) (lv_sub hl [0, 1, 2, 3, 4, 5, 6, 7, 8] rfl)
      · skip
        refine lv_iload hx hb dM_compareRoot_79 (lv_at hl 0 rfl) ?_
        refine xi_if_ge (tgt := 88) hx hb dM_compareRoot_81 (by decide) (by omega) (fun c_81 => ?_) (fun c_81 => ?_)
        · skip
          refine xi_iconst hx hb dM_compareRoot_88 ?_
          refine lv_goto (tgt := 102) hx hb dM_compareRoot_89 (by decide) ?_
          exact cut_102_1 0 _ (by unfold cmr2; rw [if_neg (by omega), if_neg (by omega), if_pos c_76, if_neg (by omega)]) (lv_sub hl [0, 1, 2, 3, 4, 5, 6, 7, 8] rfl)
        · skip
          refine xi_iconst hx hb dM_compareRoot_84 ?_
          refine lv_goto (tgt := 102) hx hb dM_compareRoot_85 (by decide) ?_
          exact cut_102_1 1 _ (by unfold cmr2; rw [if_neg (by omega), if_neg (by omega), if_pos c_76, if_pos c_81]) (lv_sub hl [0, 1, 2, 3, 4, 5, 6, 7, 8] rfl)
    · skip
      have cut_73_2 : ∀ (v : Int) (ls : Array Slot), (v = cmr2 sd md gr) → lv_has ls 14 [(13, .int (iI md)), (12, .int (iI sd)), (0, .ref (ad 0)), (1, .long (lI a)), (3, .long (lI b)), (5, .long (lI k0)), (7, .int (iI (bz gr))), (8, .long (lI n)), (10, .long (lI d))] → W p l e R s m args below meth c H locs 0 0 Q (F0 m 73 ls [.int (iI v)]) := by
        intro v ls hv hl
        subst hQ
        exact W.iret (v := (iI v)) hx hb hr (fun t9 ht9 hW9 => ⟨⟨_, u_13, rfl, (⟨by rw [hv, e9], trivial⟩), by rw [ht9]; exact hP, va_K.moved hW9.alike hK, hD⟩, hS.F ht9⟩) hS.2.2 dM_compareRoot_73
      refine lv_iload hx hb dM_compareRoot_63 (lv_at hl 0 rfl) ?_
      refine xi_if_ge (tgt := 72) hx hb dM_compareRoot_65 (by decide) (by omega) (fun c_65 => ?_) (fun c_65 => ?_)
      · skip
        refine xi_iconst hx hb dM_compareRoot_72 ?_
        exact cut_73_2 (-1) _ (by unfold cmr2; rw [if_neg (by omega), if_pos c_60, if_neg (by omega)]) (lv_sub hl [0, 1, 2, 3, 4, 5, 6, 7, 8] rfl)
      · skip
        refine xi_iconst hx hb dM_compareRoot_68 ?_
        refine lv_goto (tgt := 73) hx hb dM_compareRoot_69 (by decide) ?_
        exact cut_73_2 1 _ (by unfold cmr2; rw [if_neg (by omega), if_pos c_60, if_pos c_65]) (lv_sub hl [0, 1, 2, 3, 4, 5, 6, 7, 8] rfl)
  · skip
    have cut_57_3 : ∀ (v : Int) (ls : Array Slot), (v = cmr2 sd md gr) → lv_has ls 14 [(13, .int (iI md)), (12, .int (iI sd)), (0, .ref (ad 0)), (1, .long (lI a)), (3, .long (lI b)), (5, .long (lI k0)), (7, .int (iI (bz gr))), (8, .long (lI n)), (10, .long (lI d))] → W p l e R s m args below meth c H locs 0 0 Q (F0 m 57 ls [.int (iI v)]) := by
      intro v ls hv hl
      subst hQ
      exact W.iret (v := (iI v)) hx hb hr (fun t9 ht9 hW9 => ⟨⟨_, u_13, rfl, (⟨by rw [hv, e9], trivial⟩), by rw [ht9]; exact hP, va_K.moved hW9.alike hK, hD⟩, hS.F ht9⟩) hS.2.2 dM_compareRoot_57
    refine lv_iload hx hb dM_compareRoot_47 (lv_at hl 6 rfl) ?_
    refine xb_if_eq (tgt := 56) hx hb dM_compareRoot_49 (by decide) (fun c_49 => ?_) (fun c_49 => ?_)
    · skip
      refine xi_iconst hx hb dM_compareRoot_56 ?_
      exact cut_57_3 (-1) _ (by unfold cmr2; rw [if_pos c_44, if_neg (by rw [c_49]; decide)]) (lv_sub hl [0, 1, 2, 3, 4, 5, 6, 7, 8] rfl)
    · skip
      refine xi_iconst hx hb dM_compareRoot_52 ?_
      refine lv_goto (tgt := 57) hx hb dM_compareRoot_53 (by decide) ?_
      exact cut_57_3 1 _ (by unfold cmr2; rw [if_pos c_44, if_pos c_49]) (lv_sub hl [0, 1, 2, 3, 4, 5, 6, 7, 8] rfl)
set_option maxHeartbeats 4000000 in
set_option maxRecDepth 100000 in
/-- isLeft -/
theorem m_isLeft (l : Launch) (dC : Nat → ClassId) (dI : Nat → Nat → Nat) (ad : Nat → Nat) (cs : Nat → ClassId) (sz : Nat) (ft : Int) (par : Bool) (np nc rs npc hi lo : Int) (X Y : Int → Int) (O : Int → Bool) (E RX RY : Int → Int) (RO : Int → Bool) (PC : Int → Int) (CV : Int → Bool) (a b k0 : Int) (gr : Bool) (e0 f0 x0 : Int) (h1 : -32768 ≤ a ∧ a ≤ 32768) (h2 : -32768 ≤ b ∧ b ≤ 32768) (h3 : -32768 ≤ k0 ∧ k0 ≤ 32768) (h4 : -32768 ≤ e0 ∧ e0 ≤ 32768) (h5 : -32768 ≤ f0 ∧ f0 ≤ 32768) (h6 : -32768 ≤ x0 ∧ x0 ≤ 32768) : Met l yM_isLeft wM_isLeft ({ frames := 3, cells := 0, slots := 0, locals := 91 }) (va_Pc [.ref (ad 0), .long (lI a), .long (lI b), .long (lI k0), .int (iI (bz gr)), .long (lI e0), .long (lI f0), .long (lI x0)] (fun U => U.heap.size = sz ∧ va_P (dC, dI) vwCl (mW ad cs ft par np nc rs npc hi lo X Y O E RX RY RO PC CV) U.heap ∧ va_K (dC, dI) vwCl (mT cs) U ∧ va_D (fun _ => True) (mW ad cs ft par np nc rs npc hi lo X Y O E RX RY RO PC CV))) (va_Qi (fun (r : Int32) (u : Int × Int) => r = iI (bz (ilf a b k0 gr e0 f0 x0)) ∧ True) (fun (u : Int × Int) t9 => va_P (dC, dI) vwCl (mW ad cs ft par np nc rs npc u.1 u.2 X Y O E RX RY RO PC CV) t9.heap ∧ va_K (dC, dI) vwCl (mT cs) t9 ∧ va_D (va_A (mW ad cs ft par np nc rs npc hi lo X Y O E RX RY RO PC CV) sz) (mW ad cs ft par np nc rs npc u.1 u.2 X Y O E RX RY RO PC CV)) (va_A (mW ad cs ft par np nc rs npc hi lo X Y O E RX RY RO PC CV) sz)) 0 0 (va_A (mW ad cs ft par np nc rs npc hi lo X Y O E RX RY RO PC CV) sz) := by
  refine Met.ofW (cc := cM_isLeft) (maxL := 23) (ret := (some .boolean)) (by decide) rfl ?_
  intro p e s m args below meth c s₁ B hml hv
  obtain ⟨hargs, hsz, hP, hK, hD0⟩ := hv
  have hx := B.exec
  have hb := B.bytes
  have hr := B.returns
  have hts := atoms_spec (ws := wM_isLeft) B.pre
  have hown : s.vm.findClass RM = some m.cls := findClass_of_methodNamed B.named
  have hlocks := B.notSynchronized
  subst hsz
  have hD := hD0.self (sz := s.heap.size)
  generalize hAe : va_A (mW ad cs ft par np nc rs npc hi lo X Y O E RX RY RO PC CV) s.heap.size = A at hD ⊢
  have hA : ∀ q : Nat, s.heap.size ≤ q → A q := fun q h => by rw [← hAe]; exact Or.inr h
  have hS0 : va_S A s.heap s.heap [] := va_S.rf
  refine x_name (fun R Q H locs hR hQ hH hlo => ?_)
  rw [← hH] at hP
  have hS : va_S A s.heap H locs := by rw [hH, hlo]; exact hS0
  refine x_entry hargs (Nat.le_of_ble_eq_true rfl) (fun ls hl => ?_)
  have hl : lv_has ls 23 [(0, .ref (ad 0)), (1, .long (lI a)), (3, .long (lI b)), (5, .long (lI k0)), (7, .int (iI (bz gr))), (8, .long (lI e0)), (10, .long (lI f0)), (12, .long (lI x0))] := hl
  have hP : va_P (dC, dI) vwCl (mW ad cs ft par np nc rs npc hi lo X Y O E RX RY RO PC CV) H := hP
  obtain ⟨sl, hsl⟩ : ∃ z, z = a * f0 - e0 * b := ⟨_, rfl⟩
  obtain ⟨re, hre⟩ : ∃ z, z = a * x0 - e0 * k0 := ⟨_, rfl⟩
  have b1 := mul_bd 32768 32768 (a := a) (b := f0) (by omega) (by omega)
  have b2 := mul_bd 32768 32768 (a := e0) (b := b) (by omega) (by omega)
  have b3 := mul_bd 32768 32768 (a := a) (b := x0) (by omega) (by omega)
  have b4 := mul_bd 32768 32768 (a := e0) (b := k0) (by omega) (by omega)
  have b5 := mul_bd 32768 32768 (a := f0) (b := k0) (by omega) (by omega)
  have b6 := mul_bd 32768 32768 (a := x0) (b := b) (by omega) (by omega)
  have b7 := mul_bd 1073741824 32768 (a := e0 * k0) (b := k0) (by omega) (by omega)
  have b8 := mul_bd 1073741824 32768 (a := f0 * k0) (b := b) (by omega) (by omega)
  have b9 := mul_bd 1073741824 32768 (a := x0 * b) (b := b) (by omega) (by omega)
  refine lv_lload_n hx hb dM_isLeft_0 rfl (lv_at hl 1 rfl) ?_
  refine lv_lconst (v := lI 0) hx hb dM_isLeft_1 (by decide +kernel) ?_
  refine xl_ne (tgt := 41) hx hb dM_isLeft_2 dM_isLeft_3 (by decide) (by omega) (by omega) (fun c_2 => ?_) (fun c_2 => ?_)
  · skip
    refine lv_lload_n hx hb dM_isLeft_41 rfl (lv_at hl 1 rfl) ?_
    refine lv_lload hx hb dM_isLeft_42 (lv_at hl 6 rfl) ?_
    refine xl_mul (z := a * f0) hx hb dM_isLeft_44 rfl ?_
    refine lv_lload hx hb dM_isLeft_45 (lv_at hl 5 rfl) ?_
    refine lv_lload_n hx hb dM_isLeft_47 rfl (lv_at hl 2 rfl) ?_
    refine xl_mul (z := e0 * b) hx hb dM_isLeft_48 rfl ?_
    refine xl_sub (z := sl) hx hb dM_isLeft_49 (hsl.symm) ?_
    refine lv_lstore (lv' := [(14, .long (lI sl)), (0, .ref (ad 0)), (1, .long (lI a)), (3, .long (lI b)), (5, .long (lI k0)), (7, .int (iI (bz gr))), (8, .long (lI e0)), (10, .long (lI f0)), (12, .long (lI x0))]) hx hb dM_isLeft_50 hl (by decide) rfl (fun ls hl => ?_)
    refine lv_lload_n hx hb dM_isLeft_52 rfl (lv_at hl 2 rfl) ?_
    refine lv_lload hx hb dM_isLeft_53 (lv_at hl 8 rfl) ?_
    refine xl_mul (z := a * x0) hx hb dM_isLeft_55 rfl ?_
    refine lv_lload hx hb dM_isLeft_56 (lv_at hl 6 rfl) ?_
    refine lv_lload hx hb dM_isLeft_58 (lv_at hl 4 rfl) ?_
    refine xl_mul (z := e0 * k0) hx hb dM_isLeft_60 rfl ?_
    refine xl_sub (z := re) hx hb dM_isLeft_61 (hre.symm) ?_
    refine lv_lstore (lv' := [(16, .long (lI re)), (14, .long (lI sl)), (0, .ref (ad 0)), (1, .long (lI a)), (3, .long (lI b)), (5, .long (lI k0)), (7, .int (iI (bz gr))), (8, .long (lI e0)), (10, .long (lI f0)), (12, .long (lI x0))]) hx hb dM_isLeft_62 hl (by decide) rfl (fun ls hl => ?_)
    refine lv_lload hx hb dM_isLeft_64 (lv_at hl 0 rfl) ?_
    refine vp_callSi (W.runS (As := [.long (lI re)]) (rest := []) ⟨hx, hb, hml, hown, hts⟩ (m_signOf l dC dI re (by omega)) (va_cwS 1 hts (tb_S mlM_102 smM_signOf iniM coM_signOf) rfl rfl rfl (by decide +kernel) (by subst hR; exact ⟨Nat.le_of_ble_eq_true rfl, Nat.le_of_ble_eq_true rfl⟩)) ⟨fun a9 U9 g9 mk9 q9 => q9, fun U hU hW => ⟨rfl, trivial⟩⟩ rfl rfl hl.1 rfl (lv_room (Nat.le_of_ble_eq_true rfl)) dM_isLeft_66 ⟨by subst hR; exact Nat.zero_le _, by subst hR; exact Nat.zero_le _⟩) (fun r_66 hw_66 => ?_)
    subst hw_66
    refine lv_istore (lv' := [(18, .int (iI (sgn re))), (16, .long (lI re)), (14, .long (lI sl)), (0, .ref (ad 0)), (1, .long (lI a)), (3, .long (lI b)), (5, .long (lI k0)), (7, .int (iI (bz gr))), (8, .long (lI e0)), (10, .long (lI f0)), (12, .long (lI x0))]) hx hb dM_isLeft_69 hl (by decide) rfl (fun ls hl => ?_)
    have cut_134_1 : ∀ (sg : Int) (hi2 : Int) (lo2 : Int) (H : Heap) (locs : List Loc) (ls : Array Slot), (sg = isg a b k0 gr e0 f0 x0) → (-1 ≤ sg ∧ sg ≤ 1) → va_P (dC, dI) vwCl (mW ad cs ft par np nc rs npc hi2 lo2 X Y O E RX RY RO PC CV) H → va_D A (mW ad cs ft par np nc rs npc hi2 lo2 X Y O E RX RY RO PC CV) → va_S A s.heap H locs → lv_has ls 23 [(0, .ref (ad 0)), (1, .long (lI a)), (3, .long (lI b)), (5, .long (lI k0)), (7, .int (iI (bz gr))), (8, .long (lI e0)), (10, .long (lI f0)), (12, .long (lI x0)), (14, .long (lI sl)), (16, .long (lI re)), (18, .int (iI sg))] → W p l e R s m args below meth c H locs 0 0 Q (F0 m 134 ls []) := by
      intro sg hi2 lo2 H locs ls hsg bsg hP hD hS hl
      have cut_149_2 : ∀ (v : Bool) (ls : Array Slot), (v = ilf a b k0 gr e0 f0 x0) → lv_has ls 23 [(0, .ref (ad 0)), (1, .long (lI a)), (3, .long (lI b)), (5, .long (lI k0)), (7, .int (iI (bz gr))), (8, .long (lI e0)), (10, .long (lI f0)), (12, .long (lI x0)), (14, .long (lI sl)), (16, .long (lI re)), (18, .int (iI sg))] → W p l e R s m args below meth c H locs 0 0 Q (F0 m 149 ls [.int (iI (bz v))]) := by
        intro v ls hv hl
        subst hQ
        exact W.zret (v := (iI (bz v))) hx hb hr (xi_narZ2 _) (fun t9 ht9 hW9 => ⟨⟨_, (hi2, lo2), rfl, (⟨by rw [hv], trivial⟩), by rw [ht9]; exact hP, va_K.moved hW9.alike hK, hD⟩, hS.F ht9⟩) hS.2.2 dM_isLeft_149
      refine lv_lload_n hx hb dM_isLeft_134 rfl (lv_at hl 1 rfl) ?_
      refine vp_callSi (W.runS (As := [.long (lI a)]) (rest := []) ⟨hx, hb, hml, hown, hts⟩ (m_signOf l dC dI a (by omega)) (va_cwS 1 hts (tb_S mlM_102 smM_signOf iniM coM_signOf) rfl rfl rfl (by decide +kernel) (by subst hR; exact ⟨Nat.le_of_ble_eq_true rfl, Nat.le_of_ble_eq_true rfl⟩)) ⟨fun a9 U9 g9 mk9 q9 => q9, fun U hU hW => ⟨rfl, trivial⟩⟩ rfl rfl hl.1 rfl (lv_room (Nat.le_of_ble_eq_true rfl)) dM_isLeft_135 ⟨by subst hR; exact Nat.zero_le _, by subst hR; exact Nat.zero_le _⟩) (fun r_135 hw_135 => ?_)
      subst hw_135
      refine lv_iload hx hb dM_isLeft_138 (lv_at hl 10 rfl) ?_
      refine xi_mul (z := (sgn a) * sg) hx hb dM_isLeft_140 rfl ?_
      have b14 := mul_bd 1 1 (a := sgn a) (b := sg) (sgn_bd a) bsg
      refine xi_if_gt (tgt := 148) hx hb dM_isLeft_141 (by decide) (by omega) (fun c_141 => ?_) (fun c_141 => ?_)
      · skip
        refine xi_iconst hx hb dM_isLeft_148 ?_
        exact cut_149_2 false _ (by unfold ilf; rw [if_neg c_2, ← hsg, decide_eq_false (by omega)]) (lv_sub hl [0, 1, 2, 3, 4, 5, 6, 7, 8, 9, 10] rfl)
      · skip
        refine xi_iconst hx hb dM_isLeft_144 ?_
        refine lv_goto (tgt := 149) hx hb dM_isLeft_145 (by decide) ?_
        exact cut_149_2 true _ (by unfold ilf; rw [if_neg c_2, ← hsg, decide_eq_true (by omega)]) (lv_sub hl [0, 1, 2, 3, 4, 5, 6, 7, 8, 9, 10] rfl)
    refine lv_lload hx hb dM_isLeft_71 (lv_at hl 2 rfl) ?_
    refine lv_lconst (v := lI 0) hx hb dM_isLeft_73 (by decide +kernel) ?_
    refine xl_eq (tgt := 134) hx hb dM_isLeft_74 dM_isLeft_75 (by decide) (by omega) (by omega) (fun c_74 => ?_) (fun c_74 => ?_)
    · skip
      exact cut_134_1 (sgn re) hi lo _ _ _ (by unfold isg; rw [← hsl, ← hre, if_pos c_74]) (sgn_bd re) hP hD hS (lv_sub hl [3, 4, 5, 6, 7, 8, 9, 10, 2, 1, 0] rfl)
    · skip
      have cut_93_3 : ∀ (nn : Int) (ls : Array Slot), (nn = if 0 < sl then -re else re) → lv_has ls 23 [(18, .int (iI (sgn re))), (16, .long (lI re)), (14, .long (lI sl)), (0, .ref (ad 0)), (1, .long (lI a)), (3, .long (lI b)), (5, .long (lI k0)), (7, .int (iI (bz gr))), (8, .long (lI e0)), (10, .long (lI f0)), (12, .long (lI x0))] → W p l e R s m args below meth c H locs 0 0 Q (F0 m 93 ls [.long (lI nn)]) := by
        intro nn ls hnn hl
        have b10 : nn = -re ∨ nn = re := by (rcases Int.lt_or_le 0 sl with h | h; (left; rw [hnn, if_pos h]); (right; rw [hnn, if_neg (by omega)]))
        refine lv_lstore (lv' := [(19, .long (lI nn)), (18, .int (iI (sgn re))), (16, .long (lI re)), (14, .long (lI sl)), (0, .ref (ad 0)), (1, .long (lI a)), (3, .long (lI b)), (5, .long (lI k0)), (7, .int (iI (bz gr))), (8, .long (lI e0)), (10, .long (lI f0)), (12, .long (lI x0))]) hx hb dM_isLeft_93 hl (by decide) rfl (fun ls hl => ?_)
        have cut_110_4 : ∀ (dd : Int) (ls : Array Slot), (dd = if 0 < sl then sl else -sl) → lv_has ls 23 [(19, .long (lI nn)), (18, .int (iI (sgn re))), (16, .long (lI re)), (14, .long (lI sl)), (0, .ref (ad 0)), (1, .long (lI a)), (3, .long (lI b)), (5, .long (lI k0)), (7, .int (iI (bz gr))), (8, .long (lI e0)), (10, .long (lI f0)), (12, .long (lI x0))] → W p l e R s m args below meth c H locs 0 0 Q (F0 m 110 ls [.long (lI dd)]) := by
          intro dd ls hdd hl
          have b11 : 0 < dd ∧ dd ≤ 2147483648 := by (rw [hdd]; split <;> omega)
          refine lv_lstore (lv' := [(21, .long (lI dd)), (19, .long (lI nn)), (18, .int (iI (sgn re))), (16, .long (lI re)), (14, .long (lI sl)), (0, .ref (ad 0)), (1, .long (lI a)), (3, .long (lI b)), (5, .long (lI k0)), (7, .int (iI (bz gr))), (8, .long (lI e0)), (10, .long (lI f0)), (12, .long (lI x0))]) hx hb dM_isLeft_110 hl (by decide) rfl (fun ls hl => ?_)
          refine lv_lload hx hb dM_isLeft_112 (lv_at hl 4 rfl) ?_
          refine vp_callSi (W.runS (As := [.long (lI sl)]) (rest := []) ⟨hx, hb, hml, hown, hts⟩ (m_signOf l dC dI sl (by omega)) (va_cwS 1 hts (tb_S mlM_102 smM_signOf iniM coM_signOf) rfl rfl rfl (by decide +kernel) (by subst hR; exact ⟨Nat.le_of_ble_eq_true rfl, Nat.le_of_ble_eq_true rfl⟩)) ⟨fun a9 U9 g9 mk9 q9 => q9, fun U hU hW => ⟨rfl, trivial⟩⟩ rfl rfl hl.1 rfl (lv_room (Nat.le_of_ble_eq_true rfl)) dM_isLeft_114 ⟨by subst hR; exact Nat.zero_le _, by subst hR; exact Nat.zero_le _⟩) (fun r_114 hw_114 => ?_)
          subst hw_114
          refine lv_aload_n hx hb dM_isLeft_117 rfl (lv_at hl 5 rfl) ?_
          refine lv_lload_n hx hb dM_isLeft_118 rfl (lv_at hl 6 rfl) ?_
          refine lv_lload_n hx hb dM_isLeft_119 rfl (lv_at hl 7 rfl) ?_
          refine lv_lload hx hb dM_isLeft_120 (lv_at hl 8 rfl) ?_
          refine lv_iload hx hb dM_isLeft_122 (lv_at hl 9 rfl) ?_
          refine lv_lload hx hb dM_isLeft_124 (lv_at hl 1 rfl) ?_
          refine lv_lload hx hb dM_isLeft_126 (lv_at hl 0 rfl) ?_
          have hFc := xw_free hD hS hA
          refine va_calli (va_runV (As := [.long (lI a), .long (lI b), .long (lI k0), .int (iI (bz gr)), .long (lI nn), .long (lI dd)]) (rest := [.int (iI (sgn sl))]) ⟨hx, hb, hml, hown, hts⟩ (m_compareRoot l dC dI ad cs H.size ft par np nc rs npc hi lo X Y O E RX RY RO PC CV a b k0 gr nn dd h1 h2 h3 (by omega) (by omega)) (cwV 6 hts (tb_V mlM_112 imM_compareRoot seM_compareRoot iniM coM_compareRoot) rfl rfl rfl (by decide +kernel) (by subst hR; exact ⟨Nat.le_of_ble_eq_true rfl, Nat.le_of_ble_eq_true rfl⟩)) ⟨fun a9 U9 g9 mk9 q9 => by obtain ⟨q0, q1, qP, qK, qD⟩ := q9; exact ⟨q0, q1, qP, va_K.moved (u := U9) (U := U9.calling g9 mk9 a9) (Vm.Alike.refl U9.vm) qK, qD⟩, va_recv hK hP (ci := 3) (q0 := 0) rfl rfl, fun U hU hW => ⟨rfl, by rw [hU], by rw [hU]; exact hP, va_K.moved hW.alike hK, hD.weaken (fun _ _ _ _ => trivial)⟩⟩ rfl rfl hl.1 rfl (lv_room (Nat.le_of_ble_eq_true rfl)) dM_isLeft_128 ⟨by subst hR; exact Nat.le_of_ble_eq_true rfl, by subst hR; exact Nat.le_of_ble_eq_true rfl⟩) hS (fun q9 _ h9 => hFc q9 h9) hFc (fun r_128 u_128 t9 H1 locs1 ht9 hvm9 hw_128 hB9 hz9 hk9 hS1 => ?_)
          obtain ⟨hP1, hK1, hD1⟩ := hB9
          rw [ht9] at hP1
          have hP : va_P (dC, dI) vwCl (mW ad cs ft par np nc rs npc u_128.1 u_128.2 X Y O E RX RY RO PC CV) H1 := hP1
          have hD : va_D A (mW ad cs ft par np nc rs npc u_128.1 u_128.2 X Y O E RX RY RO PC CV) := hD1.weaken (fun _ _ _ h9 => hFc _ h9)
          clear hP1 hD1 hK1 hFc
          have hS := hS1
          clear hS1 hz9 hk9 ht9 hvm9
          revert hP hD hS; generalize H1 = H; generalize locs1 = locs; intro hP hD hS
          obtain ⟨hr_128, hw_128⟩ := hw_128; subst hr_128
          have b12 := cmr_bd a b k0 gr nn dd
          have b13 := mul_bd 1 1 (a := sgn sl) (b := cmr a b k0 gr nn dd) (sgn_bd sl) b12
          refine xi_mul (z := (sgn sl) * (cmr a b k0 gr nn dd)) hx hb dM_isLeft_131 rfl ?_
          refine lv_istore (lv' := [(18, .int (iI ((sgn sl) * (cmr a b k0 gr nn dd)))), (21, .long (lI dd)), (19, .long (lI nn)), (16, .long (lI re)), (14, .long (lI sl)), (0, .ref (ad 0)), (1, .long (lI a)), (3, .long (lI b)), (5, .long (lI k0)), (7, .int (iI (bz gr))), (8, .long (lI e0)), (10, .long (lI f0)), (12, .long (lI x0))]) hx hb dM_isLeft_132 hl (by decide) rfl (fun ls hl => ?_)
          exact cut_134_1 ((sgn sl) * (cmr a b k0 gr nn dd)) u_128.1 u_128.2 _ _ _ (by unfold isg; rw [← hsl, ← hre, if_neg c_74, ← hnn, ← hdd]) (by omega) hP hD hS (lv_sub hl [5, 6, 7, 8, 9, 10, 11, 12, 4, 3, 0] rfl)
        refine lv_lload hx hb dM_isLeft_95 (lv_at hl 3 rfl) ?_
        refine lv_lconst (v := lI 0) hx hb dM_isLeft_97 (by decide +kernel) ?_
        refine xl_le (tgt := 107) hx hb dM_isLeft_98 dM_isLeft_99 (by decide) (by omega) (by omega) (fun c_98 => ?_) (fun c_98 => ?_)
        · skip
          refine lv_lload hx hb dM_isLeft_107 (lv_at hl 3 rfl) ?_
          refine xl_neg (z := -sl) hx hb dM_isLeft_109 rfl ?_
          exact cut_110_4 (-sl) _ (by rw [if_neg (by omega)]) (lv_sub hl [0, 1, 2, 3, 4, 5, 6, 7, 8, 9, 10, 11] rfl)
        · skip
          refine lv_lload hx hb dM_isLeft_102 (lv_at hl 3 rfl) ?_
          refine lv_goto (tgt := 110) hx hb dM_isLeft_104 (by decide) ?_
          exact cut_110_4 sl _ (by rw [if_pos (by omega)]) (lv_sub hl [0, 1, 2, 3, 4, 5, 6, 7, 8, 9, 10, 11] rfl)
      refine lv_lload hx hb dM_isLeft_78 (lv_at hl 2 rfl) ?_
      refine lv_lconst (v := lI 0) hx hb dM_isLeft_80 (by decide +kernel) ?_
      refine xl_le (tgt := 91) hx hb dM_isLeft_81 dM_isLeft_82 (by decide) (by omega) (by omega) (fun c_81 => ?_) (fun c_81 => ?_)
      · skip
        refine lv_lload hx hb dM_isLeft_91 (lv_at hl 1 rfl) ?_
        exact cut_93_3 re _ (by rw [if_neg (by omega)]) (lv_sub hl [0, 1, 2, 3, 4, 5, 6, 7, 8, 9, 10] rfl)
      · skip
        refine lv_lload hx hb dM_isLeft_85 (lv_at hl 1 rfl) ?_
        refine xl_neg (z := -re) hx hb dM_isLeft_87 rfl ?_
        refine lv_goto (tgt := 93) hx hb dM_isLeft_88 (by decide) ?_
        exact cut_93_3 (-re) _ (by rw [if_pos (by omega)]) (lv_sub hl [0, 1, 2, 3, 4, 5, 6, 7, 8, 9, 10] rfl)
  · skip
    refine lv_lload hx hb dM_isLeft_6 (lv_at hl 5 rfl) ?_
    refine lv_lload hx hb dM_isLeft_8 (lv_at hl 3 rfl) ?_
    refine xl_mul (z := e0 * k0) hx hb dM_isLeft_10 rfl ?_
    refine lv_lload hx hb dM_isLeft_11 (lv_at hl 3 rfl) ?_
    refine xl_mul (z := (e0 * k0) * k0) hx hb dM_isLeft_13 rfl ?_
    refine lv_lload hx hb dM_isLeft_14 (lv_at hl 6 rfl) ?_
    refine lv_lload hx hb dM_isLeft_16 (lv_at hl 3 rfl) ?_
    refine xl_mul (z := f0 * k0) hx hb dM_isLeft_18 rfl ?_
    refine lv_lload_n hx hb dM_isLeft_19 rfl (lv_at hl 2 rfl) ?_
    refine xl_mul (z := (f0 * k0) * b) hx hb dM_isLeft_20 rfl ?_
    refine xl_sub (z := ((e0 * k0) * k0) - ((f0 * k0) * b)) hx hb dM_isLeft_21 rfl ?_
    refine lv_lload hx hb dM_isLeft_22 (lv_at hl 7 rfl) ?_
    refine lv_lload_n hx hb dM_isLeft_24 rfl (lv_at hl 2 rfl) ?_
    refine xl_mul (z := x0 * b) hx hb dM_isLeft_25 rfl ?_
    refine lv_lload_n hx hb dM_isLeft_26 rfl (lv_at hl 2 rfl) ?_
    refine xl_mul (z := (x0 * b) * b) hx hb dM_isLeft_27 rfl ?_
    refine xl_add (z := (((e0 * k0) * k0) - ((f0 * k0) * b)) + ((x0 * b) * b)) hx hb dM_isLeft_28 rfl ?_
    refine vp_callSi (W.runS (As := [.long (lI ((((e0 * k0) * k0) - ((f0 * k0) * b)) + ((x0 * b) * b)))]) (rest := []) ⟨hx, hb, hml, hown, hts⟩ (m_signOf l dC dI (e0 * k0 * k0 - f0 * k0 * b + x0 * b * b) (by omega)) (va_cwS 1 hts (tb_S mlM_102 smM_signOf iniM coM_signOf) rfl rfl rfl (by decide +kernel) (by subst hR; exact ⟨Nat.le_of_ble_eq_true rfl, Nat.le_of_ble_eq_true rfl⟩)) ⟨fun a9 U9 g9 mk9 q9 => q9, fun U hU hW => ⟨rfl, trivial⟩⟩ rfl rfl hl.1 rfl (lv_room (Nat.le_of_ble_eq_true rfl)) dM_isLeft_29 ⟨by subst hR; exact Nat.zero_le _, by subst hR; exact Nat.zero_le _⟩) (fun r_29 hw_29 => ?_)
    subst hw_29
    have b0 := sgn_bd (e0 * k0 * k0 - f0 * k0 * b + x0 * b * b)
    have cut_40_5 : ∀ (v : Bool) (ls : Array Slot), (v = ilf a b k0 gr e0 f0 x0) → lv_has ls 23 [(0, .ref (ad 0)), (1, .long (lI a)), (3, .long (lI b)), (5, .long (lI k0)), (7, .int (iI (bz gr))), (8, .long (lI e0)), (10, .long (lI f0)), (12, .long (lI x0))] → W p l e R s m args below meth c H locs 0 0 Q (F0 m 40 ls [.int (iI (bz v))]) := by
      intro v ls hv hl
      subst hQ
      exact W.zret (v := (iI (bz v))) hx hb hr (xi_narZ2 _) (fun t9 ht9 hW9 => ⟨⟨_, (hi, lo), rfl, (⟨by rw [hv], trivial⟩), by rw [ht9]; exact hP, va_K.moved hW9.alike hK, hD⟩, hS.F ht9⟩) hS.2.2 dM_isLeft_40
    refine xi_if_gt (tgt := 39) hx hb dM_isLeft_32 (by decide) (by omega) (fun c_32 => ?_) (fun c_32 => ?_)
    · skip
      refine xi_iconst hx hb dM_isLeft_39 ?_
      exact cut_40_5 false _ (by unfold ilf; rw [if_pos c_2, decide_eq_false (by omega)]) (lv_sub hl [0, 1, 2, 3, 4, 5, 6, 7] rfl)
    · skip
      refine xi_iconst hx hb dM_isLeft_35 ?_
      refine lv_goto (tgt := 40) hx hb dM_isLeft_36 (by decide) ?_
      exact cut_40_5 true _ (by unfold ilf; rw [if_pos c_2, decide_eq_true (by omega)]) (lv_sub hl [0, 1, 2, 3, 4, 5, 6, 7] rfl)
end
section
/-! the reference: counts of crossings, windings, pixels -/
def trn (a b : Int) : Bool := if 0 < a then decide (b < 0 ∧ -b < 2 * a) else decide (a < 0 ∧ 0 < b ∧ b < -2 * a)
def byd (a : Int) (fi : Bool) : Bool := if fi = true then decide (0 < a) else decide (a < 0)
def cvc2 (a b c e f g : Int) (fi la : Bool) : Int :=
  if fi = la then (if trn a b = true ∧ byd a fi = true ∧ 0 < b * b - 4 * a * c then (if fi = true then bz (ilf a b c true e f g) - bz (ilf a b c false e f g) else bz (ilf a b c false e f g) - bz (ilf a b c true e f g)) else 0)
  else if ilf a b c (la == decide (0 < a)) e f g = true then (if la = true then 1 else -1) else 0
def cvc (px py qx qy rx ry x y : Int) : Int := cvc2 (py - 2 * qy + ry) (2 * (qy - py)) (py - y) (px - 2 * qx + rx) (2 * (qx - px)) (px - x) (decide (0 < py - y)) (decide (y < ry))
theorem cvc_bd (a b c e f g : Int) (fi la : Bool) : -1 ≤ cvc2 a b c e f g fi la ∧ cvc2 a b c e f g fi la ≤ 1 := by
  have h1 := bz_in (ilf a b c true e f g)
  have h2 := bz_in (ilf a b c false e f g)
  unfold cvc2
  repeat' split
  all_goals omega
theorem lnc_bd (px py rx ry x y : Int) : -1 ≤ lnc px py rx ry x y ∧ lnc px py rx ry x y ≤ 1 := by
  unfold lnc
  repeat' split
  all_goals omega
/-- what piece k of the reference's table counts for a point -/
def pcc (PC : Int → Int) (CV : Int → Bool) (x y k : Int) : Int := if CV k = true then cvc (PC (6 * k)) (PC (6 * k + 1)) (PC (6 * k + 2)) (PC (6 * k + 3)) (PC (6 * k + 4)) (PC (6 * k + 5)) x y else lnc (PC (6 * k)) (PC (6 * k + 1)) (PC (6 * k + 4)) (PC (6 * k + 5)) x y
theorem pcc_bd (PC : Int → Int) (CV : Int → Bool) (x y k : Int) : -1 ≤ pcc PC CV x y k ∧ pcc PC CV x y k ≤ 1 := by
  unfold pcc
  split
  · exact cvc_bd _ _ _ _ _ _ _ _
  · exact lnc_bd _ _ _ _ _ _
/-- a sum over 0 .. n - 1 -/
def isum (h : Int → Int) : Nat → Int | 0 => 0 | n + 1 => isum h n + h (n : Int)
theorem isum_bd {h : Int → Int} (hh : ∀ k, -1 ≤ h k ∧ h k ≤ 1) (n : Nat) : -(n : Int) ≤ isum h n ∧ isum h n ≤ (n : Int) := by
  induction n with
  | zero => show -((0 : Nat) : Int) ≤ 0 ∧ (0 : Int) ≤ ((0 : Nat) : Int); omega
  | succ n ih =>
    have h1 := hh (n : Int)
    show -((n + 1 : Nat) : Int) ≤ isum h n + h (n : Int) ∧ isum h n + h (n : Int) ≤ ((n + 1 : Nat) : Int)
    omega
theorem isum_s (h : Int → Int) {z : Int} (hz : 0 ≤ z) : isum h (z + 1).toNat = isum h z.toNat + h z := by
  have h1 : (z + 1).toNat = z.toNat + 1 := by omega
  rw [h1]
  show isum h z.toNat + h ((z.toNat : Nat) : Int) = _
  rw [Int.toNat_of_nonneg hz]
/-- all coordinates of the reference's table are in their range -/
def pcOk (PC : Int → Int) (n : Int) : Prop := ∀ k : Int, 0 ≤ k → k < 6 * n → -8192 ≤ PC k ∧ PC k ≤ 8191
def wnd (PC : Int → Int) (CV : Int → Bool) (n x y : Int) : Int := isum (pcc PC CV x y) n.toNat
theorem wnd_bd (PC : Int → Int) (CV : Int → Bool) {n : Int} (x y : Int) (hn : 0 ≤ n ∧ n ≤ 512) : -512 ≤ wnd PC CV n x y ∧ wnd PC CV n x y ≤ 512 := by
  have h := isum_bd (h := pcc PC CV x y) (fun k => pcc_bd _ _ _ _ k) n.toNat
  unfold wnd
  omega
theorem rem2 {w : Int} (hw : -2147483648 ≤ w ∧ w ≤ 2147483647) : ∃ z : Int, iI w - iI w / iI 2 * iI 2 = iI z ∧ (-1 ≤ z ∧ z ≤ 1) ∧ (z = 0 ↔ w % 2 = 0) := by
  refine ⟨w - w.tdiv 2 * 2, by rw [iI_tdiv hw (by omega), iI_mul, iI_sub], ?_⟩
  rcases Int.lt_or_le w 0 with h | h
  · obtain ⟨c, rfl⟩ : ∃ c, w = -c := ⟨-w, by omega⟩
    rw [Int.neg_tdiv, Int.tdiv_eq_ediv_of_nonneg (by omega)]
    omega
  · rw [Int.tdiv_eq_ediv_of_nonneg h]
    omega

set_option maxHeartbeats 4000000 in
set_option maxRecDepth 100000 in
/-- lineCount -/
theorem m_lineCount (l : Launch) (dC : Nat → ClassId) (dI : Nat → Nat → Nat) (ad : Nat → Nat) (cs : Nat → ClassId) (ft : Int) (par : Bool) (np nc rs npc hi lo : Int) (X Y : Int → Int) (O : Int → Bool) (E RX RY : Int → Int) (RO : Int → Bool) (PC : Int → Int) (CV : Int → Bool) (a0 x y px py qx qy rx ry : Int) (e1 : PC a0 = px) (e2 : PC (a0 + 1) = py) (e3 : PC (a0 + 2) = qx) (e4 : PC (a0 + 3) = qy) (e5 : PC (a0 + 4) = rx) (e6 : PC (a0 + 5) = ry) (h1 : -8192 ≤ px ∧ px ≤ 8191) (h2 : -8192 ≤ py ∧ py ≤ 8191) (h3 : -8192 ≤ qx ∧ qx ≤ 8191) (h4 : -8192 ≤ qy ∧ qy ≤ 8191) (h5 : -8192 ≤ rx ∧ rx ≤ 8191) (h6 : -8192 ≤ ry ∧ ry ≤ 8191) (hx0 : -16384 ≤ x ∧ x ≤ 16384) (hy0 : -16384 ≤ y ∧ y ≤ 16384) (ha0 : 0 ≤ a0 ∧ a0 ≤ 3066) : Met l yM_lineCount wM_lineCount ({ frames := 1, cells := 0, slots := 0, locals := 21 }) (va_Pc [.ref (ad 0), .int (iI a0), .int (iI x), .int (iI y)] (fun U => va_P (dC, dI) vwCl (mW ad cs ft par np nc rs npc hi lo X Y O E RX RY RO PC CV) U.heap ∧ va_K (dC, dI) vwCl (mT cs) U)) (vp_Si (fun r => r = iI (lnc px py rx ry x y))) 0 0 (fun _ => False) := by
  refine Met.ofW (cc := cM_lineCount) (maxL := 15) (ret := (some .int)) (by decide) rfl ?_
  intro p e s m args below meth c s₁ B hml hv
  obtain ⟨hargs, hP, hK⟩ := hv
  have hx := B.exec
  have hb := B.bytes
  have hr := B.returns
  have hts := atoms_spec (ws := wM_lineCount) B.pre
  have hown : s.vm.findClass RM = some m.cls := findClass_of_methodNamed B.named
  have hlocks := B.notSynchronized
  refine x_name (fun R Q H locs hR hQ hH hlo => ?_)
  rw [← hH] at hP
  refine x_entry hargs (Nat.le_of_ble_eq_true rfl) (fun ls hl => ?_)
  have hl : lv_has ls 15 [(0, .ref (ad 0)), (1, .int (iI a0)), (2, .int (iI x)), (3, .int (iI y))] := hl
  have hP : va_P (dC, dI) vwCl (mW ad cs ft par np nc rs npc hi lo X Y O E RX RY RO PC CV) H := hP
  have b1 := mul_bd 16384 32768 (a := rx - px) (b := y - py) (by omega) (by omega)
  have b2 := mul_bd 32768 16384 (a := x - px) (b := ry - py) (by omega) (by omega)
  have b3 := sgn_mul_bd ((rx - px) * (y - py) - (x - px) * (ry - py)) (ry - py)
  obtain ⟨sg, hsg⟩ : ∃ z, z = sgn ((rx - px) * (y - py) - (x - px) * (ry - py)) * sgn (ry - py) := ⟨_, rfl⟩
  rw [← hsg] at b3
  refine lv_aload_n hx hb dM_lineCount_0 rfl (lv_at hl 0 rfl) ?_
  refine va_get (D := (dC, dI)) (ci := 3) (v := .ref (ad 8)) (C := RM) (T := TM) (N := 17) hx hb hts (fun w9 h9 => List.mem_cons_of_mem _ (inM w9 h9)) hown hK hP 0 rfl rfl 13 (by decide) (hts _ (List.mem_cons_of_mem _ flM_32)) (fun _ h9 => h9) rfl dM_lineCount_1 ?_
  refine lv_iload_n hx hb dM_lineCount_4 rfl (lv_at hl 1 rfl) ?_
  refine xa_iald hx hb hK hP 8 7 rfl rfl (by decide) (by omega) dM_lineCount_5 ?_
  refine xi_top (y := .int (iI px)) (by rw [e1]) ?_
  refine xl_i2l hx hb dM_lineCount_6 (by omega) ?_
  refine lv_lstore (lv' := [(4, .long (lI px)), (0, .ref (ad 0)), (1, .int (iI a0)), (2, .int (iI x)), (3, .int (iI y))]) hx hb dM_lineCount_7 hl (by decide) rfl (fun ls hl => ?_)
  refine lv_aload_n hx hb dM_lineCount_9 rfl (lv_at hl 1 rfl) ?_
  refine va_get (D := (dC, dI)) (ci := 3) (v := .ref (ad 8)) (C := RM) (T := TM) (N := 17) hx hb hts (fun w9 h9 => List.mem_cons_of_mem _ (inM w9 h9)) hown hK hP 0 rfl rfl 13 (by decide) (hts _ (List.mem_cons_of_mem _ flM_32)) (fun _ h9 => h9) rfl dM_lineCount_10 ?_
  refine lv_iload_n hx hb dM_lineCount_13 rfl (lv_at hl 2 rfl) ?_
  refine xi_iconst hx hb dM_lineCount_14 ?_
  refine xi_add (z := a0 + 1) hx hb dM_lineCount_15 rfl ?_
  refine xa_iald hx hb hK hP 8 7 rfl rfl (by decide) (by omega) dM_lineCount_16 ?_
  refine xi_top (y := .int (iI py)) (by rw [e2]) ?_
  refine xl_i2l hx hb dM_lineCount_17 (by omega) ?_
  refine lv_lstore (lv' := [(6, .long (lI py)), (4, .long (lI px)), (0, .ref (ad 0)), (1, .int (iI a0)), (2, .int (iI x)), (3, .int (iI y))]) hx hb dM_lineCount_18 hl (by decide) rfl (fun ls hl => ?_)
  refine lv_aload_n hx hb dM_lineCount_20 rfl (lv_at hl 2 rfl) ?_
  refine va_get (D := (dC, dI)) (ci := 3) (v := .ref (ad 8)) (C := RM) (T := TM) (N := 17) hx hb hts (fun w9 h9 => List.mem_cons_of_mem _ (inM w9 h9)) hown hK hP 0 rfl rfl 13 (by decide) (hts _ (List.mem_cons_of_mem _ flM_32)) (fun _ h9 => h9) rfl dM_lineCount_21 ?_
  refine lv_iload_n hx hb dM_lineCount_24 rfl (lv_at hl 3 rfl) ?_
  refine xi_iconst hx hb dM_lineCount_25 ?_
  refine xi_add (z := a0 + 4) hx hb dM_lineCount_26 rfl ?_
  refine xa_iald hx hb hK hP 8 7 rfl rfl (by decide) (by omega) dM_lineCount_27 ?_
  refine xi_top (y := .int (iI rx)) (by rw [e5]) ?_
  refine xl_i2l hx hb dM_lineCount_28 (by omega) ?_
  refine lv_lstore (lv' := [(8, .long (lI rx)), (6, .long (lI py)), (4, .long (lI px)), (0, .ref (ad 0)), (1, .int (iI a0)), (2, .int (iI x)), (3, .int (iI y))]) hx hb dM_lineCount_29 hl (by decide) rfl (fun ls hl => ?_)
  refine lv_aload_n hx hb dM_lineCount_31 rfl (lv_at hl 3 rfl) ?_
  refine va_get (D := (dC, dI)) (ci := 3) (v := .ref (ad 8)) (C := RM) (T := TM) (N := 17) hx hb hts (fun w9 h9 => List.mem_cons_of_mem _ (inM w9 h9)) hown hK hP 0 rfl rfl 13 (by decide) (hts _ (List.mem_cons_of_mem _ flM_32)) (fun _ h9 => h9) rfl dM_lineCount_32 ?_
  refine lv_iload_n hx hb dM_lineCount_35 rfl (lv_at hl 4 rfl) ?_
  refine xi_iconst hx hb dM_lineCount_36 ?_
  refine xi_add (z := a0 + 5) hx hb dM_lineCount_37 rfl ?_
  refine xa_iald hx hb hK hP 8 7 rfl rfl (by decide) (by omega) dM_lineCount_38 ?_
  refine xi_top (y := .int (iI ry)) (by rw [e6]) ?_
  refine xl_i2l hx hb dM_lineCount_39 (by omega) ?_
  refine lv_lstore (lv' := [(10, .long (lI ry)), (8, .long (lI rx)), (6, .long (lI py)), (4, .long (lI px)), (0, .ref (ad 0)), (1, .int (iI a0)), (2, .int (iI x)), (3, .int (iI y))]) hx hb dM_lineCount_40 hl (by decide) rfl (fun ls hl => ?_)
  have cut_55_1 : ∀ (v1 : Bool) (ls : Array Slot), (v1 = decide (y < py)) → lv_has ls 15 [(10, .long (lI ry)), (8, .long (lI rx)), (6, .long (lI py)), (4, .long (lI px)), (0, .ref (ad 0)), (1, .int (iI a0)), (2, .int (iI x)), (3, .int (iI y))] → W p l e R s m args below meth c H locs 0 0 Q (F0 m 55 ls [.int (iI (bz v1))]) := by
    intro v1 ls hv1 hl
    refine lv_istore (lv' := [(12, .int (iI (bz v1))), (10, .long (lI ry)), (8, .long (lI rx)), (6, .long (lI py)), (4, .long (lI px)), (0, .ref (ad 0)), (1, .int (iI a0)), (2, .int (iI x)), (3, .int (iI y))]) hx hb dM_lineCount_55 hl (by decide) rfl (fun ls hl => ?_)
    have cut_70_2 : ∀ (v2 : Bool) (ls : Array Slot), (v2 = decide (y < ry)) → lv_has ls 15 [(12, .int (iI (bz v1))), (10, .long (lI ry)), (8, .long (lI rx)), (6, .long (lI py)), (4, .long (lI px)), (0, .ref (ad 0)), (1, .int (iI a0)), (2, .int (iI x)), (3, .int (iI y))] → W p l e R s m args below meth c H locs 0 0 Q (F0 m 70 ls [.int (iI (bz v2))]) := by
      intro v2 ls hv2 hl
      refine lv_istore (lv' := [(13, .int (iI (bz v2))), (12, .int (iI (bz v1))), (10, .long (lI ry)), (8, .long (lI rx)), (6, .long (lI py)), (4, .long (lI px)), (0, .ref (ad 0)), (1, .int (iI a0)), (2, .int (iI x)), (3, .int (iI y))]) hx hb dM_lineCount_70 hl (by decide) rfl (fun ls hl => ?_)
      refine lv_iload hx hb dM_lineCount_72 (lv_at hl 1 rfl) ?_
      refine lv_iload hx hb dM_lineCount_74 (lv_at hl 0 rfl) ?_
      refine xb_icmp_ne (tgt := 81) hx hb dM_lineCount_76 (by decide) (fun c_76 => ?_) (fun c_76 => ?_)
      · skip
        have cut_137_3 : ∀ (v : Int) (ls : Array Slot), (v = lnc px py rx ry x y) → lv_has ls 15 [(13, .int (iI (bz v2))), (12, .int (iI (bz v1))), (10, .long (lI ry)), (8, .long (lI rx)), (6, .long (lI py)), (4, .long (lI px)), (0, .ref (ad 0)), (1, .int (iI a0)), (2, .int (iI x)), (3, .int (iI y))] → W p l e R s m args below meth c H locs 0 0 Q (F0 m 137 ls [.int (iI v)]) := by
          intro v ls hv hl
          subst hQ
          exact W.iret (v := (iI v)) hx hb hr (fun t9 ht9 hW9 => ⟨_, rfl, (by rw [hv]), ht9.trans hH⟩) (by rw [hlo]; intro q9 h9; cases h9) dM_lineCount_137
        refine lv_lload hx hb dM_lineCount_81 (lv_at hl 3 rfl) ?_
        refine lv_lload hx hb dM_lineCount_83 (lv_at hl 5 rfl) ?_
        refine xl_sub (z := rx - px) hx hb dM_lineCount_85 rfl ?_
        refine lv_iload_n hx hb dM_lineCount_86 rfl (lv_at hl 9 rfl) ?_
        refine xl_i2l hx hb dM_lineCount_87 (by omega) ?_
        refine lv_lload hx hb dM_lineCount_88 (lv_at hl 4 rfl) ?_
        refine xl_sub (z := y - py) hx hb dM_lineCount_90 rfl ?_
        refine xl_mul (z := (rx - px) * (y - py)) hx hb dM_lineCount_91 rfl ?_
        refine lv_iload_n hx hb dM_lineCount_92 rfl (lv_at hl 8 rfl) ?_
        refine xl_i2l hx hb dM_lineCount_93 (by omega) ?_
        refine lv_lload hx hb dM_lineCount_94 (lv_at hl 5 rfl) ?_
        refine xl_sub (z := x - px) hx hb dM_lineCount_96 rfl ?_
        refine lv_lload hx hb dM_lineCount_97 (lv_at hl 2 rfl) ?_
        refine lv_lload hx hb dM_lineCount_99 (lv_at hl 4 rfl) ?_
        refine xl_sub (z := ry - py) hx hb dM_lineCount_101 rfl ?_
        refine xl_mul (z := (x - px) * (ry - py)) hx hb dM_lineCount_102 rfl ?_
        refine xl_sub (z := ((rx - px) * (y - py)) - ((x - px) * (ry - py))) hx hb dM_lineCount_103 rfl ?_
        refine vp_callSi (W.runS (As := [.long (lI (((rx - px) * (y - py)) - ((x - px) * (ry - py))))]) (rest := []) ⟨hx, hb, hml, hown, hts⟩ (m_signOf l dC dI ((rx - px) * (y - py) - (x - px) * (ry - py)) (by omega)) (va_cwS 1 hts (tb_S mlM_102 smM_signOf iniM coM_signOf) rfl rfl rfl (by decide +kernel) (by subst hR; exact ⟨Nat.le_of_ble_eq_true rfl, Nat.le_of_ble_eq_true rfl⟩)) ⟨fun a9 U9 g9 mk9 q9 => q9, fun U hU hW => ⟨rfl, trivial⟩⟩ rfl rfl hl.1 rfl (lv_room (Nat.le_of_ble_eq_true rfl)) dM_lineCount_104 ⟨by subst hR; exact Nat.zero_le _, by subst hR; exact Nat.zero_le _⟩) (fun r_104 hw_104 => ?_)
        subst hw_104
        refine lv_lload hx hb dM_lineCount_107 (lv_at hl 2 rfl) ?_
        refine lv_lload hx hb dM_lineCount_109 (lv_at hl 4 rfl) ?_
        refine xl_sub (z := ry - py) hx hb dM_lineCount_111 rfl ?_
        refine vp_callSi (W.runS (As := [.long (lI (ry - py))]) (rest := [.int (iI (sgn ((rx - px) * (y - py) - (x - px) * (ry - py))))]) ⟨hx, hb, hml, hown, hts⟩ (m_signOf l dC dI (ry - py) (by omega)) (va_cwS 1 hts (tb_S mlM_102 smM_signOf iniM coM_signOf) rfl rfl rfl (by decide +kernel) (by subst hR; exact ⟨Nat.le_of_ble_eq_true rfl, Nat.le_of_ble_eq_true rfl⟩)) ⟨fun a9 U9 g9 mk9 q9 => q9, fun U hU hW => ⟨rfl, trivial⟩⟩ rfl rfl hl.1 rfl (lv_room (Nat.le_of_ble_eq_true rfl)) dM_lineCount_112 ⟨by subst hR; exact Nat.zero_le _, by subst hR; exact Nat.zero_le _⟩) (fun r_112 hw_112 => ?_)
        subst hw_112
        refine xi_mul (z := sg) hx hb dM_lineCount_115 (hsg.symm) ?_
        refine lv_istore (lv' := [(14, .int (iI sg)), (13, .int (iI (bz v2))), (12, .int (iI (bz v1))), (10, .long (lI ry)), (8, .long (lI rx)), (6, .long (lI py)), (4, .long (lI px)), (0, .ref (ad 0)), (1, .int (iI a0)), (2, .int (iI x)), (3, .int (iI y))]) hx hb dM_lineCount_116 hl (by decide) rfl (fun ls hl => ?_)
        refine lv_iload hx hb dM_lineCount_118 (lv_at hl 0 rfl) ?_
        refine xi_if_le (tgt := 127) hx hb dM_lineCount_120 (by decide) (by omega) (fun c_120 => ?_) (fun c_120 => ?_)
        · skip
          refine lv_iload hx hb dM_lineCount_127 (lv_at hl 1 rfl) ?_
          refine xb_if_eq (tgt := 136) hx hb dM_lineCount_129 (by decide) (fun c_129 => ?_) (fun c_129 => ?_)
          · skip
            refine xi_iconst hx hb dM_lineCount_136 ?_
            exact cut_137_3 (-1) _ (by unfold lnc; rw [if_neg (by rw [← hv1, ← hv2]; exact c_76), ← hsg, if_neg (by omega), if_neg (by rw [hv2] at c_129; exact of_decide_eq_false c_129)]) (lv_sub hl [1, 2, 3, 4, 5, 6, 7, 8, 9, 10] rfl)
          · skip
            refine xi_iconst hx hb dM_lineCount_132 ?_
            refine lv_goto (tgt := 137) hx hb dM_lineCount_133 (by decide) ?_
            exact cut_137_3 1 _ (by unfold lnc; rw [if_neg (by rw [← hv1, ← hv2]; exact c_76), ← hsg, if_neg (by omega), if_pos (by rw [hv2] at c_129; exact of_decide_eq_true c_129)]) (lv_sub hl [1, 2, 3, 4, 5, 6, 7, 8, 9, 10] rfl)
        · skip
          refine xi_iconst hx hb dM_lineCount_123 ?_
          refine lv_goto (tgt := 137) hx hb dM_lineCount_124 (by decide) ?_
          exact cut_137_3 0 _ (by unfold lnc; rw [if_neg (by rw [← hv1, ← hv2]; exact c_76), ← hsg, if_pos (by omega)]) (lv_sub hl [1, 2, 3, 4, 5, 6, 7, 8, 9, 10] rfl)
      · skip
        refine xi_iconst hx hb dM_lineCount_79 ?_
        subst hQ
        exact W.iret (v := (iI 0)) hx hb hr (fun t9 ht9 hW9 => ⟨_, rfl, (by unfold lnc; rw [if_pos (by rw [← hv1, ← hv2]; exact c_76)]), ht9.trans hH⟩) (by rw [hlo]; intro q9 h9; cases h9) dM_lineCount_80
    refine lv_lload hx hb dM_lineCount_57 (lv_at hl 1 rfl) ?_
    refine lv_iload_n hx hb dM_lineCount_59 rfl (lv_at hl 8 rfl) ?_
    refine xl_i2l hx hb dM_lineCount_60 (by omega) ?_
    refine xl_le (tgt := 69) hx hb dM_lineCount_61 dM_lineCount_62 (by decide) (by omega) (by omega) (fun c_61 => ?_) (fun c_61 => ?_)
    · skip
      refine xi_iconst hx hb dM_lineCount_69 ?_
      exact cut_70_2 false _ (dec_f (by omega)) (lv_sub hl [0, 1, 2, 3, 4, 5, 6, 7, 8] rfl)
    · skip
      refine xi_iconst hx hb dM_lineCount_65 ?_
      refine lv_goto (tgt := 70) hx hb dM_lineCount_66 (by decide) ?_
      exact cut_70_2 true _ (dec_t (by omega)) (lv_sub hl [0, 1, 2, 3, 4, 5, 6, 7, 8] rfl)
  refine lv_lload hx hb dM_lineCount_42 (lv_at hl 2 rfl) ?_
  refine lv_iload_n hx hb dM_lineCount_44 rfl (lv_at hl 7 rfl) ?_
  refine xl_i2l hx hb dM_lineCount_45 (by omega) ?_
  refine xl_le (tgt := 54) hx hb dM_lineCount_46 dM_lineCount_47 (by decide) (by omega) (by omega) (fun c_46 => ?_) (fun c_46 => ?_)
  · skip
    refine xi_iconst hx hb dM_lineCount_54 ?_
    exact cut_55_1 false _ (dec_f (by omega)) (lv_sub hl [0, 1, 2, 3, 4, 5, 6, 7] rfl)
  · skip
    refine xi_iconst hx hb dM_lineCount_50 ?_
    refine lv_goto (tgt := 55) hx hb dM_lineCount_51 (by decide) ?_
    exact cut_55_1 true _ (dec_t (by omega)) (lv_sub hl [0, 1, 2, 3, 4, 5, 6, 7] rfl)
set_option maxHeartbeats 4000000 in
set_option maxRecDepth 100000 in
/-- curveCount -/
theorem m_curveCount (l : Launch) (dC : Nat → ClassId) (dI : Nat → Nat → Nat) (ad : Nat → Nat) (cs : Nat → ClassId) (sz : Nat) (ft : Int) (par : Bool) (np nc rs npc hi lo : Int) (X Y : Int → Int) (O : Int → Bool) (E RX RY : Int → Int) (RO : Int → Bool) (PC : Int → Int) (CV : Int → Bool) (a0 x y px py qx qy rx ry : Int) (e1 : PC a0 = px) (e2 : PC (a0 + 1) = py) (e3 : PC (a0 + 2) = qx) (e4 : PC (a0 + 3) = qy) (e5 : PC (a0 + 4) = rx) (e6 : PC (a0 + 5) = ry) (h1 : -8192 ≤ px ∧ px ≤ 8191) (h2 : -8192 ≤ py ∧ py ≤ 8191) (h3 : -8192 ≤ qx ∧ qx ≤ 8191) (h4 : -8192 ≤ qy ∧ qy ≤ 8191) (h5 : -8192 ≤ rx ∧ rx ≤ 8191) (h6 : -8192 ≤ ry ∧ ry ≤ 8191) (hx0 : -16384 ≤ x ∧ x ≤ 16384) (hy0 : -16384 ≤ y ∧ y ≤ 16384) (ha0 : 0 ≤ a0 ∧ a0 ≤ 3066) : Met l yM_curveCount wM_curveCount ({ frames := 4, cells := 0, slots := 0, locals := 133 }) (va_Pc [.ref (ad 0), .int (iI a0), .int (iI x), .int (iI y)] (fun U => U.heap.size = sz ∧ va_P (dC, dI) vwCl (mW ad cs ft par np nc rs npc hi lo X Y O E RX RY RO PC CV) U.heap ∧ va_K (dC, dI) vwCl (mT cs) U ∧ va_D (fun _ => True) (mW ad cs ft par np nc rs npc hi lo X Y O E RX RY RO PC CV))) (va_Qi (fun (r : Int32) (u : Int × Int) => r = iI (cvc px py qx qy rx ry x y) ∧ True) (fun (u : Int × Int) t9 => va_P (dC, dI) vwCl (mW ad cs ft par np nc rs npc u.1 u.2 X Y O E RX RY RO PC CV) t9.heap ∧ va_K (dC, dI) vwCl (mT cs) t9 ∧ va_D (va_A (mW ad cs ft par np nc rs npc hi lo X Y O E RX RY RO PC CV) sz) (mW ad cs ft par np nc rs npc u.1 u.2 X Y O E RX RY RO PC CV)) (va_A (mW ad cs ft par np nc rs npc hi lo X Y O E RX RY RO PC CV) sz)) 0 0 (va_A (mW ad cs ft par np nc rs npc hi lo X Y O E RX RY RO PC CV) sz) := by
  refine Met.ofW (cc := cM_curveCount) (maxL := 22) (ret := (some .int)) (by decide) rfl ?_
  intro p e s m args below meth c s₁ B hml hv
  obtain ⟨hargs, hsz, hP, hK, hD0⟩ := hv
  have hx := B.exec
  have hb := B.bytes
  have hr := B.returns
  have hts := atoms_spec (ws := wM_curveCount) B.pre
  have hown : s.vm.findClass RM = some m.cls := findClass_of_methodNamed B.named
  have hlocks := B.notSynchronized
  subst hsz
  have hD := hD0.self (sz := s.heap.size)
  generalize hAe : va_A (mW ad cs ft par np nc rs npc hi lo X Y O E RX RY RO PC CV) s.heap.size = A at hD ⊢
  have hA : ∀ q : Nat, s.heap.size ≤ q → A q := fun q h => by rw [← hAe]; exact Or.inr h
  have hS0 : va_S A s.heap s.heap [] := va_S.rf
  refine x_name (fun R Q H locs hR hQ hH hlo => ?_)
  rw [← hH] at hP
  have hS : va_S A s.heap H locs := by rw [hH, hlo]; exact hS0
  refine x_entry hargs (Nat.le_of_ble_eq_true rfl) (fun ls hl => ?_)
  have hl : lv_has ls 22 [(0, .ref (ad 0)), (1, .int (iI a0)), (2, .int (iI x)), (3, .int (iI y))] := hl
  have hP : va_P (dC, dI) vwCl (mW ad cs ft par np nc rs npc hi lo X Y O E RX RY RO PC CV) H := hP
  obtain ⟨aa, haa⟩ : ∃ z, z = py - 2 * qy + ry := ⟨_, rfl⟩
  obtain ⟨bb, hbb⟩ : ∃ z, z = 2 * (qy - py) := ⟨_, rfl⟩
  obtain ⟨k0, hk0⟩ : ∃ z, z = py - y := ⟨_, rfl⟩
  obtain ⟨e0, he0⟩ : ∃ z, z = px - 2 * qx + rx := ⟨_, rfl⟩
  obtain ⟨f0, hf0⟩ : ∃ z, z = 2 * (qx - px) := ⟨_, rfl⟩
  obtain ⟨g0, hg0⟩ : ∃ z, z = px - x := ⟨_, rfl⟩
  have e9 : cvc px py qx qy rx ry x y = cvc2 aa bb k0 e0 f0 g0 (decide (0 < k0)) (decide (y < ry)) := by unfold cvc; rw [haa, hbb, hk0, he0, hf0, hg0]
  have b1 := mul_bd 32768 32768 (a := bb) (b := bb) (by omega) (by omega)
  have b2 := mul_bd 131072 32768 (a := 4 * aa) (b := k0) (by omega) (by omega)
  refine lv_aload_n hx hb dM_curveCount_0 rfl (lv_at hl 0 rfl) ?_
  refine va_get (D := (dC, dI)) (ci := 3) (v := .ref (ad 8)) (C := RM) (T := TM) (N := 17) hx hb hts (fun w9 h9 => List.mem_cons_of_mem _ (inM w9 h9)) hown hK hP 0 rfl rfl 13 (by decide) (hts _ (List.mem_cons_of_mem _ flM_32)) (fun _ h9 => h9) rfl dM_curveCount_1 ?_
  refine lv_iload_n hx hb dM_curveCount_4 rfl (lv_at hl 1 rfl) ?_
  refine xi_iconst hx hb dM_curveCount_5 ?_
  refine xi_add (z := a0 + 1) hx hb dM_curveCount_6 rfl ?_
  refine xa_iald hx hb hK hP 8 7 rfl rfl (by decide) (by omega) dM_curveCount_7 ?_
  refine xi_top (y := .int (iI py)) (by rw [e2]) ?_
  refine xl_i2l hx hb dM_curveCount_8 (by omega) ?_
  refine lv_ldc2 (v := 2) hx hb hown (hts _ (List.mem_cons_of_mem _ klM_110)) dM_curveCount_9 ?_
  refine xi_top (y := .long (lI 2)) (by decide +kernel) ?_
  refine lv_aload_n hx hb dM_curveCount_12 rfl (lv_at hl 0 rfl) ?_
  refine va_get (D := (dC, dI)) (ci := 3) (v := .ref (ad 8)) (C := RM) (T := TM) (N := 17) hx hb hts (fun w9 h9 => List.mem_cons_of_mem _ (inM w9 h9)) hown hK hP 0 rfl rfl 13 (by decide) (hts _ (List.mem_cons_of_mem _ flM_32)) (fun _ h9 => h9) rfl dM_curveCount_13 ?_
  refine lv_iload_n hx hb dM_curveCount_16 rfl (lv_at hl 1 rfl) ?_
  refine xi_iconst hx hb dM_curveCount_17 ?_
  refine xi_add (z := a0 + 3) hx hb dM_curveCount_18 rfl ?_
  refine xa_iald hx hb hK hP 8 7 rfl rfl (by decide) (by omega) dM_curveCount_19 ?_
  refine xi_top (y := .int (iI qy)) (by rw [e4]) ?_
  refine xl_i2l hx hb dM_curveCount_20 (by omega) ?_
  refine xl_mul (z := 2 * qy) hx hb dM_curveCount_21 rfl ?_
  refine xl_sub (z := py - (2 * qy)) hx hb dM_curveCount_22 rfl ?_
  refine lv_aload_n hx hb dM_curveCount_23 rfl (lv_at hl 0 rfl) ?_
  refine va_get (D := (dC, dI)) (ci := 3) (v := .ref (ad 8)) (C := RM) (T := TM) (N := 17) hx hb hts (fun w9 h9 => List.mem_cons_of_mem _ (inM w9 h9)) hown hK hP 0 rfl rfl 13 (by decide) (hts _ (List.mem_cons_of_mem _ flM_32)) (fun _ h9 => h9) rfl dM_curveCount_24 ?_
  refine lv_iload_n hx hb dM_curveCount_27 rfl (lv_at hl 1 rfl) ?_
  refine xi_iconst hx hb dM_curveCount_28 ?_
  refine xi_add (z := a0 + 5) hx hb dM_curveCount_29 rfl ?_
  refine xa_iald hx hb hK hP 8 7 rfl rfl (by decide) (by omega) dM_curveCount_30 ?_
  refine xi_top (y := .int (iI ry)) (by rw [e6]) ?_
  refine xl_i2l hx hb dM_curveCount_31 (by omega) ?_
  refine xl_add (z := aa) hx hb dM_curveCount_32 (haa.symm) ?_
  refine lv_lstore (lv' := [(4, .long (lI aa)), (0, .ref (ad 0)), (1, .int (iI a0)), (2, .int (iI x)), (3, .int (iI y))]) hx hb dM_curveCount_33 hl (by decide) rfl (fun ls hl => ?_)
  refine lv_ldc2 (v := 2) hx hb hown (hts _ (List.mem_cons_of_mem _ klM_110)) dM_curveCount_35 ?_
  refine xi_top (y := .long (lI 2)) (by decide +kernel) ?_
  refine lv_aload_n hx hb dM_curveCount_38 rfl (lv_at hl 1 rfl) ?_
  refine va_get (D := (dC, dI)) (ci := 3) (v := .ref (ad 8)) (C := RM) (T := TM) (N := 17) hx hb hts (fun w9 h9 => List.mem_cons_of_mem _ (inM w9 h9)) hown hK hP 0 rfl rfl 13 (by decide) (hts _ (List.mem_cons_of_mem _ flM_32)) (fun _ h9 => h9) rfl dM_curveCount_39 ?_
  refine lv_iload_n hx hb dM_curveCount_42 rfl (lv_at hl 2 rfl) ?_
  refine xi_iconst hx hb dM_curveCount_43 ?_
  refine xi_add (z := a0 + 3) hx hb dM_curveCount_44 rfl ?_
  refine xa_iald hx hb hK hP 8 7 rfl rfl (by decide) (by omega) dM_curveCount_45 ?_
  refine xi_top (y := .int (iI qy)) (by rw [e4]) ?_
  refine lv_aload_n hx hb dM_curveCount_46 rfl (lv_at hl 1 rfl) ?_
  refine va_get (D := (dC, dI)) (ci := 3) (v := .ref (ad 8)) (C := RM) (T := TM) (N := 17) hx hb hts (fun w9 h9 => List.mem_cons_of_mem _ (inM w9 h9)) hown hK hP 0 rfl rfl 13 (by decide) (hts _ (List.mem_cons_of_mem _ flM_32)) (fun _ h9 => h9) rfl dM_curveCount_47 ?_
  refine lv_iload_n hx hb dM_curveCount_50 rfl (lv_at hl 2 rfl) ?_
  refine xi_iconst hx hb dM_curveCount_51 ?_
  refine xi_add (z := a0 + 1) hx hb dM_curveCount_52 rfl ?_
  refine xa_iald hx hb hK hP 8 7 rfl rfl (by decide) (by omega) dM_curveCount_53 ?_
  refine xi_top (y := .int (iI py)) (by rw [e2]) ?_
  refine xi_sub (z := qy - py) hx hb dM_curveCount_54 rfl ?_
  refine xl_i2l hx hb dM_curveCount_55 (by omega) ?_
  refine xl_mul (z := bb) hx hb dM_curveCount_56 (hbb.symm) ?_
  refine lv_lstore (lv' := [(6, .long (lI bb)), (4, .long (lI aa)), (0, .ref (ad 0)), (1, .int (iI a0)), (2, .int (iI x)), (3, .int (iI y))]) hx hb dM_curveCount_57 hl (by decide) rfl (fun ls hl => ?_)
  refine lv_aload_n hx hb dM_curveCount_59 rfl (lv_at hl 2 rfl) ?_
  refine va_get (D := (dC, dI)) (ci := 3) (v := .ref (ad 8)) (C := RM) (T := TM) (N := 17) hx hb hts (fun w9 h9 => List.mem_cons_of_mem _ (inM w9 h9)) hown hK hP 0 rfl rfl 13 (by decide) (hts _ (List.mem_cons_of_mem _ flM_32)) (fun _ h9 => h9) rfl dM_curveCount_60 ?_
  refine lv_iload_n hx hb dM_curveCount_63 rfl (lv_at hl 3 rfl) ?_
  refine xi_iconst hx hb dM_curveCount_64 ?_
  refine xi_add (z := a0 + 1) hx hb dM_curveCount_65 rfl ?_
  refine xa_iald hx hb hK hP 8 7 rfl rfl (by decide) (by omega) dM_curveCount_66 ?_
  refine xi_top (y := .int (iI py)) (by rw [e2]) ?_
  refine xl_i2l hx hb dM_curveCount_67 (by omega) ?_
  refine lv_iload_n hx hb dM_curveCount_68 rfl (lv_at hl 5 rfl) ?_
  refine xl_i2l hx hb dM_curveCount_69 (by omega) ?_
  refine xl_sub (z := k0) hx hb dM_curveCount_70 (hk0.symm) ?_
  refine lv_lstore (lv' := [(8, .long (lI k0)), (6, .long (lI bb)), (4, .long (lI aa)), (0, .ref (ad 0)), (1, .int (iI a0)), (2, .int (iI x)), (3, .int (iI y))]) hx hb dM_curveCount_71 hl (by decide) rfl (fun ls hl => ?_)
  refine lv_aload_n hx hb dM_curveCount_73 rfl (lv_at hl 3 rfl) ?_
  refine va_get (D := (dC, dI)) (ci := 3) (v := .ref (ad 8)) (C := RM) (T := TM) (N := 17) hx hb hts (fun w9 h9 => List.mem_cons_of_mem _ (inM w9 h9)) hown hK hP 0 rfl rfl 13 (by decide) (hts _ (List.mem_cons_of_mem _ flM_32)) (fun _ h9 => h9) rfl dM_curveCount_74 ?_
  refine lv_iload_n hx hb dM_curveCount_77 rfl (lv_at hl 4 rfl) ?_
  refine xa_iald hx hb hK hP 8 7 rfl rfl (by decide) (by omega) dM_curveCount_78 ?_
  refine xi_top (y := .int (iI px)) (by rw [e1]) ?_
  refine xl_i2l hx hb dM_curveCount_79 (by omega) ?_
  refine lv_ldc2 (v := 2) hx hb hown (hts _ (List.mem_cons_of_mem _ klM_110)) dM_curveCount_80 ?_
  refine xi_top (y := .long (lI 2)) (by decide +kernel) ?_
  refine lv_aload_n hx hb dM_curveCount_83 rfl (lv_at hl 3 rfl) ?_
  refine va_get (D := (dC, dI)) (ci := 3) (v := .ref (ad 8)) (C := RM) (T := TM) (N := 17) hx hb hts (fun w9 h9 => List.mem_cons_of_mem _ (inM w9 h9)) hown hK hP 0 rfl rfl 13 (by decide) (hts _ (List.mem_cons_of_mem _ flM_32)) (fun _ h9 => h9) rfl dM_curveCount_84 ?_
  refine lv_iload_n hx hb dM_curveCount_87 rfl (lv_at hl 4 rfl) ?_
  refine xi_iconst hx hb dM_curveCount_88 ?_
  refine xi_add (z := a0 + 2) hx hb dM_curveCount_89 rfl ?_
  refine xa_iald hx hb hK hP 8 7 rfl rfl (by decide) (by omega) dM_curveCount_90 ?_
  refine xi_top (y := .int (iI qx)) (by rw [e3]) ?_
  refine xl_i2l hx hb dM_curveCount_91 (by omega) ?_
  refine xl_mul (z := 2 * qx) hx hb dM_curveCount_92 rfl ?_
  refine xl_sub (z := px - (2 * qx)) hx hb dM_curveCount_93 rfl ?_
  refine lv_aload_n hx hb dM_curveCount_94 rfl (lv_at hl 3 rfl) ?_
  refine va_get (D := (dC, dI)) (ci := 3) (v := .ref (ad 8)) (C := RM) (T := TM) (N := 17) hx hb hts (fun w9 h9 => List.mem_cons_of_mem _ (inM w9 h9)) hown hK hP 0 rfl rfl 13 (by decide) (hts _ (List.mem_cons_of_mem _ flM_32)) (fun _ h9 => h9) rfl dM_curveCount_95 ?_
  refine lv_iload_n hx hb dM_curveCount_98 rfl (lv_at hl 4 rfl) ?_
  refine xi_iconst hx hb dM_curveCount_99 ?_
  refine xi_add (z := a0 + 4) hx hb dM_curveCount_100 rfl ?_
  refine xa_iald hx hb hK hP 8 7 rfl rfl (by decide) (by omega) dM_curveCount_101 ?_
  refine xi_top (y := .int (iI rx)) (by rw [e5]) ?_
  refine xl_i2l hx hb dM_curveCount_102 (by omega) ?_
  refine xl_add (z := e0) hx hb dM_curveCount_103 (he0.symm) ?_
  refine lv_lstore (lv' := [(10, .long (lI e0)), (8, .long (lI k0)), (6, .long (lI bb)), (4, .long (lI aa)), (0, .ref (ad 0)), (1, .int (iI a0)), (2, .int (iI x)), (3, .int (iI y))]) hx hb dM_curveCount_104 hl (by decide) rfl (fun ls hl => ?_)
  refine lv_ldc2 (v := 2) hx hb hown (hts _ (List.mem_cons_of_mem _ klM_110)) dM_curveCount_106 ?_
  refine xi_top (y := .long (lI 2)) (by decide +kernel) ?_
  refine lv_aload_n hx hb dM_curveCount_109 rfl (lv_at hl 4 rfl) ?_
  refine va_get (D := (dC, dI)) (ci := 3) (v := .ref (ad 8)) (C := RM) (T := TM) (N := 17) hx hb hts (fun w9 h9 => List.mem_cons_of_mem _ (inM w9 h9)) hown hK hP 0 rfl rfl 13 (by decide) (hts _ (List.mem_cons_of_mem _ flM_32)) (fun _ h9 => h9) rfl dM_curveCount_110 ?_
  refine lv_iload_n hx hb dM_curveCount_113 rfl (lv_at hl 5 rfl) ?_
  refine xi_iconst hx hb dM_curveCount_114 ?_
  refine xi_add (z := a0 + 2) hx hb dM_curveCount_115 rfl ?_
  refine xa_iald hx hb hK hP 8 7 rfl rfl (by decide) (by omega) dM_curveCount_116 ?_
  refine xi_top (y := .int (iI qx)) (by rw [e3]) ?_
  refine lv_aload_n hx hb dM_curveCount_117 rfl (lv_at hl 4 rfl) ?_
  refine va_get (D := (dC, dI)) (ci := 3) (v := .ref (ad 8)) (C := RM) (T := TM) (N := 17) hx hb hts (fun w9 h9 => List.mem_cons_of_mem _ (inM w9 h9)) hown hK hP 0 rfl rfl 13 (by decide) (hts _ (List.mem_cons_of_mem _ flM_32)) (fun _ h9 => h9) rfl dM_curveCount_118 ?_
  refine lv_iload_n hx hb dM_curveCount_121 rfl (lv_at hl 5 rfl) ?_
  refine xa_iald hx hb hK hP 8 7 rfl rfl (by decide) (by omega) dM_curveCount_122 ?_
  refine xi_top (y := .int (iI px)) (by rw [e1]) ?_
  refine xi_sub (z := qx - px) hx hb dM_curveCount_123 rfl ?_
  refine xl_i2l hx hb dM_curveCount_124 (by omega) ?_
  refine xl_mul (z := f0) hx hb dM_curveCount_125 (hf0.symm) ?_
  refine lv_lstore (lv' := [(12, .long (lI f0)), (10, .long (lI e0)), (8, .long (lI k0)), (6, .long (lI bb)), (4, .long (lI aa)), (0, .ref (ad 0)), (1, .int (iI a0)), (2, .int (iI x)), (3, .int (iI y))]) hx hb dM_curveCount_126 hl (by decide) rfl (fun ls hl => ?_)
  refine lv_aload_n hx hb dM_curveCount_128 rfl (lv_at hl 5 rfl) ?_
  refine va_get (D := (dC, dI)) (ci := 3) (v := .ref (ad 8)) (C := RM) (T := TM) (N := 17) hx hb hts (fun w9 h9 => List.mem_cons_of_mem _ (inM w9 h9)) hown hK hP 0 rfl rfl 13 (by decide) (hts _ (List.mem_cons_of_mem _ flM_32)) (fun _ h9 => h9) rfl dM_curveCount_129 ?_
  refine lv_iload_n hx hb dM_curveCount_132 rfl (lv_at hl 6 rfl) ?_
  refine xa_iald hx hb hK hP 8 7 rfl rfl (by decide) (by omega) dM_curveCount_133 ?_
  refine xi_top (y := .int (iI px)) (by rw [e1]) ?_
  refine xl_i2l hx hb dM_curveCount_134 (by omega) ?_
  refine lv_iload_n hx hb dM_curveCount_135 rfl (lv_at hl 7 rfl) ?_
  refine xl_i2l hx hb dM_curveCount_136 (by omega) ?_
  refine xl_sub (z := g0) hx hb dM_curveCount_137 (hg0.symm) ?_
  refine lv_lstore (lv' := [(14, .long (lI g0)), (12, .long (lI f0)), (10, .long (lI e0)), (8, .long (lI k0)), (6, .long (lI bb)), (4, .long (lI aa)), (0, .ref (ad 0)), (1, .int (iI a0)), (2, .int (iI x)), (3, .int (iI y))]) hx hb dM_curveCount_138 hl (by decide) rfl (fun ls hl => ?_)
  have cut_152_1 : ∀ (fi : Bool) (ls : Array Slot), (fi = decide (0 < k0)) → lv_has ls 22 [(14, .long (lI g0)), (12, .long (lI f0)), (10, .long (lI e0)), (8, .long (lI k0)), (6, .long (lI bb)), (4, .long (lI aa)), (0, .ref (ad 0)), (1, .int (iI a0)), (2, .int (iI x)), (3, .int (iI y))] → W p l e R s m args below meth c H locs 0 0 Q (F0 m 152 ls [.int (iI (bz fi))]) := by
    intro fi ls hfi hl
    refine lv_istore (lv' := [(16, .int (iI (bz fi))), (14, .long (lI g0)), (12, .long (lI f0)), (10, .long (lI e0)), (8, .long (lI k0)), (6, .long (lI bb)), (4, .long (lI aa)), (0, .ref (ad 0)), (1, .int (iI a0)), (2, .int (iI x)), (3, .int (iI y))]) hx hb dM_curveCount_152 hl (by decide) rfl (fun ls hl => ?_)
    have cut_171_2 : ∀ (la : Bool) (ls : Array Slot), (la = decide (y < ry)) → lv_has ls 22 [(16, .int (iI (bz fi))), (14, .long (lI g0)), (12, .long (lI f0)), (10, .long (lI e0)), (8, .long (lI k0)), (6, .long (lI bb)), (4, .long (lI aa)), (0, .ref (ad 0)), (1, .int (iI a0)), (2, .int (iI x)), (3, .int (iI y))] → W p l e R s m args below meth c H locs 0 0 Q (F0 m 171 ls [.int (iI (bz la))]) := by
      intro la ls hla hl
      refine lv_istore (lv' := [(17, .int (iI (bz la))), (16, .int (iI (bz fi))), (14, .long (lI g0)), (12, .long (lI f0)), (10, .long (lI e0)), (8, .long (lI k0)), (6, .long (lI bb)), (4, .long (lI aa)), (0, .ref (ad 0)), (1, .int (iI a0)), (2, .int (iI x)), (3, .int (iI y))]) hx hb dM_curveCount_171 hl (by decide) rfl (fun ls hl => ?_)
      refine lv_iload hx hb dM_curveCount_173 (lv_at hl 1 rfl) ?_
      refine lv_iload hx hb dM_curveCount_175 (lv_at hl 0 rfl) ?_
      refine xb_icmp_eq (tgt := 240) hx hb dM_curveCount_177 (by decide) (fun c_177 => ?_) (fun c_177 => ?_)
      · skip
        have cut_306_3 : ∀ (tr : Bool) (ls : Array Slot), (tr = trn aa bb) → lv_has ls 22 [(17, .int (iI (bz la))), (16, .int (iI (bz fi))), (14, .long (lI g0)), (12, .long (lI f0)), (10, .long (lI e0)), (8, .long (lI k0)), (6, .long (lI bb)), (4, .long (lI aa)), (0, .ref (ad 0)), (1, .int (iI a0)), (2, .int (iI x)), (3, .int (iI y))] → W p l e R s m args below meth c H locs 0 0 Q (F0 m 306 ls [.int (iI (bz tr))]) := by
          intro tr ls htr hl
          refine lv_istore (lv' := [(18, .int (iI (bz tr))), (17, .int (iI (bz la))), (16, .int (iI (bz fi))), (14, .long (lI g0)), (12, .long (lI f0)), (10, .long (lI e0)), (8, .long (lI k0)), (6, .long (lI bb)), (4, .long (lI aa)), (0, .ref (ad 0)), (1, .int (iI a0)), (2, .int (iI x)), (3, .int (iI y))]) hx hb dM_curveCount_306 hl (by decide) rfl (fun ls hl => ?_)
          have cut_340_4 : ∀ (by_ : Bool) (ls : Array Slot), (by_ = byd aa fi) → lv_has ls 22 [(18, .int (iI (bz tr))), (17, .int (iI (bz la))), (16, .int (iI (bz fi))), (14, .long (lI g0)), (12, .long (lI f0)), (10, .long (lI e0)), (8, .long (lI k0)), (6, .long (lI bb)), (4, .long (lI aa)), (0, .ref (ad 0)), (1, .int (iI a0)), (2, .int (iI x)), (3, .int (iI y))] → W p l e R s m args below meth c H locs 0 0 Q (F0 m 340 ls [.int (iI (bz by_))]) := by
            intro by_ ls hby_ hl
            refine lv_istore (lv' := [(19, .int (iI (bz by_))), (18, .int (iI (bz tr))), (17, .int (iI (bz la))), (16, .int (iI (bz fi))), (14, .long (lI g0)), (12, .long (lI f0)), (10, .long (lI e0)), (8, .long (lI k0)), (6, .long (lI bb)), (4, .long (lI aa)), (0, .ref (ad 0)), (1, .int (iI a0)), (2, .int (iI x)), (3, .int (iI y))]) hx hb dM_curveCount_340 hl (by decide) rfl (fun ls hl => ?_)
            refine lv_iload hx hb dM_curveCount_342 (lv_at hl 1 rfl) ?_
            refine xb_if_eq (tgt := 372) hx hb dM_curveCount_344 (by decide) (fun c_344 => ?_) (fun c_344 => ?_)
            · skip
              refine xi_iconst hx hb dM_curveCount_372 ?_
              subst hQ
              exact W.iret (v := (iI 0)) hx hb hr (fun t9 ht9 hW9 => ⟨⟨_, (hi, lo), rfl, (⟨by rw [e9, ← hfi, ← hla]; unfold cvc2; rw [if_pos c_177, if_neg (fun h => by rw [← htr, c_344] at h; exact absurd h.1 (by decide))], trivial⟩), by rw [ht9]; exact hP, va_K.moved hW9.alike hK, hD⟩, hS.F ht9⟩) hS.2.2 dM_curveCount_373
            · skip
              refine lv_iload hx hb dM_curveCount_347 (lv_at hl 0 rfl) ?_
              refine xb_if_eq (tgt := 372) hx hb dM_curveCount_349 (by decide) (fun c_349 => ?_) (fun c_349 => ?_)
              · skip
                refine xi_iconst hx hb dM_curveCount_372 ?_
                subst hQ
                exact W.iret (v := (iI 0)) hx hb hr (fun t9 ht9 hW9 => ⟨⟨_, (hi, lo), rfl, (⟨by rw [e9, ← hfi, ← hla]; unfold cvc2; rw [if_pos c_177, if_neg (fun h => by rw [← hby_, c_349] at h; exact absurd h.2.1 (by decide))], trivial⟩), by rw [ht9]; exact hP, va_K.moved hW9.alike hK, hD⟩, hS.F ht9⟩) hS.2.2 dM_curveCount_373
              · skip
                refine lv_lload hx hb dM_curveCount_352 (lv_at hl 8 rfl) ?_
                refine lv_lload hx hb dM_curveCount_354 (lv_at hl 8 rfl) ?_
                refine xl_mul (z := bb * bb) hx hb dM_curveCount_356 rfl ?_
                refine lv_ldc2 (v := 4) hx hb hown (hts _ (List.mem_cons_of_mem _ klM_122)) dM_curveCount_357 ?_
                refine xi_top (y := .long (lI 4)) (by decide +kernel) ?_
                refine lv_lload hx hb dM_curveCount_360 (lv_at hl 9 rfl) ?_
                refine xl_mul (z := 4 * aa) hx hb dM_curveCount_362 rfl ?_
                refine lv_lload hx hb dM_curveCount_363 (lv_at hl 7 rfl) ?_
                refine xl_mul (z := (4 * aa) * k0) hx hb dM_curveCount_365 rfl ?_
                refine xl_sub (z := (bb * bb) - ((4 * aa) * k0)) hx hb dM_curveCount_366 rfl ?_
                refine lv_lconst (v := lI 0) hx hb dM_curveCount_367 (by decide +kernel) ?_
                refine xl_gt (tgt := 374) hx hb dM_curveCount_368 dM_curveCount_369 (by decide) (by omega) (by omega) (fun c_368 => ?_) (fun c_368 => ?_)
                · skip
                  refine lv_aload_n hx hb dM_curveCount_374 rfl (lv_at hl 10 rfl) ?_
                  refine lv_lload hx hb dM_curveCount_375 (lv_at hl 9 rfl) ?_
                  refine lv_lload hx hb dM_curveCount_377 (lv_at hl 8 rfl) ?_
                  refine lv_lload hx hb dM_curveCount_379 (lv_at hl 7 rfl) ?_
                  refine xi_iconst hx hb dM_curveCount_381 ?_
                  refine lv_lload hx hb dM_curveCount_382 (lv_at hl 6 rfl) ?_
                  refine lv_lload hx hb dM_curveCount_384 (lv_at hl 5 rfl) ?_
                  refine lv_lload hx hb dM_curveCount_386 (lv_at hl 4 rfl) ?_
                  have hFc := xw_free hD hS hA
                  refine va_calli (va_runV (As := [.long (lI aa), .long (lI bb), .long (lI k0), .int (iI 0), .long (lI e0), .long (lI f0), .long (lI g0)]) (rest := []) ⟨hx, hb, hml, hown, hts⟩ (m_isLeft l dC dI ad cs H.size ft par np nc rs npc hi lo X Y O E RX RY RO PC CV aa bb k0 false e0 f0 g0 (by omega) (by omega) (by omega) (by omega) (by omega) (by omega)) (cwV 7 hts (tb_V mlM_116 imM_isLeft seM_isLeft iniM coM_isLeft) rfl rfl rfl (by decide +kernel) (by subst hR; exact ⟨Nat.le_of_ble_eq_true rfl, Nat.le_of_ble_eq_true rfl⟩)) ⟨fun a9 U9 g9 mk9 q9 => by obtain ⟨q0, q1, qP, qK, qD⟩ := q9; exact ⟨q0, q1, qP, va_K.moved (u := U9) (U := U9.calling g9 mk9 a9) (Vm.Alike.refl U9.vm) qK, qD⟩, va_recv hK hP (ci := 3) (q0 := 0) rfl rfl, fun U hU hW => ⟨rfl, by rw [hU], by rw [hU]; exact hP, va_K.moved hW.alike hK, hD.weaken (fun _ _ _ _ => trivial)⟩⟩ rfl rfl hl.1 rfl (lv_room (Nat.le_of_ble_eq_true rfl)) dM_curveCount_388 ⟨by subst hR; exact Nat.le_of_ble_eq_true rfl, by subst hR; exact Nat.le_of_ble_eq_true rfl⟩) hS (fun q9 _ h9 => hFc q9 h9) hFc (fun r_388 u_388 t9 H1 locs1 ht9 hvm9 hw_388 hB9 hz9 hk9 hS1 => ?_)
                  obtain ⟨hP1, hK1, hD1⟩ := hB9
                  rw [ht9] at hP1
                  have hP : va_P (dC, dI) vwCl (mW ad cs ft par np nc rs npc u_388.1 u_388.2 X Y O E RX RY RO PC CV) H1 := hP1
                  have hD : va_D A (mW ad cs ft par np nc rs npc u_388.1 u_388.2 X Y O E RX RY RO PC CV) := hD1.weaken (fun _ _ _ h9 => hFc _ h9)
                  clear hP1 hD1 hK1 hFc
                  have hS := hS1
                  clear hS1 hz9 hk9 ht9 hvm9
                  revert hP hD hS; generalize H1 = H; generalize locs1 = locs; intro hP hD hS
                  obtain ⟨hr_388, hw_388⟩ := hw_388; subst hr_388
                  have cut_399_5 : ∀ (one : Int) (ls : Array Slot), (one = bz (ilf aa bb k0 false e0 f0 g0)) → lv_has ls 22 [(19, .int (iI (bz by_))), (18, .int (iI (bz tr))), (17, .int (iI (bz la))), (16, .int (iI (bz fi))), (14, .long (lI g0)), (12, .long (lI f0)), (10, .long (lI e0)), (8, .long (lI k0)), (6, .long (lI bb)), (4, .long (lI aa)), (0, .ref (ad 0)), (1, .int (iI a0)), (2, .int (iI x)), (3, .int (iI y))] → W p l e R s m args below meth c H locs 0 0 Q (F0 m 399 ls [.int (iI one)]) := by
                    intro one ls hone hl
                    have b7 := bz_in (ilf aa bb k0 false e0 f0 g0)
                    refine lv_istore (lv' := [(20, .int (iI one)), (19, .int (iI (bz by_))), (18, .int (iI (bz tr))), (17, .int (iI (bz la))), (16, .int (iI (bz fi))), (14, .long (lI g0)), (12, .long (lI f0)), (10, .long (lI e0)), (8, .long (lI k0)), (6, .long (lI bb)), (4, .long (lI aa)), (0, .ref (ad 0)), (1, .int (iI a0)), (2, .int (iI x)), (3, .int (iI y))]) hx hb dM_curveCount_399 hl (by decide) rfl (fun ls hl => ?_)
                    refine lv_aload_n hx hb dM_curveCount_401 rfl (lv_at hl 11 rfl) ?_
                    refine lv_lload hx hb dM_curveCount_402 (lv_at hl 10 rfl) ?_
                    refine lv_lload hx hb dM_curveCount_404 (lv_at hl 9 rfl) ?_
                    refine lv_lload hx hb dM_curveCount_406 (lv_at hl 8 rfl) ?_
                    refine xi_iconst hx hb dM_curveCount_408 ?_
                    refine lv_lload hx hb dM_curveCount_409 (lv_at hl 7 rfl) ?_
                    refine lv_lload hx hb dM_curveCount_411 (lv_at hl 6 rfl) ?_
                    refine lv_lload hx hb dM_curveCount_413 (lv_at hl 5 rfl) ?_
                    have hFc := xw_free hD hS hA
                    refine va_calli (va_runV (As := [.long (lI aa), .long (lI bb), .long (lI k0), .int (iI 1), .long (lI e0), .long (lI f0), .long (lI g0)]) (rest := []) ⟨hx, hb, hml, hown, hts⟩ (m_isLeft l dC dI ad cs H.size ft par np nc rs npc u_388.1 u_388.2 X Y O E RX RY RO PC CV aa bb k0 true e0 f0 g0 (by omega) (by omega) (by omega) (by omega) (by omega) (by omega)) (cwV 7 hts (tb_V mlM_116 imM_isLeft seM_isLeft iniM coM_isLeft) rfl rfl rfl (by decide +kernel) (by subst hR; exact ⟨Nat.le_of_ble_eq_true rfl, Nat.le_of_ble_eq_true rfl⟩)) ⟨fun a9 U9 g9 mk9 q9 => by obtain ⟨q0, q1, qP, qK, qD⟩ := q9; exact ⟨q0, q1, qP, va_K.moved (u := U9) (U := U9.calling g9 mk9 a9) (Vm.Alike.refl U9.vm) qK, qD⟩, va_recv hK hP (ci := 3) (q0 := 0) rfl rfl, fun U hU hW => ⟨rfl, by rw [hU], by rw [hU]; exact hP, va_K.moved hW.alike hK, hD.weaken (fun _ _ _ _ => trivial)⟩⟩ rfl rfl hl.1 rfl (lv_room (Nat.le_of_ble_eq_true rfl)) dM_curveCount_415 ⟨by subst hR; exact Nat.le_of_ble_eq_true rfl, by subst hR; exact Nat.le_of_ble_eq_true rfl⟩) hS (fun q9 _ h9 => hFc q9 h9) hFc (fun r_415 u_415 t9 H1 locs1 ht9 hvm9 hw_415 hB9 hz9 hk9 hS1 => ?_)
                    obtain ⟨hP1, hK1, hD1⟩ := hB9
                    rw [ht9] at hP1
                    have hP : va_P (dC, dI) vwCl (mW ad cs ft par np nc rs npc u_415.1 u_415.2 X Y O E RX RY RO PC CV) H1 := hP1
                    have hD : va_D A (mW ad cs ft par np nc rs npc u_415.1 u_415.2 X Y O E RX RY RO PC CV) := hD1.weaken (fun _ _ _ h9 => hFc _ h9)
                    clear hP1 hD1 hK1 hFc
                    have hS := hS1
                    clear hS1 hz9 hk9 ht9 hvm9
                    revert hP hD hS; generalize H1 = H; generalize locs1 = locs; intro hP hD hS
                    obtain ⟨hr_415, hw_415⟩ := hw_415; subst hr_415
                    have cut_426_6 : ∀ (oth : Int) (ls : Array Slot), (oth = bz (ilf aa bb k0 true e0 f0 g0)) → lv_has ls 22 [(20, .int (iI one)), (19, .int (iI (bz by_))), (18, .int (iI (bz tr))), (17, .int (iI (bz la))), (16, .int (iI (bz fi))), (14, .long (lI g0)), (12, .long (lI f0)), (10, .long (lI e0)), (8, .long (lI k0)), (6, .long (lI bb)), (4, .long (lI aa)), (0, .ref (ad 0)), (1, .int (iI a0)), (2, .int (iI x)), (3, .int (iI y))] → W p l e R s m args below meth c H locs 0 0 Q (F0 m 426 ls [.int (iI oth)]) := by
                      intro oth ls hoth hl
                      have b8 := bz_in (ilf aa bb k0 true e0 f0 g0)
                      refine lv_istore (lv' := [(21, .int (iI oth)), (20, .int (iI one)), (19, .int (iI (bz by_))), (18, .int (iI (bz tr))), (17, .int (iI (bz la))), (16, .int (iI (bz fi))), (14, .long (lI g0)), (12, .long (lI f0)), (10, .long (lI e0)), (8, .long (lI k0)), (6, .long (lI bb)), (4, .long (lI aa)), (0, .ref (ad 0)), (1, .int (iI a0)), (2, .int (iI x)), (3, .int (iI y))]) hx hb dM_curveCount_426 hl (by decide) rfl (fun ls hl => ?_)
                      have cut_446_7 : ∀ (v : Int) (ls : Array Slot), (v = cvc2 aa bb k0 e0 f0 g0 fi la) → lv_has ls 22 [(21, .int (iI oth)), (20, .int (iI one)), (19, .int (iI (bz by_))), (18, .int (iI (bz tr))), (17, .int (iI (bz la))), (16, .int (iI (bz fi))), (14, .long (lI g0)), (12, .long (lI f0)), (10, .long (lI e0)), (8, .long (lI k0)), (6, .long (lI bb)), (4, .long (lI aa)), (0, .ref (ad 0)), (1, .int (iI a0)), (2, .int (iI x)), (3, .int (iI y))] → W p l e R s m args below meth c H locs 0 0 Q (F0 m 446 ls [.int (iI v)]) := by
                        intro v ls hv hl
                        subst hQ
                        exact W.iret (v := (iI v)) hx hb hr (fun t9 ht9 hW9 => ⟨⟨_, u_415, rfl, (⟨by rw [hv, e9, hfi, hla], trivial⟩), by rw [ht9]; exact hP, va_K.moved hW9.alike hK, hD⟩, hS.F ht9⟩) hS.2.2 dM_curveCount_446
                      refine lv_iload hx hb dM_curveCount_428 (lv_at hl 5 rfl) ?_
                      refine xb_if_eq (tgt := 441) hx hb dM_curveCount_430 (by decide) (fun c_430 => ?_) (fun c_430 => ?_)
                      · skip
                        refine lv_iload hx hb dM_curveCount_441 (lv_at hl 1 rfl) ?_
                        refine lv_iload hx hb dM_curveCount_443 (lv_at hl 0 rfl) ?_
                        refine xi_sub (z := one - oth) hx hb dM_curveCount_445 rfl ?_
                        exact cut_446_7 (one - oth) _ (by unfold cvc2; rw [if_pos c_177, if_pos ⟨by rw [← htr]; exact c_344, by rw [← hby_]; exact c_349, by omega⟩, if_neg (by rw [c_430]; decide), hone, hoth]) (lv_sub hl [0, 1, 2, 3, 4, 5, 6, 7, 8, 9, 10, 11, 12, 13, 14, 15] rfl)
                      · skip
                        refine lv_iload hx hb dM_curveCount_433 (lv_at hl 0 rfl) ?_
                        refine lv_iload hx hb dM_curveCount_435 (lv_at hl 1 rfl) ?_
                        refine xi_sub (z := oth - one) hx hb dM_curveCount_437 rfl ?_
                        refine lv_goto (tgt := 446) hx hb dM_curveCount_438 (by decide) ?_
                        exact cut_446_7 (oth - one) _ (by unfold cvc2; rw [if_pos c_177, if_pos ⟨by rw [← htr]; exact c_344, by rw [← hby_]; exact c_349, by omega⟩, if_pos c_430, hone, hoth]) (lv_sub hl [0, 1, 2, 3, 4, 5, 6, 7, 8, 9, 10, 11, 12, 13, 14, 15] rfl)
                    refine xb_if_eq (tgt := 425) hx hb dM_curveCount_418 (by decide) (fun c_418 => ?_) (fun c_418 => ?_)
                    · skip
                      refine xi_iconst hx hb dM_curveCount_425 ?_
                      exact cut_426_6 0 _ (by rw [c_418]; rfl) (lv_sub hl [0, 1, 2, 3, 4, 5, 6, 7, 8, 9, 10, 11, 12, 13, 14] rfl)
                    · skip
                      refine xi_iconst hx hb dM_curveCount_421 ?_
                      refine lv_goto (tgt := 426) hx hb dM_curveCount_422 (by decide) ?_
                      exact cut_426_6 1 _ (by rw [c_418]; rfl) (lv_sub hl [0, 1, 2, 3, 4, 5, 6, 7, 8, 9, 10, 11, 12, 13, 14] rfl)
                  refine xb_if_eq (tgt := 398) hx hb dM_curveCount_391 (by decide) (fun c_391 => ?_) (fun c_391 => ?_)
                  · skip
                    refine xi_iconst hx hb dM_curveCount_398 ?_
                    exact cut_399_5 0 _ (by rw [c_391]; rfl) (lv_sub hl [0, 1, 2, 3, 4, 5, 6, 7, 8, 9, 10, 11, 12, 13] rfl)
                  · skip
                    refine xi_iconst hx hb dM_curveCount_394 ?_
                    refine lv_goto (tgt := 399) hx hb dM_curveCount_395 (by decide) ?_
                    exact cut_399_5 1 _ (by rw [c_391]; rfl) (lv_sub hl [0, 1, 2, 3, 4, 5, 6, 7, 8, 9, 10, 11, 12, 13] rfl)
                · skip
                  refine xi_iconst hx hb dM_curveCount_372 ?_
                  subst hQ
                  exact W.iret (v := (iI 0)) hx hb hr (fun t9 ht9 hW9 => ⟨⟨_, (hi, lo), rfl, (⟨by rw [e9, ← hfi, ← hla]; unfold cvc2; rw [if_pos c_177, if_neg (fun h => by omega)], trivial⟩), by rw [ht9]; exact hP, va_K.moved hW9.alike hK, hD⟩, hS.F ht9⟩) hS.2.2 dM_curveCount_373
          refine lv_iload hx hb dM_curveCount_308 (lv_at hl 2 rfl) ?_
          refine xb_if_eq (tgt := 328) hx hb dM_curveCount_310 (by decide) (fun c_310 => ?_) (fun c_310 => ?_)
          · skip
            refine lv_lload hx hb dM_curveCount_328 (lv_at hl 8 rfl) ?_
            refine lv_lconst (v := lI 0) hx hb dM_curveCount_330 (by decide +kernel) ?_
            refine xl_ge (tgt := 339) hx hb dM_curveCount_331 dM_curveCount_332 (by decide) (by omega) (by omega) (fun c_331 => ?_) (fun c_331 => ?_)
            · skip
              refine xi_iconst hx hb dM_curveCount_339 ?_
              exact cut_340_4 false _ (by unfold byd; rw [if_neg (by rw [c_310]; decide), decide_eq_false (by omega)]) (lv_sub hl [0, 1, 2, 3, 4, 5, 6, 7, 8, 9, 10, 11, 12] rfl)
            · skip
              refine xi_iconst hx hb dM_curveCount_335 ?_
              refine lv_goto (tgt := 340) hx hb dM_curveCount_336 (by decide) ?_
              exact cut_340_4 true _ (by unfold byd; rw [if_neg (by rw [c_310]; decide), decide_eq_true (by omega)]) (lv_sub hl [0, 1, 2, 3, 4, 5, 6, 7, 8, 9, 10, 11, 12] rfl)
          · skip
            refine lv_lload hx hb dM_curveCount_313 (lv_at hl 8 rfl) ?_
            refine lv_lconst (v := lI 0) hx hb dM_curveCount_315 (by decide +kernel) ?_
            refine xl_le (tgt := 324) hx hb dM_curveCount_316 dM_curveCount_317 (by decide) (by omega) (by omega) (fun c_316 => ?_) (fun c_316 => ?_)
            · skip
              refine xi_iconst hx hb dM_curveCount_324 ?_
              refine lv_goto (tgt := 340) hx hb dM_curveCount_325 (by decide) ?_
              exact cut_340_4 false _ (by unfold byd; rw [if_pos c_310, decide_eq_false (by omega)]) (lv_sub hl [0, 1, 2, 3, 4, 5, 6, 7, 8, 9, 10, 11, 12] rfl)
            · skip
              refine xi_iconst hx hb dM_curveCount_320 ?_
              refine lv_goto (tgt := 340) hx hb dM_curveCount_321 (by decide) ?_
              exact cut_340_4 true _ (by unfold byd; rw [if_pos c_310, decide_eq_true (by omega)]) (lv_sub hl [0, 1, 2, 3, 4, 5, 6, 7, 8, 9, 10, 11, 12] rfl)
        refine lv_lload hx hb dM_curveCount_240 (lv_at hl 7 rfl) ?_
        refine lv_lconst (v := lI 0) hx hb dM_curveCount_242 (by decide +kernel) ?_
        refine xl_le (tgt := 275) hx hb dM_curveCount_243 dM_curveCount_244 (by decide) (by omega) (by omega) (fun c_243 => ?_) (fun c_243 => ?_)
        · skip
          refine lv_lload hx hb dM_curveCount_275 (lv_at hl 7 rfl) ?_
          refine lv_lconst (v := lI 0) hx hb dM_curveCount_277 (by decide +kernel) ?_
          refine xl_ge (tgt := 305) hx hb dM_curveCount_278 dM_curveCount_279 (by decide) (by omega) (by omega) (fun c_278 => ?_) (fun c_278 => ?_)
          · skip
            refine xi_iconst hx hb dM_curveCount_305 ?_
            exact cut_306_3 false _ (by unfold trn; rw [if_neg (by omega), decide_eq_false (by omega)]) (lv_sub hl [0, 1, 2, 3, 4, 5, 6, 7, 8, 9, 10, 11] rfl)
          · skip
            refine lv_lload hx hb dM_curveCount_282 (lv_at hl 6 rfl) ?_
            refine lv_lconst (v := lI 0) hx hb dM_curveCount_284 (by decide +kernel) ?_
            refine xl_le (tgt := 305) hx hb dM_curveCount_285 dM_curveCount_286 (by decide) (by omega) (by omega) (fun c_285 => ?_) (fun c_285 => ?_)
            · skip
              refine xi_iconst hx hb dM_curveCount_305 ?_
              exact cut_306_3 false _ (by unfold trn; rw [if_neg (by omega), decide_eq_false (by omega)]) (lv_sub hl [0, 1, 2, 3, 4, 5, 6, 7, 8, 9, 10, 11] rfl)
            · skip
              refine lv_lload hx hb dM_curveCount_289 (lv_at hl 6 rfl) ?_
              refine lv_ldc2 (v := (-2)) hx hb hown (hts _ (List.mem_cons_of_mem _ klM_120)) dM_curveCount_291 ?_
              refine xi_top (y := .long (lI (-2))) (by decide +kernel) ?_
              refine lv_lload hx hb dM_curveCount_294 (lv_at hl 7 rfl) ?_
              refine xl_mul (z := (-2) * aa) hx hb dM_curveCount_296 rfl ?_
              refine xl_ge (tgt := 305) hx hb dM_curveCount_297 dM_curveCount_298 (by decide) (by omega) (by omega) (fun c_297 => ?_) (fun c_297 => ?_)
              · skip
                refine xi_iconst hx hb dM_curveCount_305 ?_
                exact cut_306_3 false _ (by unfold trn; rw [if_neg (by omega), decide_eq_false (by omega)]) (lv_sub hl [0, 1, 2, 3, 4, 5, 6, 7, 8, 9, 10, 11] rfl)
              · skip
                refine xi_iconst hx hb dM_curveCount_301 ?_
                refine lv_goto (tgt := 306) hx hb dM_curveCount_302 (by decide) ?_
                exact cut_306_3 true _ (by unfold trn; rw [if_neg (by omega), decide_eq_true (by omega)]) (lv_sub hl [0, 1, 2, 3, 4, 5, 6, 7, 8, 9, 10, 11] rfl)
        · skip
          refine lv_lload hx hb dM_curveCount_247 (lv_at hl 6 rfl) ?_
          refine lv_lconst (v := lI 0) hx hb dM_curveCount_249 (by decide +kernel) ?_
          refine xl_ge (tgt := 271) hx hb dM_curveCount_250 dM_curveCount_251 (by decide) (by omega) (by omega) (fun c_250 => ?_) (fun c_250 => ?_)
          · skip
            refine xi_iconst hx hb dM_curveCount_271 ?_
            refine lv_goto (tgt := 306) hx hb dM_curveCount_272 (by decide) ?_
            exact cut_306_3 false _ (by unfold trn; rw [if_pos c_243, decide_eq_false (by omega)]) (lv_sub hl [0, 1, 2, 3, 4, 5, 6, 7, 8, 9, 10, 11] rfl)
          · skip
            refine lv_lload hx hb dM_curveCount_254 (lv_at hl 6 rfl) ?_
            refine xl_neg (z := -bb) hx hb dM_curveCount_256 rfl ?_
            refine lv_ldc2 (v := 2) hx hb hown (hts _ (List.mem_cons_of_mem _ klM_110)) dM_curveCount_257 ?_
            refine xi_top (y := .long (lI 2)) (by decide +kernel) ?_
            refine lv_lload hx hb dM_curveCount_260 (lv_at hl 7 rfl) ?_
            refine xl_mul (z := 2 * aa) hx hb dM_curveCount_262 rfl ?_
            refine xl_ge (tgt := 271) hx hb dM_curveCount_263 dM_curveCount_264 (by decide) (by omega) (by omega) (fun c_263 => ?_) (fun c_263 => ?_)
            · skip
              refine xi_iconst hx hb dM_curveCount_271 ?_
              refine lv_goto (tgt := 306) hx hb dM_curveCount_272 (by decide) ?_
              exact cut_306_3 false _ (by unfold trn; rw [if_pos c_243, decide_eq_false (by omega)]) (lv_sub hl [0, 1, 2, 3, 4, 5, 6, 7, 8, 9, 10, 11] rfl)
            · skip
              refine xi_iconst hx hb dM_curveCount_267 ?_
              refine lv_goto (tgt := 306) hx hb dM_curveCount_268 (by decide) ?_
              exact cut_306_3 true _ (by unfold trn; rw [if_pos c_243, decide_eq_true (by omega)]) (lv_sub hl [0, 1, 2, 3, 4, 5, 6, 7, 8, 9, 10, 11] rfl)
      · skip
        refine lv_aload_n hx hb dM_curveCount_180 rfl (lv_at hl 8 rfl) ?_
        refine lv_lload hx hb dM_curveCount_181 (lv_at hl 7 rfl) ?_
        refine lv_lload hx hb dM_curveCount_183 (lv_at hl 6 rfl) ?_
        refine lv_lload hx hb dM_curveCount_185 (lv_at hl 5 rfl) ?_
        refine lv_iload hx hb dM_curveCount_187 (lv_at hl 0 rfl) ?_
        have cut_201_8 : ∀ (v4 : Bool) (ls : Array Slot), (v4 = decide (0 < aa)) → lv_has ls 22 [(17, .int (iI (bz la))), (16, .int (iI (bz fi))), (14, .long (lI g0)), (12, .long (lI f0)), (10, .long (lI e0)), (8, .long (lI k0)), (6, .long (lI bb)), (4, .long (lI aa)), (0, .ref (ad 0)), (1, .int (iI a0)), (2, .int (iI x)), (3, .int (iI y))] → W p l e R s m args below meth c H locs 0 0 Q (F0 m 201 ls [.int (iI (bz v4)), .int (iI (bz la)), .long (lI k0), .long (lI bb), .long (lI aa), .ref (ad 0)]) := by
          intro v4 ls hv4 hl
          have cut_209_9 : ∀ (v5 : Bool) (ls : Array Slot), (v5 = (la == decide (0 < aa))) → lv_has ls 22 [(17, .int (iI (bz la))), (16, .int (iI (bz fi))), (14, .long (lI g0)), (12, .long (lI f0)), (10, .long (lI e0)), (8, .long (lI k0)), (6, .long (lI bb)), (4, .long (lI aa)), (0, .ref (ad 0)), (1, .int (iI a0)), (2, .int (iI x)), (3, .int (iI y))] → W p l e R s m args below meth c H locs 0 0 Q (F0 m 209 ls [.int (iI (bz v5)), .long (lI k0), .long (lI bb), .long (lI aa), .ref (ad 0)]) := by
            intro v5 ls hv5 hl
            refine lv_lload hx hb dM_curveCount_209 (lv_at hl 4 rfl) ?_
            refine lv_lload hx hb dM_curveCount_211 (lv_at hl 3 rfl) ?_
            refine lv_lload hx hb dM_curveCount_213 (lv_at hl 2 rfl) ?_
            have hFc := xw_free hD hS hA
            refine va_calli (va_runV (As := [.long (lI aa), .long (lI bb), .long (lI k0), .int (iI (bz v5)), .long (lI e0), .long (lI f0), .long (lI g0)]) (rest := []) ⟨hx, hb, hml, hown, hts⟩ (m_isLeft l dC dI ad cs H.size ft par np nc rs npc hi lo X Y O E RX RY RO PC CV aa bb k0 v5 e0 f0 g0 (by omega) (by omega) (by omega) (by omega) (by omega) (by omega)) (cwV 7 hts (tb_V mlM_116 imM_isLeft seM_isLeft iniM coM_isLeft) rfl rfl rfl (by decide +kernel) (by subst hR; exact ⟨Nat.le_of_ble_eq_true rfl, Nat.le_of_ble_eq_true rfl⟩)) ⟨fun a9 U9 g9 mk9 q9 => by obtain ⟨q0, q1, qP, qK, qD⟩ := q9; exact ⟨q0, q1, qP, va_K.moved (u := U9) (U := U9.calling g9 mk9 a9) (Vm.Alike.refl U9.vm) qK, qD⟩, va_recv hK hP (ci := 3) (q0 := 0) rfl rfl, fun U hU hW => ⟨rfl, by rw [hU], by rw [hU]; exact hP, va_K.moved hW.alike hK, hD.weaken (fun _ _ _ _ => trivial)⟩⟩ rfl rfl hl.1 rfl (lv_room (Nat.le_of_ble_eq_true rfl)) dM_curveCount_215 ⟨by subst hR; exact Nat.le_of_ble_eq_true rfl, by subst hR; exact Nat.le_of_ble_eq_true rfl⟩) hS (fun q9 _ h9 => hFc q9 h9) hFc (fun r_215 u_215 t9 H1 locs1 ht9 hvm9 hw_215 hB9 hz9 hk9 hS1 => ?_)
            obtain ⟨hP1, hK1, hD1⟩ := hB9
            rw [ht9] at hP1
            have hP : va_P (dC, dI) vwCl (mW ad cs ft par np nc rs npc u_215.1 u_215.2 X Y O E RX RY RO PC CV) H1 := hP1
            have hD : va_D A (mW ad cs ft par np nc rs npc u_215.1 u_215.2 X Y O E RX RY RO PC CV) := hD1.weaken (fun _ _ _ h9 => hFc _ h9)
            clear hP1 hD1 hK1 hFc
            have hS := hS1
            clear hS1 hz9 hk9 ht9 hvm9
            revert hP hD hS; generalize H1 = H; generalize locs1 = locs; intro hP hD hS
            obtain ⟨hr_215, hw_215⟩ := hw_215; subst hr_215
            have cut_239_10 : ∀ (v : Int) (ls : Array Slot), (v = cvc2 aa bb k0 e0 f0 g0 fi la) → lv_has ls 22 [(17, .int (iI (bz la))), (16, .int (iI (bz fi))), (14, .long (lI g0)), (12, .long (lI f0)), (10, .long (lI e0)), (8, .long (lI k0)), (6, .long (lI bb)), (4, .long (lI aa)), (0, .ref (ad 0)), (1, .int (iI a0)), (2, .int (iI x)), (3, .int (iI y))] → W p l e R s m args below meth c H locs 0 0 Q (F0 m 239 ls [.int (iI v)]) := by
              intro v ls hv hl
              subst hQ
              exact W.iret (v := (iI v)) hx hb hr (fun t9 ht9 hW9 => ⟨⟨_, u_215, rfl, (⟨by rw [hv, e9, hfi, hla], trivial⟩), by rw [ht9]; exact hP, va_K.moved hW9.alike hK, hD⟩, hS.F ht9⟩) hS.2.2 dM_curveCount_239
            refine lv_istore (lv' := [(18, .int (iI (bz (ilf aa bb k0 v5 e0 f0 g0)))), (17, .int (iI (bz la))), (16, .int (iI (bz fi))), (14, .long (lI g0)), (12, .long (lI f0)), (10, .long (lI e0)), (8, .long (lI k0)), (6, .long (lI bb)), (4, .long (lI aa)), (0, .ref (ad 0)), (1, .int (iI a0)), (2, .int (iI x)), (3, .int (iI y))]) hx hb dM_curveCount_218 hl (by decide) rfl (fun ls hl => ?_)
            refine lv_iload hx hb dM_curveCount_220 (lv_at hl 0 rfl) ?_
            refine xb_if_ne (tgt := 229) hx hb dM_curveCount_222 (by decide) (fun c_222 => ?_) (fun c_222 => ?_)
            · skip
              refine lv_iload hx hb dM_curveCount_229 (lv_at hl 1 rfl) ?_
              refine xb_if_eq (tgt := 238) hx hb dM_curveCount_231 (by decide) (fun c_231 => ?_) (fun c_231 => ?_)
              · skip
                refine xi_iconst hx hb dM_curveCount_238 ?_
                exact cut_239_10 (-1) _ (by unfold cvc2; rw [if_neg c_177, ← hv5, if_pos c_222, if_neg (by rw [c_231]; decide)]) (lv_sub hl [1, 2, 3, 4, 5, 6, 7, 8, 9, 10, 11, 12] rfl)
              · skip
                refine xi_iconst hx hb dM_curveCount_234 ?_
                refine lv_goto (tgt := 239) hx hb dM_curveCount_235 (by decide) ?_
                exact cut_239_10 1 _ (by unfold cvc2; rw [if_neg c_177, ← hv5, if_pos c_222, if_pos c_231]) (lv_sub hl [1, 2, 3, 4, 5, 6, 7, 8, 9, 10, 11, 12] rfl)
            · skip
              refine xi_iconst hx hb dM_curveCount_225 ?_
              refine lv_goto (tgt := 239) hx hb dM_curveCount_226 (by decide) ?_
              exact cut_239_10 0 _ (by unfold cvc2; rw [if_neg c_177, ← hv5, if_neg (by rw [c_222]; decide)]) (lv_sub hl [1, 2, 3, 4, 5, 6, 7, 8, 9, 10, 11, 12] rfl)
          refine xb_icmp_ne (tgt := 208) hx hb dM_curveCount_201 (by decide) (fun c_201 => ?_) (fun c_201 => ?_)
          · skip
            refine xi_iconst hx hb dM_curveCount_208 ?_
            exact cut_209_9 false _ (by rw [← hv4]; revert c_201; clear hv4 hla c_177; cases la <;> cases v4 <;> decide) (lv_sub hl [0, 1, 2, 3, 4, 5, 6, 7, 8, 9, 10, 11] rfl)
          · skip
            refine xi_iconst hx hb dM_curveCount_204 ?_
            refine lv_goto (tgt := 209) hx hb dM_curveCount_205 (by decide) ?_
            exact cut_209_9 true _ (by rw [← hv4]; revert c_201; clear hv4 hla c_177; cases la <;> cases v4 <;> decide) (lv_sub hl [0, 1, 2, 3, 4, 5, 6, 7, 8, 9, 10, 11] rfl)
        refine lv_lload hx hb dM_curveCount_189 (lv_at hl 7 rfl) ?_
        refine lv_lconst (v := lI 0) hx hb dM_curveCount_191 (by decide +kernel) ?_
        refine xl_le (tgt := 200) hx hb dM_curveCount_192 dM_curveCount_193 (by decide) (by omega) (by omega) (fun c_192 => ?_) (fun c_192 => ?_)
        · skip
          refine xi_iconst hx hb dM_curveCount_200 ?_
          exact cut_201_8 false _ (dec_f (by omega)) (lv_sub hl [0, 1, 2, 3, 4, 5, 6, 7, 8, 9, 10, 11] rfl)
        · skip
          refine xi_iconst hx hb dM_curveCount_196 ?_
          refine lv_goto (tgt := 201) hx hb dM_curveCount_197 (by decide) ?_
          exact cut_201_8 true _ (dec_t (by omega)) (lv_sub hl [0, 1, 2, 3, 4, 5, 6, 7, 8, 9, 10, 11] rfl)
    refine lv_aload_n hx hb dM_curveCount_154 rfl (lv_at hl 7 rfl) ?_
    refine va_get (D := (dC, dI)) (ci := 3) (v := .ref (ad 8)) (C := RM) (T := TM) (N := 17) hx hb hts (fun w9 h9 => List.mem_cons_of_mem _ (inM w9 h9)) hown hK hP 0 rfl rfl 13 (by decide) (hts _ (List.mem_cons_of_mem _ flM_32)) (fun _ h9 => h9) rfl dM_curveCount_155 ?_
    refine lv_iload_n hx hb dM_curveCount_158 rfl (lv_at hl 8 rfl) ?_
    refine xi_iconst hx hb dM_curveCount_159 ?_
    refine xi_add (z := a0 + 5) hx hb dM_curveCount_160 rfl ?_
    refine xa_iald hx hb hK hP 8 7 rfl rfl (by decide) (by omega) dM_curveCount_161 ?_
    refine xi_top (y := .int (iI ry)) (by rw [e6]) ?_
    refine lv_iload_n hx hb dM_curveCount_162 rfl (lv_at hl 10 rfl) ?_
    refine xi_icmp_le (tgt := 170) hx hb dM_curveCount_163 (by decide) (by omega) (by omega) (fun c_163 => ?_) (fun c_163 => ?_)
    · skip
      refine xi_iconst hx hb dM_curveCount_170 ?_
      exact cut_171_2 false _ (dec_f (by omega)) (lv_sub hl [0, 1, 2, 3, 4, 5, 6, 7, 8, 9, 10] rfl)
    · skip
      refine xi_iconst hx hb dM_curveCount_166 ?_
      refine lv_goto (tgt := 171) hx hb dM_curveCount_167 (by decide) ?_
      exact cut_171_2 true _ (dec_t (by omega)) (lv_sub hl [0, 1, 2, 3, 4, 5, 6, 7, 8, 9, 10] rfl)
  refine lv_lload hx hb dM_curveCount_140 (lv_at hl 3 rfl) ?_
  refine lv_lconst (v := lI 0) hx hb dM_curveCount_142 (by decide +kernel) ?_
  refine xl_le (tgt := 151) hx hb dM_curveCount_143 dM_curveCount_144 (by decide) (by omega) (by omega) (fun c_143 => ?_) (fun c_143 => ?_)
  · skip
    refine xi_iconst hx hb dM_curveCount_151 ?_
    exact cut_152_1 false _ (dec_f (by omega)) (lv_sub hl [0, 1, 2, 3, 4, 5, 6, 7, 8, 9] rfl)
  · skip
    refine xi_iconst hx hb dM_curveCount_147 ?_
    refine lv_goto (tgt := 152) hx hb dM_curveCount_148 (by decide) ?_
    exact cut_152_1 true _ (dec_t (by omega)) (lv_sub hl [0, 1, 2, 3, 4, 5, 6, 7, 8, 9] rfl)
set_option maxHeartbeats 4000000 in
set_option maxRecDepth 100000 in
/-- windingOf -/
theorem m_windingOf (l : Launch) (dC : Nat → ClassId) (dI : Nat → Nat → Nat) (ad : Nat → Nat) (cs : Nat → ClassId) (sz : Nat) (ft : Int) (par : Bool) (np nc rs npc hi lo : Int) (X Y : Int → Int) (O : Int → Bool) (E RX RY : Int → Int) (RO : Int → Bool) (PC : Int → Int) (CV : Int → Bool) (x y : Int) (hpc : 0 ≤ npc ∧ npc ≤ 512) (hok : pcOk PC npc) (hx0 : -16384 ≤ x ∧ x ≤ 16384) (hy0 : -16384 ≤ y ∧ y ≤ 16384) : Met l yM_windingOf wM_windingOf ({ frames := 5, cells := 0, slots := 0, locals := 174 }) (va_Pc [.ref (ad 0), .int (iI x), .int (iI y)] (fun U => U.heap.size = sz ∧ va_P (dC, dI) vwCl (mW ad cs ft par np nc rs npc hi lo X Y O E RX RY RO PC CV) U.heap ∧ va_K (dC, dI) vwCl (mT cs) U ∧ va_D (fun _ => True) (mW ad cs ft par np nc rs npc hi lo X Y O E RX RY RO PC CV))) (va_Qi (fun (r : Int32) (u : Int × Int) => r = iI (wnd PC CV npc x y) ∧ True) (fun (u : Int × Int) t9 => va_P (dC, dI) vwCl (mW ad cs ft par np nc rs npc u.1 u.2 X Y O E RX RY RO PC CV) t9.heap ∧ va_K (dC, dI) vwCl (mT cs) t9 ∧ va_D (va_A (mW ad cs ft par np nc rs npc hi lo X Y O E RX RY RO PC CV) sz) (mW ad cs ft par np nc rs npc u.1 u.2 X Y O E RX RY RO PC CV)) (va_A (mW ad cs ft par np nc rs npc hi lo X Y O E RX RY RO PC CV) sz)) 0 0 (va_A (mW ad cs ft par np nc rs npc hi lo X Y O E RX RY RO PC CV) sz) := by
  refine Met.ofW (cc := cM_windingOf) (maxL := 5) (ret := (some .int)) (by decide) rfl ?_
  intro p e s m args below meth c s₁ B hml hv
  obtain ⟨hargs, hsz, hP, hK, hD0⟩ := hv
  have hx := B.exec
  have hb := B.bytes
  have hr := B.returns
  have hts := atoms_spec (ws := wM_windingOf) B.pre
  have hown : s.vm.findClass RM = some m.cls := findClass_of_methodNamed B.named
  have hlocks := B.notSynchronized
  subst hsz
  have hD := hD0.self (sz := s.heap.size)
  generalize hAe : va_A (mW ad cs ft par np nc rs npc hi lo X Y O E RX RY RO PC CV) s.heap.size = A at hD ⊢
  have hA : ∀ q : Nat, s.heap.size ≤ q → A q := fun q h => by rw [← hAe]; exact Or.inr h
  have hS0 : va_S A s.heap s.heap [] := va_S.rf
  refine x_name (fun R Q H locs hR hQ hH hlo => ?_)
  rw [← hH] at hP
  have hS : va_S A s.heap H locs := by rw [hH, hlo]; exact hS0
  refine x_entry hargs (Nat.le_of_ble_eq_true rfl) (fun ls hl => ?_)
  have hl : lv_has ls 5 [(0, .ref (ad 0)), (1, .int (iI x)), (2, .int (iI y))] := hl
  have hP : va_P (dC, dI) vwCl (mW ad cs ft par np nc rs npc hi lo X Y O E RX RY RO PC CV) H := hP
  refine xi_iconst hx hb dM_windingOf_0 ?_
  refine lv_istore_n (lv' := [(3, .int (iI 0)), (0, .ref (ad 0)), (1, .int (iI x)), (2, .int (iI y))]) hx hb dM_windingOf_1 rfl hl (by decide) rfl (fun ls hl => ?_)
  refine xi_iconst hx hb dM_windingOf_2 ?_
  refine lv_istore (lv' := [(4, .int (iI 0)), (3, .int (iI 0)), (0, .ref (ad 0)), (1, .int (iI x)), (2, .int (iI y))]) hx hb dM_windingOf_3 hl (by decide) rfl (fun ls hl => ?_)
  have cut_5_1 : ∀ (n : Nat) (k : Int) (sm : Int) (hi2 : Int) (lo2 : Int) (H : Heap) (locs : List Loc) (ls : Array Slot), ((npc - k).toNat) < n → (0 ≤ k ∧ k ≤ npc) → (sm = isum (pcc PC CV x y) k.toNat) → va_P (dC, dI) vwCl (mW ad cs ft par np nc rs npc hi2 lo2 X Y O E RX RY RO PC CV) H → va_D A (mW ad cs ft par np nc rs npc hi2 lo2 X Y O E RX RY RO PC CV) → va_S A s.heap H locs → lv_has ls 5 [(0, .ref (ad 0)), (1, .int (iI x)), (2, .int (iI y)), (3, .int (iI sm)), (4, .int (iI k))] → W p l e R s m args below meth c H locs 0 0 Q (F0 m 5 ls []) := by
    intro n
    induction n with
    | zero => intro _ _ _ _ _ _ _ hm; exact absurd hm (Nat.not_lt_zero _)
    | succ n ih =>
      intro k sm hi2 lo2 H locs ls hm i1 i2 hP hD hS hl
      have b1 := isum_bd (h := pcc PC CV x y) (fun k => pcc_bd _ _ _ _ k) k.toNat
      rw [← i2] at b1
      refine lv_iload hx hb dM_windingOf_5 (lv_at hl 4 rfl) ?_
      refine lv_aload_n hx hb dM_windingOf_7 rfl (lv_at hl 0 rfl) ?_
      refine va_get (D := (dC, dI)) (ci := 3) (v := .int (iI npc)) (C := RM) (T := TM) (N := 17) hx hb hts (fun w9 h9 => List.mem_cons_of_mem _ (inM w9 h9)) hown hK hP 0 rfl rfl 12 (by decide) (hts _ (List.mem_cons_of_mem _ flM_78)) (fun _ h9 => h9) rfl dM_windingOf_8 ?_
      refine xi_icmp_ge (tgt := 58) hx hb dM_windingOf_11 (by decide) (by omega) (by omega) (fun c_11 => ?_) (fun c_11 => ?_)
      · skip
        refine lv_iload_n hx hb dM_windingOf_58 rfl (lv_at hl 3 rfl) ?_
        subst hQ
        exact W.iret (v := (iI sm)) hx hb hr (fun t9 ht9 hW9 => ⟨⟨_, (hi2, lo2), rfl, (⟨by rw [i2, show k = npc by omega]; rfl, trivial⟩), by rw [ht9]; exact hP, va_K.moved hW9.alike hK, hD⟩, hS.F ht9⟩) hS.2.2 dM_windingOf_59
      · skip
        have cut_50_2 : ∀ (v : Int) (hi3 : Int) (lo3 : Int) (H : Heap) (locs : List Loc) (ls : Array Slot), (v = pcc PC CV x y k) → va_P (dC, dI) vwCl (mW ad cs ft par np nc rs npc hi3 lo3 X Y O E RX RY RO PC CV) H → va_D A (mW ad cs ft par np nc rs npc hi3 lo3 X Y O E RX RY RO PC CV) → va_S A s.heap H locs → lv_has ls 5 [(0, .ref (ad 0)), (1, .int (iI x)), (2, .int (iI y)), (3, .int (iI sm)), (4, .int (iI k))] → W p l e R s m args below meth c H locs 0 0 Q (F0 m 50 ls [.int (iI v), .int (iI sm)]) := by
          intro v hi3 lo3 H locs ls hv hP hD hS hl
          refine xi_add (z := sm + v) hx hb dM_windingOf_50 rfl ?_
          refine lv_istore_n (lv' := [(3, .int (iI (sm + v))), (0, .ref (ad 0)), (1, .int (iI x)), (2, .int (iI y)), (4, .int (iI k))]) hx hb dM_windingOf_51 rfl hl (by decide) rfl (fun ls hl => ?_)
          refine xi_iinc (z := k + 1) (lv' := [(4, .int (iI (k + 1))), (3, .int (iI (sm + v))), (0, .ref (ad 0)), (1, .int (iI x)), (2, .int (iI y))]) hx hb dM_windingOf_52 hl (k := 4) rfl rfl (by decide) rfl (fun ls hl => ?_)
          refine lv_goto (tgt := 5) hx hb dM_windingOf_55 (by decide) ?_
          exact ih (k + 1) (sm + v) hi3 lo3 _ _ _ (by omega) (by omega) (by rw [isum_s _ i1.1, ← i2, hv]) hP hD hS (lv_sub hl [2, 3, 4, 1, 0] rfl)
        have b2 := hok (6 * k) (by omega) (by omega)
        have b3 := hok (6 * k + 1) (by omega) (by omega)
        have b4 := hok (6 * k + 2) (by omega) (by omega)
        have b5 := hok (6 * k + 3) (by omega) (by omega)
        have b6 := hok (6 * k + 4) (by omega) (by omega)
        have b7 := hok (6 * k + 5) (by omega) (by omega)
        have b9 := pcc_bd PC CV x y k
        refine lv_iload_n hx hb dM_windingOf_14 rfl (lv_at hl 3 rfl) ?_
        refine lv_aload_n hx hb dM_windingOf_15 rfl (lv_at hl 0 rfl) ?_
        refine va_get (D := (dC, dI)) (ci := 3) (v := .ref (ad 9)) (C := RM) (T := TM) (N := 17) hx hb hts (fun w9 h9 => List.mem_cons_of_mem _ (inM w9 h9)) hown hK hP 0 rfl rfl 14 (by decide) (hts _ (List.mem_cons_of_mem _ flM_35)) (fun _ h9 => h9) rfl dM_windingOf_16 ?_
        refine lv_iload hx hb dM_windingOf_19 (lv_at hl 4 rfl) ?_
        refine xa_zald hx hb hK hP 9 8 rfl rfl (by decide) (by omega) dM_windingOf_21 ?_
        refine xb_if_eq (tgt := 39) hx hb dM_windingOf_22 (by decide) (fun c_22 => ?_) (fun c_22 => ?_)
        · skip
          refine lv_aload_n hx hb dM_windingOf_39 rfl (lv_at hl 0 rfl) ?_
          refine lv_bipush (v := iI 6) hx hb dM_windingOf_40 (by decide +kernel) ?_
          refine lv_iload hx hb dM_windingOf_42 (lv_at hl 4 rfl) ?_
          refine xi_mul (z := 6 * k) hx hb dM_windingOf_44 rfl ?_
          refine lv_iload_n hx hb dM_windingOf_45 rfl (lv_at hl 1 rfl) ?_
          refine lv_iload_n hx hb dM_windingOf_46 rfl (lv_at hl 2 rfl) ?_
          refine vp_callSi (W.runV (As := [.int (iI (6 * k)), .int (iI x), .int (iI y)]) (rest := [.int (iI sm)]) ⟨hx, hb, hml, hown, hts⟩ (m_lineCount l dC dI ad cs ft par np nc rs npc hi2 lo2 X Y O E RX RY RO PC CV (6 * k) x y (PC (6 * k)) (PC (6 * k + 1)) (PC (6 * k + 2)) (PC (6 * k + 3)) (PC (6 * k + 4)) (PC (6 * k + 5)) rfl rfl rfl rfl rfl rfl b2 b3 b4 b5 b6 b7 hx0 hy0 (by omega)) (cwV 3 hts (tb_V mlM_128 imM_lineCount seM_lineCount iniM coM_lineCount) rfl rfl rfl (by decide +kernel) (by subst hR; exact ⟨Nat.le_of_ble_eq_true rfl, Nat.le_of_ble_eq_true rfl⟩)) ⟨fun a9 U9 g9 mk9 q9 => by obtain ⟨q0, qP, qK⟩ := q9; exact ⟨q0, qP, va_K.moved (u := U9) (U := U9.calling g9 mk9 a9) (Vm.Alike.refl U9.vm) qK⟩, va_recv hK hP (ci := 3) (q0 := 0) rfl rfl, fun U hU hW => ⟨rfl, by rw [hU]; exact hP, va_K.moved hW.alike hK⟩⟩ rfl rfl hl.1 rfl (lv_room (Nat.le_of_ble_eq_true rfl)) dM_windingOf_47 ⟨by subst hR; exact Nat.zero_le _, by subst hR; exact Nat.zero_le _⟩) (fun r_47 hw_47 => ?_)
          subst hw_47
          exact cut_50_2 (lnc (PC (6 * k)) (PC (6 * k + 1)) (PC (6 * k + 4)) (PC (6 * k + 5)) x y) hi2 lo2 _ _ _ (by unfold pcc; rw [if_neg (by rw [c_22]; decide)]) hP hD hS (lv_sub hl [0, 1, 2, 3, 4] rfl)
        · skip
          refine lv_aload_n hx hb dM_windingOf_25 rfl (lv_at hl 0 rfl) ?_
          refine lv_bipush (v := iI 6) hx hb dM_windingOf_26 (by decide +kernel) ?_
          refine lv_iload hx hb dM_windingOf_28 (lv_at hl 4 rfl) ?_
          refine xi_mul (z := 6 * k) hx hb dM_windingOf_30 rfl ?_
          refine lv_iload_n hx hb dM_windingOf_31 rfl (lv_at hl 1 rfl) ?_
          refine lv_iload_n hx hb dM_windingOf_32 rfl (lv_at hl 2 rfl) ?_
          have hFc := xw_free hD hS hA
          refine va_calli (va_runV (As := [.int (iI (6 * k)), .int (iI x), .int (iI y)]) (rest := [.int (iI sm)]) ⟨hx, hb, hml, hown, hts⟩ (m_curveCount l dC dI ad cs H.size ft par np nc rs npc hi2 lo2 X Y O E RX RY RO PC CV (6 * k) x y (PC (6 * k)) (PC (6 * k + 1)) (PC (6 * k + 2)) (PC (6 * k + 3)) (PC (6 * k + 4)) (PC (6 * k + 5)) rfl rfl rfl rfl rfl rfl b2 b3 b4 b5 b6 b7 hx0 hy0 (by omega)) (cwV 3 hts (tb_V mlM_124 imM_curveCount seM_curveCount iniM coM_curveCount) rfl rfl rfl (by decide +kernel) (by subst hR; exact ⟨Nat.le_of_ble_eq_true rfl, Nat.le_of_ble_eq_true rfl⟩)) ⟨fun a9 U9 g9 mk9 q9 => by obtain ⟨q0, q1, qP, qK, qD⟩ := q9; exact ⟨q0, q1, qP, va_K.moved (u := U9) (U := U9.calling g9 mk9 a9) (Vm.Alike.refl U9.vm) qK, qD⟩, va_recv hK hP (ci := 3) (q0 := 0) rfl rfl, fun U hU hW => ⟨rfl, by rw [hU], by rw [hU]; exact hP, va_K.moved hW.alike hK, hD.weaken (fun _ _ _ _ => trivial)⟩⟩ rfl rfl hl.1 rfl (lv_room (Nat.le_of_ble_eq_true rfl)) dM_windingOf_33 ⟨by subst hR; exact Nat.le_of_ble_eq_true rfl, by subst hR; exact Nat.le_of_ble_eq_true rfl⟩) hS (fun q9 _ h9 => hFc q9 h9) hFc (fun r_33 u_33 t9 H1 locs1 ht9 hvm9 hw_33 hB9 hz9 hk9 hS1 => ?_)
          obtain ⟨hP1, hK1, hD1⟩ := hB9
          rw [ht9] at hP1
          have hP : va_P (dC, dI) vwCl (mW ad cs ft par np nc rs npc u_33.1 u_33.2 X Y O E RX RY RO PC CV) H1 := hP1
          have hD : va_D A (mW ad cs ft par np nc rs npc u_33.1 u_33.2 X Y O E RX RY RO PC CV) := hD1.weaken (fun _ _ _ h9 => hFc _ h9)
          clear hP1 hD1 hK1 hFc
          have hS := hS1
          clear hS1 hz9 hk9 ht9 hvm9
          revert hP hD hS; generalize H1 = H; generalize locs1 = locs; intro hP hD hS
          obtain ⟨hr_33, hw_33⟩ := hw_33; subst hr_33
          refine lv_goto (tgt := 50) hx hb dM_windingOf_36 (by decide) ?_
          exact cut_50_2 (cvc (PC (6 * k)) (PC (6 * k + 1)) (PC (6 * k + 2)) (PC (6 * k + 3)) (PC (6 * k + 4)) (PC (6 * k + 5)) x y) u_33.1 u_33.2 _ _ _ (by unfold pcc; rw [if_pos c_22]) hP hD hS (lv_sub hl [0, 1, 2, 3, 4] rfl)
  exact cut_5_1 (((npc - (0 : Int)).toNat) + 1) 0 0 hi lo _ _ _ (Nat.lt_succ_self _) (by omega) (rfl) hP hD hS (lv_sub hl [2, 3, 4, 1, 0] rfl)
set_option maxHeartbeats 4000000 in
set_option maxRecDepth 100000 in
/-- isIn -/
theorem m_isIn (l : Launch) (dC : Nat → ClassId) (dI : Nat → Nat → Nat) (ad : Nat → Nat) (cs : Nat → ClassId) (sz : Nat) (ft : Int) (par : Bool) (np nc rs npc hi lo : Int) (X Y : Int → Int) (O : Int → Bool) (E RX RY : Int → Int) (RO : Int → Bool) (PC : Int → Int) (CV : Int → Bool) (x y : Int) (hpc : 0 ≤ npc ∧ npc ≤ 512) (hok : pcOk PC npc) (hx0 : -16384 ≤ x ∧ x ≤ 16384) (hy0 : -16384 ≤ y ∧ y ≤ 16384) : Met l yM_isIn wM_isIn ({ frames := 6, cells := 0, slots := 0, locals := 198 }) (va_Pc [.ref (ad 0), .int (iI x), .int (iI y)] (fun U => U.heap.size = sz ∧ va_P (dC, dI) vwCl (mW ad cs ft par np nc rs npc hi lo X Y O E RX RY RO PC CV) U.heap ∧ va_K (dC, dI) vwCl (mT cs) U ∧ va_D (fun _ => True) (mW ad cs ft par np nc rs npc hi lo X Y O E RX RY RO PC CV))) (va_Qi (fun (r : Int32) (u : Int × Int) => r = iI (bz (isin par (wnd PC CV npc x y))) ∧ True) (fun (u : Int × Int) t9 => va_P (dC, dI) vwCl (mW ad cs ft par np nc rs npc u.1 u.2 X Y O E RX RY RO PC CV) t9.heap ∧ va_K (dC, dI) vwCl (mT cs) t9 ∧ va_D (va_A (mW ad cs ft par np nc rs npc hi lo X Y O E RX RY RO PC CV) sz) (mW ad cs ft par np nc rs npc u.1 u.2 X Y O E RX RY RO PC CV)) (va_A (mW ad cs ft par np nc rs npc hi lo X Y O E RX RY RO PC CV) sz)) 0 0 (va_A (mW ad cs ft par np nc rs npc hi lo X Y O E RX RY RO PC CV) sz) := by
  refine Met.ofW (cc := cM_isIn) (maxL := 4) (ret := (some .boolean)) (by decide) rfl ?_
  intro p e s m args below meth c s₁ B hml hv
  obtain ⟨hargs, hsz, hP, hK, hD0⟩ := hv
  have hx := B.exec
  have hb := B.bytes
  have hr := B.returns
  have hts := atoms_spec (ws := wM_isIn) B.pre
  have hown : s.vm.findClass RM = some m.cls := findClass_of_methodNamed B.named
  have hlocks := B.notSynchronized
  subst hsz
  have hD := hD0.self (sz := s.heap.size)
  generalize hAe : va_A (mW ad cs ft par np nc rs npc hi lo X Y O E RX RY RO PC CV) s.heap.size = A at hD ⊢
  have hA : ∀ q : Nat, s.heap.size ≤ q → A q := fun q h => by rw [← hAe]; exact Or.inr h
  have hS0 : va_S A s.heap s.heap [] := va_S.rf
  refine x_name (fun R Q H locs hR hQ hH hlo => ?_)
  rw [← hH] at hP
  have hS : va_S A s.heap H locs := by rw [hH, hlo]; exact hS0
  refine x_entry hargs (Nat.le_of_ble_eq_true rfl) (fun ls hl => ?_)
  have hl : lv_has ls 4 [(0, .ref (ad 0)), (1, .int (iI x)), (2, .int (iI y))] := hl
  have hP : va_P (dC, dI) vwCl (mW ad cs ft par np nc rs npc hi lo X Y O E RX RY RO PC CV) H := hP
  obtain ⟨w, hw⟩ : ∃ z, z = wnd PC CV npc x y := ⟨_, rfl⟩
  have b1 := wnd_bd PC CV x y hpc
  rw [← hw] at b1
  obtain ⟨z2, hz2, b2, b3⟩ := rem2 (w := w) (by omega)
  refine lv_aload_n hx hb dM_isIn_0 rfl (lv_at hl 0 rfl) ?_
  refine lv_iload_n hx hb dM_isIn_1 rfl (lv_at hl 1 rfl) ?_
  refine lv_iload_n hx hb dM_isIn_2 rfl (lv_at hl 2 rfl) ?_
  have hFc := xw_free hD hS hA
  refine va_calli (va_runV (As := [.int (iI x), .int (iI y)]) (rest := []) ⟨hx, hb, hml, hown, hts⟩ (m_windingOf l dC dI ad cs H.size ft par np nc rs npc hi lo X Y O E RX RY RO PC CV x y hpc hok hx0 hy0) (cwV 2 hts (tb_V mlM_131 imM_windingOf seM_windingOf iniM coM_windingOf) rfl rfl rfl (by decide +kernel) (by subst hR; exact ⟨Nat.le_of_ble_eq_true rfl, Nat.le_of_ble_eq_true rfl⟩)) ⟨fun a9 U9 g9 mk9 q9 => by obtain ⟨q0, q1, qP, qK, qD⟩ := q9; exact ⟨q0, q1, qP, va_K.moved (u := U9) (U := U9.calling g9 mk9 a9) (Vm.Alike.refl U9.vm) qK, qD⟩, va_recv hK hP (ci := 3) (q0 := 0) rfl rfl, fun U hU hW => ⟨rfl, by rw [hU], by rw [hU]; exact hP, va_K.moved hW.alike hK, hD.weaken (fun _ _ _ _ => trivial)⟩⟩ rfl rfl hl.1 rfl (lv_room (Nat.le_of_ble_eq_true rfl)) dM_isIn_3 ⟨by subst hR; exact Nat.le_of_ble_eq_true rfl, by subst hR; exact Nat.le_of_ble_eq_true rfl⟩) hS (fun q9 _ h9 => hFc q9 h9) hFc (fun r_3 u_3 t9 H1 locs1 ht9 hvm9 hw_3 hB9 hz9 hk9 hS1 => ?_)
  obtain ⟨hP1, hK1, hD1⟩ := hB9
  rw [ht9] at hP1
  have hP : va_P (dC, dI) vwCl (mW ad cs ft par np nc rs npc u_3.1 u_3.2 X Y O E RX RY RO PC CV) H1 := hP1
  have hD : va_D A (mW ad cs ft par np nc rs npc u_3.1 u_3.2 X Y O E RX RY RO PC CV) := hD1.weaken (fun _ _ _ h9 => hFc _ h9)
  clear hP1 hD1 hK1 hFc
  have hS := hS1
  clear hS1 hz9 hk9 ht9 hvm9
  revert hP hD hS; generalize H1 = H; generalize locs1 = locs; intro hP hD hS
  obtain ⟨hr_3, -⟩ := hw_3
  refine xi_top (y := .int (iI w)) (by rw [hr_3, hw]) ?_
  refine lv_istore_n (lv' := [(3, .int (iI w)), (0, .ref (ad 0)), (1, .int (iI x)), (2, .int (iI y))]) hx hb dM_isIn_6 rfl hl (by decide) rfl (fun ls hl => ?_)
  have cut_37_1 : ∀ (v : Bool) (ls : Array Slot), (v = isin par w) → lv_has ls 4 [(3, .int (iI w)), (0, .ref (ad 0)), (1, .int (iI x)), (2, .int (iI y))] → W p l e R s m args below meth c H locs 0 0 Q (F0 m 37 ls [.int (iI (bz v))]) := by
    intro v ls hv hl
    subst hQ
    exact W.zret (v := (iI (bz v))) hx hb hr (xi_narZ2 _) (fun t9 ht9 hW9 => ⟨⟨_, u_3, rfl, (⟨by rw [hv, hw], trivial⟩), by rw [ht9]; exact hP, va_K.moved hW9.alike hK, hD⟩, hS.F ht9⟩) hS.2.2 dM_isIn_37
  refine lv_aload_n hx hb dM_isIn_7 rfl (lv_at hl 1 rfl) ?_
  refine va_get (D := (dC, dI)) (ci := 3) (v := .int (iI (bz par))) (C := RM) (T := TM) (N := 17) hx hb hts (fun w9 h9 => List.mem_cons_of_mem _ (inM w9 h9)) hown hK hP 0 rfl rfl 1 (by decide) (hts _ (List.mem_cons_of_mem _ flM_67)) (fun _ h9 => h9) rfl dM_isIn_8 ?_
  refine xb_if_eq (tgt := 28) hx hb dM_isIn_11 (by decide) (fun c_11 => ?_) (fun c_11 => ?_)
  · skip
    refine lv_iload_n hx hb dM_isIn_28 rfl (lv_at hl 0 rfl) ?_
    refine xi_if_eq (tgt := 36) hx hb dM_isIn_29 (by decide) (by omega) (fun c_29 => ?_) (fun c_29 => ?_)
    · skip
      refine xi_iconst hx hb dM_isIn_36 ?_
      exact cut_37_1 false _ (by unfold isin; rw [if_neg (by rw [c_11]; decide), decide_eq_false (by omega)]) (lv_sub hl [0, 1, 2, 3] rfl)
    · skip
      refine xi_iconst hx hb dM_isIn_32 ?_
      refine lv_goto (tgt := 37) hx hb dM_isIn_33 (by decide) ?_
      exact cut_37_1 true _ (by unfold isin; rw [if_neg (by rw [c_11]; decide), decide_eq_true (by omega)]) (lv_sub hl [0, 1, 2, 3] rfl)
  · skip
    refine lv_iload_n hx hb dM_isIn_14 rfl (lv_at hl 0 rfl) ?_
    refine xi_iconst hx hb dM_isIn_15 ?_
    refine lv_irem hx hb dM_isIn_16 (by decide +kernel) ?_
    refine xi_top (y := .int (iI z2)) (by rw [hz2]) ?_
    refine xi_if_eq (tgt := 24) hx hb dM_isIn_17 (by decide) (by omega) (fun c_17 => ?_) (fun c_17 => ?_)
    · skip
      refine xi_iconst hx hb dM_isIn_24 ?_
      refine lv_goto (tgt := 37) hx hb dM_isIn_25 (by decide) ?_
      exact cut_37_1 false _ (by unfold isin; rw [if_pos c_11, decide_eq_false (by omega)]) (lv_sub hl [0, 1, 2, 3] rfl)
    · skip
      refine xi_iconst hx hb dM_isIn_20 ?_
      refine lv_goto (tgt := 37) hx hb dM_isIn_21 (by decide) ?_
      exact cut_37_1 true _ (by unfold isin; rw [if_pos c_11, decide_eq_true (by omega)]) (lv_sub hl [0, 1, 2, 3] rfl)
set_option maxHeartbeats 4000000 in
set_option maxRecDepth 100000 in
/-- isSet -/
theorem m_isSet (l : Launch) (dC : Nat → ClassId) (dI : Nat → Nat → Nat) (ad : Nat → Nat) (cs : Nat → ClassId) (sz : Nat) (ft : Int) (par : Bool) (np nc rs npc hi lo : Int) (X Y : Int → Int) (O : Int → Bool) (E RX RY : Int → Int) (RO : Int → Bool) (PC : Int → Int) (CV : Int → Bool) (x q : Int) (hpc : 0 ≤ npc ∧ npc ≤ 512) (hok : pcOk PC npc) (hx0 : 0 ≤ x ∧ x ≤ 63) (hq0 : 0 ≤ q ∧ q ≤ 63) : Met l yM_isSet wM_isSet ({ frames := 7, cells := 0, slots := 0, locals := 221 }) (va_Pc [.ref (ad 0), .int (iI x), .int (iI q)] (fun U => U.heap.size = sz ∧ va_P (dC, dI) vwCl (mW ad cs ft par np nc rs npc hi lo X Y O E RX RY RO PC CV) U.heap ∧ va_K (dC, dI) vwCl (mT cs) U ∧ va_D (fun _ => True) (mW ad cs ft par np nc rs npc hi lo X Y O E RX RY RO PC CV))) (va_Qi (fun (r : Int32) (u : Int × Int) => r = iI (bz (isin par (wnd PC CV npc (64 * x + 32) (64 * (63 - q) + 32)))) ∧ True) (fun (u : Int × Int) t9 => va_P (dC, dI) vwCl (mW ad cs ft par np nc rs npc u.1 u.2 X Y O E RX RY RO PC CV) t9.heap ∧ va_K (dC, dI) vwCl (mT cs) t9 ∧ va_D (va_A (mW ad cs ft par np nc rs npc hi lo X Y O E RX RY RO PC CV) sz) (mW ad cs ft par np nc rs npc u.1 u.2 X Y O E RX RY RO PC CV)) (va_A (mW ad cs ft par np nc rs npc hi lo X Y O E RX RY RO PC CV) sz)) 0 0 (va_A (mW ad cs ft par np nc rs npc hi lo X Y O E RX RY RO PC CV) sz) := by
  refine Met.ofW (cc := cM_isSet) (maxL := 3) (ret := (some .boolean)) (by decide) rfl ?_
  intro p e s m args below meth c s₁ B hml hv
  obtain ⟨hargs, hsz, hP, hK, hD0⟩ := hv
  have hx := B.exec
  have hb := B.bytes
  have hr := B.returns
  have hts := atoms_spec (ws := wM_isSet) B.pre
  have hown : s.vm.findClass RM = some m.cls := findClass_of_methodNamed B.named
  have hlocks := B.notSynchronized
  subst hsz
  have hD := hD0.self (sz := s.heap.size)
  generalize hAe : va_A (mW ad cs ft par np nc rs npc hi lo X Y O E RX RY RO PC CV) s.heap.size = A at hD ⊢
  have hA : ∀ q : Nat, s.heap.size ≤ q → A q := fun q h => by rw [← hAe]; exact Or.inr h
  have hS0 : va_S A s.heap s.heap [] := va_S.rf
  refine x_name (fun R Q H locs hR hQ hH hlo => ?_)
  rw [← hH] at hP
  have hS : va_S A s.heap H locs := by rw [hH, hlo]; exact hS0
  refine x_entry hargs (Nat.le_of_ble_eq_true rfl) (fun ls hl => ?_)
  have hl : lv_has ls 3 [(0, .ref (ad 0)), (1, .int (iI x)), (2, .int (iI q))] := hl
  have hP : va_P (dC, dI) vwCl (mW ad cs ft par np nc rs npc hi lo X Y O E RX RY RO PC CV) H := hP
  refine lv_aload_n hx hb dM_isSet_0 rfl (lv_at hl 0 rfl) ?_
  refine lv_bipush (v := iI 64) hx hb dM_isSet_1 (by decide +kernel) ?_
  refine lv_iload_n hx hb dM_isSet_3 rfl (lv_at hl 1 rfl) ?_
  refine xi_mul (z := 64 * x) hx hb dM_isSet_4 rfl ?_
  refine lv_bipush (v := iI 32) hx hb dM_isSet_5 (by decide +kernel) ?_
  refine xi_add (z := (64 * x) + 32) hx hb dM_isSet_7 rfl ?_
  refine lv_bipush (v := iI 64) hx hb dM_isSet_8 (by decide +kernel) ?_
  refine lv_bipush (v := iI 63) hx hb dM_isSet_10 (by decide +kernel) ?_
  refine lv_iload_n hx hb dM_isSet_12 rfl (lv_at hl 2 rfl) ?_
  refine xi_sub (z := 63 - q) hx hb dM_isSet_13 rfl ?_
  refine xi_mul (z := 64 * (63 - q)) hx hb dM_isSet_14 rfl ?_
  refine lv_bipush (v := iI 32) hx hb dM_isSet_15 (by decide +kernel) ?_
  refine xi_add (z := (64 * (63 - q)) + 32) hx hb dM_isSet_17 rfl ?_
  have hFc := xw_free hD hS hA
  refine va_calli (va_runV (As := [.int (iI ((64 * x) + 32)), .int (iI ((64 * (63 - q)) + 32))]) (rest := []) ⟨hx, hb, hml, hown, hts⟩ (m_isIn l dC dI ad cs H.size ft par np nc rs npc hi lo X Y O E RX RY RO PC CV (64 * x + 32) (64 * (63 - q) + 32) hpc hok (by omega) (by omega)) (cwV 2 hts (tb_V mlM_135 imM_isIn seM_isIn iniM coM_isIn) rfl rfl rfl (by decide +kernel) (by subst hR; exact ⟨Nat.le_of_ble_eq_true rfl, Nat.le_of_ble_eq_true rfl⟩)) ⟨fun a9 U9 g9 mk9 q9 => by obtain ⟨q0, q1, qP, qK, qD⟩ := q9; exact ⟨q0, q1, qP, va_K.moved (u := U9) (U := U9.calling g9 mk9 a9) (Vm.Alike.refl U9.vm) qK, qD⟩, va_recv hK hP (ci := 3) (q0 := 0) rfl rfl, fun U hU hW => ⟨rfl, by rw [hU], by rw [hU]; exact hP, va_K.moved hW.alike hK, hD.weaken (fun _ _ _ _ => trivial)⟩⟩ rfl rfl hl.1 rfl (lv_room (Nat.le_of_ble_eq_true rfl)) dM_isSet_18 ⟨by subst hR; exact Nat.le_of_ble_eq_true rfl, by subst hR; exact Nat.le_of_ble_eq_true rfl⟩) hS (fun q9 _ h9 => hFc q9 h9) hFc (fun r_18 u_18 t9 H1 locs1 ht9 hvm9 hw_18 hB9 hz9 hk9 hS1 => ?_)
  obtain ⟨hP1, hK1, hD1⟩ := hB9
  rw [ht9] at hP1
  have hP : va_P (dC, dI) vwCl (mW ad cs ft par np nc rs npc u_18.1 u_18.2 X Y O E RX RY RO PC CV) H1 := hP1
  have hD : va_D A (mW ad cs ft par np nc rs npc u_18.1 u_18.2 X Y O E RX RY RO PC CV) := hD1.weaken (fun _ _ _ h9 => hFc _ h9)
  clear hP1 hD1 hK1 hFc
  have hS := hS1
  clear hS1 hz9 hk9 ht9 hvm9
  revert hP hD hS; generalize H1 = H; generalize locs1 = locs; intro hP hD hS
  obtain ⟨hr_18, hw_18⟩ := hw_18; subst hr_18
  subst hQ
  exact W.zret (v := (iI (bz (isin par (wnd PC CV npc (64 * x + 32) (64 * (63 - q) + 32)))))) hx hb hr (xi_narZ2 _) (fun t9 ht9 hW9 => ⟨⟨_, u_18, rfl, (⟨rfl, trivial⟩), by rw [ht9]; exact hP, va_K.moved hW9.alike hK, hD⟩, hS.F ht9⟩) hS.2.2 dM_isSet_21
end
section
/-! the reference: points, contours, rings -/
def okc (z : Int) : Prop := -8192 ≤ z ∧ z ≤ 8191
def clo (nc : Int) (E : Int → Int) : Int := if nc = 0 then 0 else E (nc - 1)
def fA (x y np : Int) : Int := if (-8192 ≤ x ∧ x ≤ 8191) ∧ (-8192 ≤ y ∧ y ≤ 8191) then (if np = 512 then 2 else 0) else 1
theorem fA_in (x y np : Int) : 0 ≤ fA x y np ∧ fA x y np ≤ 2 := by unfold fA; repeat' split
                                                                   all_goals omega
def fC (np nc : Int) (E : Int → Int) : Int := if np - clo nc E = 0 ∨ nc = 64 then 1 else 0
theorem fC_in (np nc : Int) (E : Int → Int) : 0 ≤ fC np nc E ∧ fC np nc E ≤ 1 := by unfold fC; split <;> omega
def mvok (X Y : Int → Int) (dx dy : Int) : Nat → Bool | 0 => true | n + 1 => mvok X Y dx dy n && decide ((-8192 ≤ X (n : Int) + dx ∧ X (n : Int) + dx ≤ 8191) ∧ (-8192 ≤ Y (n : Int) + dy ∧ Y (n : Int) + dy ≤ 8191))
theorem mvok_s (X Y : Int → Int) (dx dy : Int) {z : Int} (hz : 0 ≤ z) : mvok X Y dx dy (z + 1).toNat = (mvok X Y dx dy z.toNat && decide ((-8192 ≤ X z + dx ∧ X z + dx ≤ 8191) ∧ (-8192 ≤ Y z + dy ∧ Y z + dy ≤ 8191))) := by
  have h1 : (z + 1).toNat = z.toNat + 1 := by omega
  rw [h1]
  show (mvok X Y dx dy z.toNat && decide ((-8192 ≤ X ((z.toNat : Nat) : Int) + dx ∧ X ((z.toNat : Nat) : Int) + dx ≤ 8191) ∧ (-8192 ≤ Y ((z.toNat : Nat) : Int) + dy ∧ Y ((z.toNat : Nat) : Int) + dy ≤ 8191))) = _
  rw [Int.toNat_of_nonneg hz]
def fM (X Y : Int → Int) (dx dy np : Int) : Int := if mvok X Y dx dy np.toNat = true then 0 else 1
def mvF (X : Int → Int) (dx np : Int) : Int → Int := fun k => if 0 ≤ k ∧ k < np then X k + dx else X k
theorem mvF_0 (X : Int → Int) (dx : Int) : mvF X dx 0 = X := by funext k; unfold mvF; rw [if_neg (by omega)]
theorem mvF_s (X : Int → Int) (dx : Int) {z : Int} (hz : 0 ≤ z) : up (mvF X dx z) z (mvF X dx z z + dx) = mvF X dx (z + 1) := by
  funext k
  unfold up mvF
  by_cases h : k = z
  · subst h; rw [if_pos rfl, if_neg (by omega), if_pos (by omega)]
  · rw [if_neg h]
    by_cases h2 : 0 ≤ k ∧ k < z
    · rw [if_pos h2, if_pos (by omega)]
    · rw [if_neg h2, if_neg (by omega)]
theorem mvF_at (X : Int → Int) (dx z : Int) : mvF X dx z z = X z := by unfold mvF; rw [if_neg (by omega)]
def nx (a b i : Int) : Int := if i + 1 < b then i + 1 else a
def mid (O : Int → Bool) (a b i : Int) : Bool := !O i && !O (nx a b i)
def rp (O : Int → Bool) (a b : Int) : Nat → Int | 0 => 0 | n + 1 => rp O a b n + (if mid O a b (a + (n : Int)) = true then 2 else 1)
def rpos (O : Int → Bool) (a b i : Int) : Int := rp O a b (i - a).toNat
theorem rpos_a (O : Int → Bool) (a b : Int) : rpos O a b a = 0 := by unfold rpos; rw [show a - a = 0 by omega]; rfl
theorem rpos_s (O : Int → Bool) (a b : Int) {i : Int} (h : a ≤ i) : rpos O a b (i + 1) = rpos O a b i + (if mid O a b i = true then 2 else 1) := by
  unfold rpos
  have h1 : (i + 1 - a).toNat = (i - a).toNat + 1 := by omega
  rw [h1]
  show rp O a b (i - a).toNat + (if mid O a b (a + ((i - a).toNat : Int)) = true then 2 else 1) = _
  rw [show a + ((i - a).toNat : Int) = i by omega]
theorem rpos_lt (O : Int → Bool) (a b : Int) {i j : Int} (h : a ≤ i) (hij : i < j) : rpos O a b i + (if mid O a b i = true then 2 else 1) ≤ rpos O a b j := by
  obtain ⟨n, hn⟩ : ∃ n : Nat, j = i + 1 + n := ⟨(j - i - 1).toNat, by omega⟩
  subst hn
  induction n with
  | zero => rw [show i + 1 + ((0 : Nat) : Int) = i + 1 by omega, rpos_s O a b h]; exact Int.le_refl _
  | succ n ih =>
    have h1 := ih (by omega)
    have h2 := rpos_s O a b (i := i + 1 + (n : Int)) (by omega)
    rw [show i + 1 + ((n + 1 : Nat) : Int) = i + 1 + (n : Int) + 1 by omega, h2]
    split <;> split at h1 <;> omega
theorem rpos_bd (O : Int → Bool) (a b : Int) {i : Int} (h : a ≤ i) : i - a ≤ rpos O a b i ∧ rpos O a b i ≤ 2 * (i - a) := by
  obtain ⟨n, hn⟩ : ∃ n : Nat, i = a + n := ⟨(i - a).toNat, by omega⟩
  subst hn
  induction n with
  | zero => rw [show a + ((0 : Nat) : Int) = a by omega, rpos_a]; omega
  | succ n ih =>
    have h1 := ih (by omega)
    have h2 := rpos_s O a b (i := a + (n : Int)) (by omega)
    rw [show a + ((n + 1 : Nat) : Int) = a + (n : Int) + 1 by omega, h2]
    split <;> omega
/-- the ring holds the points from a to i, and those put in between -/
def ringOk (X Y : Int → Int) (O : Int → Bool) (a b : Int) (RX RY : Int → Int) (RO : Int → Bool) (i : Int) : Prop :=
  ∀ j : Int, a ≤ j → j < i → (RX (rpos O a b j) = X j ∧ RY (rpos O a b j) = Y j ∧ RO (rpos O a b j) = O j) ∧ (mid O a b j = true → RX (rpos O a b j + 1) = (X j + X (nx a b j)) / 2 ∧ RY (rpos O a b j + 1) = (Y j + Y (nx a b j)) / 2 ∧ RO (rpos O a b j + 1) = true)
theorem ringOk_1 {X Y : Int → Int} {O : Int → Bool} {a b : Int} {RX RY : Int → Int} {RO : Int → Bool} {i : Int} (hi : a ≤ i) (hm : mid O a b i = false) (h : ringOk X Y O a b RX RY RO i) : ringOk X Y O a b (up RX (rpos O a b i) (X i)) (up RY (rpos O a b i) (Y i)) (up RO (rpos O a b i) (O i)) (i + 1) := by
  intro j h1 h2
  by_cases hj : j = i
  · subst hj
    rw [up_s, up_s, up_s]
    exact ⟨⟨rfl, rfl, rfl⟩, fun q => by rw [hm] at q; cases q⟩
  · obtain ⟨q1, q2⟩ := h j h1 (by omega)
    have l := rpos_lt O a b h1 (show j < i by omega)
    rw [up_n _ _ (by split at l <;> omega), up_n _ _ (by split at l <;> omega), up_n _ _ (by split at l <;> omega)]
    refine ⟨q1, fun q => ?_⟩
    rw [if_pos q] at l
    rw [up_n _ _ (by omega), up_n _ _ (by omega), up_n _ _ (by omega)]
    exact q2 q
theorem ringOk_2 {X Y : Int → Int} {O : Int → Bool} {a b : Int} {RX RY : Int → Int} {RO : Int → Bool} {i : Int} (hi : a ≤ i) (h : ringOk X Y O a b RX RY RO i) : ringOk X Y O a b (up (up RX (rpos O a b i) (X i)) (rpos O a b i + 1) ((X i + X (nx a b i)) / 2)) (up (up RY (rpos O a b i) (Y i)) (rpos O a b i + 1) ((Y i + Y (nx a b i)) / 2)) (up (up RO (rpos O a b i) (O i)) (rpos O a b i + 1) true) (i + 1) := by
  intro j h1 h2
  by_cases hj : j = i
  · subst hj
    have n1 : rpos O a b j ≠ rpos O a b j + 1 := by omega
    exact ⟨⟨by rw [up_n _ _ n1, up_s], by rw [up_n _ _ n1, up_s], by rw [up_n _ _ n1, up_s]⟩, fun _ => ⟨by rw [up_s], by rw [up_s], by rw [up_s]⟩⟩
  · obtain ⟨q1, q2⟩ := h j h1 (by omega)
    have l := rpos_lt O a b h1 (show j < i by omega)
    have l2 : rpos O a b j + 1 ≤ rpos O a b i := by split at l <;> omega
    rw [up_n _ _ (show rpos O a b j ≠ rpos O a b i + 1 by omega), up_n _ _ (show rpos O a b j ≠ rpos O a b i by omega), up_n _ _ (show rpos O a b j ≠ rpos O a b i + 1 by omega), up_n _ _ (show rpos O a b j ≠ rpos O a b i by omega), up_n _ _ (show rpos O a b j ≠ rpos O a b i + 1 by omega), up_n _ _ (show rpos O a b j ≠ rpos O a b i by omega)]
    refine ⟨q1, fun q => ?_⟩
    rw [if_pos q] at l
    rw [up_n _ _ (show rpos O a b j + 1 ≠ rpos O a b i + 1 by omega), up_n _ _ (show rpos O a b j + 1 ≠ rpos O a b i by omega), up_n _ _ (show rpos O a b j + 1 ≠ rpos O a b i + 1 by omega), up_n _ _ (show rpos O a b j + 1 ≠ rpos O a b i by omega), up_n _ _ (show rpos O a b j + 1 ≠ rpos O a b i + 1 by omega), up_n _ _ (show rpos O a b j + 1 ≠ rpos O a b i by omega)]
    exact q2 q
theorem ringOk_0 {X Y : Int → Int} {O : Int → Bool} {a b : Int} {RX RY : Int → Int} {RO : Int → Bool} : ringOk X Y O a b RX RY RO a := fun j h1 h2 => by omega
theorem iI_shr1 {a : Int} (ha : -2147483648 ≤ a ∧ a ≤ 2147483647) : iI a >>> (iI 1 &&& 31) = iI (a / 2) := by
  apply Int32.toInt_inj.mp
  rw [pk_shr _ _ 1 (by decide +kernel), iI_toInt ha, Int.shiftRight_eq_div_pow, iI_toInt (by omega)]
  rfl

set_option maxHeartbeats 4000000 in
set_option maxRecDepth 100000 in
/-- closed -/
theorem m_closed (l : Launch) (dC : Nat → ClassId) (dI : Nat → Nat → Nat) (ad : Nat → Nat) (cs : Nat → ClassId) (ft : Int) (par : Bool) (np nc rs npc hi lo : Int) (X Y : Int → Int) (O : Int → Bool) (E RX RY : Int → Int) (RO : Int → Bool) (PC : Int → Int) (CV : Int → Bool) (h1 : 0 ≤ nc ∧ nc ≤ 64) : Met l yM_closed wM_closed ({ frames := 0, cells := 0, slots := 0, locals := 0 }) (va_Pc [.ref (ad 0)] (fun U => va_P (dC, dI) vwCl (mW ad cs ft par np nc rs npc hi lo X Y O E RX RY RO PC CV) U.heap ∧ va_K (dC, dI) vwCl (mT cs) U)) (vp_Si (fun r => r = iI (clo nc E))) 0 0 (fun _ => False) := by
  refine Met.ofW (cc := cM_closed) (maxL := 1) (ret := (some .int)) (by decide) rfl ?_
  intro p e s m args below meth c s₁ B hml hv
  obtain ⟨hargs, hP, hK⟩ := hv
  have hx := B.exec
  have hb := B.bytes
  have hr := B.returns
  have hts := atoms_spec (ws := wM_closed) B.pre
  have hown : s.vm.findClass RM = some m.cls := findClass_of_methodNamed B.named
  have hlocks := B.notSynchronized
  refine x_name (fun R Q H locs hR hQ hH hlo => ?_)
  rw [← hH] at hP
  refine x_entry hargs (Nat.le_of_ble_eq_true rfl) (fun ls hl => ?_)
  have hl : lv_has ls 1 [(0, .ref (ad 0))] := hl
  have hP : va_P (dC, dI) vwCl (mW ad cs ft par np nc rs npc hi lo X Y O E RX RY RO PC CV) H := hP
  have cut_22_1 : ∀ (v : Int) (ls : Array Slot), (v = clo nc E) → lv_has ls 1 [(0, .ref (ad 0))] → W p l e R s m args below meth c H locs 0 0 Q (F0 m 22 ls [.int (iI v)]) := by
    intro v ls hv hl
    subst hQ
    exact W.iret (v := (iI v)) hx hb hr (fun t9 ht9 hW9 => ⟨_, rfl, (by rw [hv]), ht9.trans hH⟩) (by rw [hlo]; intro q9 h9; cases h9) dM_closed_22
  refine lv_aload_n hx hb dM_closed_0 rfl (lv_at hl 0 rfl) ?_
  refine va_get (D := (dC, dI)) (ci := 3) (v := .int (iI nc)) (C := RM) (T := TM) (N := 17) hx hb hts (fun w9 h9 => List.mem_cons_of_mem _ (inM w9 h9)) hown hK hP 0 rfl rfl 6 (by decide) (hts _ (List.mem_cons_of_mem _ flM_53)) (fun _ h9 => h9) rfl dM_closed_1 ?_
  refine xi_if_ne (tgt := 11) hx hb dM_closed_4 (by decide) (by omega) (fun c_4 => ?_) (fun c_4 => ?_)
  · skip
    refine lv_aload_n hx hb dM_closed_11 rfl (lv_at hl 0 rfl) ?_
    refine va_get (D := (dC, dI)) (ci := 3) (v := .ref (ad 4)) (C := RM) (T := TM) (N := 17) hx hb hts (fun w9 h9 => List.mem_cons_of_mem _ (inM w9 h9)) hown hK hP 0 rfl rfl 7 (by decide) (hts _ (List.mem_cons_of_mem _ flM_20)) (fun _ h9 => h9) rfl dM_closed_12 ?_
    refine lv_aload_n hx hb dM_closed_15 rfl (lv_at hl 0 rfl) ?_
    refine va_get (D := (dC, dI)) (ci := 3) (v := .int (iI nc)) (C := RM) (T := TM) (N := 17) hx hb hts (fun w9 h9 => List.mem_cons_of_mem _ (inM w9 h9)) hown hK hP 0 rfl rfl 6 (by decide) (hts _ (List.mem_cons_of_mem _ flM_53)) (fun _ h9 => h9) rfl dM_closed_16 ?_
    refine xi_iconst hx hb dM_closed_19 ?_
    refine xi_sub (z := nc - 1) hx hb dM_closed_20 rfl ?_
    refine xa_iald hx hb hK hP 4 3 rfl rfl (by decide) (by omega) dM_closed_21 ?_
    exact cut_22_1 (E (nc - 1)) _ (by unfold clo; rw [if_neg c_4]) (lv_sub hl [0] rfl)
  · skip
    refine xi_iconst hx hb dM_closed_7 ?_
    refine lv_goto (tgt := 22) hx hb dM_closed_8 (by decide) ?_
    exact cut_22_1 0 _ (by unfold clo; rw [if_pos c_4]) (lv_sub hl [0] rfl)
set_option maxHeartbeats 4000000 in
set_option maxRecDepth 100000 in
/-- points since -/
theorem m_opened (l : Launch) (dC : Nat → ClassId) (dI : Nat → Nat → Nat) (ad : Nat → Nat) (cs : Nat → ClassId) (ft : Int) (par : Bool) (np nc rs npc hi lo : Int) (X Y : Int → Int) (O : Int → Bool) (E RX RY : Int → Int) (RO : Int → Bool) (PC : Int → Int) (CV : Int → Bool) (h1 : 0 ≤ nc ∧ nc ≤ 64) : Met l yM_open wM_open ({ frames := 1, cells := 0, slots := 0, locals := 20 }) (va_Pc [.ref (ad 0)] (fun U => va_P (dC, dI) vwCl (mW ad cs ft par np nc rs npc hi lo X Y O E RX RY RO PC CV) U.heap ∧ va_K (dC, dI) vwCl (mT cs) U)) (vp_Si (fun r => r = iI (np - clo nc E))) 0 0 (fun _ => False) := by
  refine Met.ofW (cc := cM_open) (maxL := 1) (ret := (some .int)) (by decide) rfl ?_
  intro p e s m args below meth c s₁ B hml hv
  obtain ⟨hargs, hP, hK⟩ := hv
  have hx := B.exec
  have hb := B.bytes
  have hr := B.returns
  have hts := atoms_spec (ws := wM_open) B.pre
  have hown : s.vm.findClass RM = some m.cls := findClass_of_methodNamed B.named
  have hlocks := B.notSynchronized
  refine x_name (fun R Q H locs hR hQ hH hlo => ?_)
  rw [← hH] at hP
  refine x_entry hargs (Nat.le_of_ble_eq_true rfl) (fun ls hl => ?_)
  have hl : lv_has ls 1 [(0, .ref (ad 0))] := hl
  have hP : va_P (dC, dI) vwCl (mW ad cs ft par np nc rs npc hi lo X Y O E RX RY RO PC CV) H := hP
  refine lv_aload_n hx hb dM_open_0 rfl (lv_at hl 0 rfl) ?_
  refine va_get (D := (dC, dI)) (ci := 3) (v := .int (iI np)) (C := RM) (T := TM) (N := 17) hx hb hts (fun w9 h9 => List.mem_cons_of_mem _ (inM w9 h9)) hown hK hP 0 rfl rfl 2 (by decide) (hts _ (List.mem_cons_of_mem _ flM_46)) (fun _ h9 => h9) rfl dM_open_1 ?_
  refine lv_aload_n hx hb dM_open_4 rfl (lv_at hl 0 rfl) ?_
  refine vp_callSi (W.runV (As := []) (rest := [.int (iI np)]) ⟨hx, hb, hml, hown, hts⟩ (m_closed l dC dI ad cs ft par np nc rs npc hi lo X Y O E RX RY RO PC CV h1) (cwV 0 hts (tb_V mlM_49 imM_closed seM_closed iniM coM_closed) rfl rfl rfl (by decide +kernel) (by subst hR; exact ⟨Nat.le_of_ble_eq_true rfl, Nat.le_of_ble_eq_true rfl⟩)) ⟨fun a9 U9 g9 mk9 q9 => by obtain ⟨q0, qP, qK⟩ := q9; exact ⟨q0, qP, va_K.moved (u := U9) (U := U9.calling g9 mk9 a9) (Vm.Alike.refl U9.vm) qK⟩, va_recv hK hP (ci := 3) (q0 := 0) rfl rfl, fun U hU hW => ⟨rfl, by rw [hU]; exact hP, va_K.moved hW.alike hK⟩⟩ rfl rfl hl.1 rfl (lv_room (Nat.le_of_ble_eq_true rfl)) dM_open_5 ⟨by subst hR; exact Nat.zero_le _, by subst hR; exact Nat.zero_le _⟩) (fun r_5 hw_5 => ?_)
  subst hw_5
  refine xi_sub (z := np - (clo nc E)) hx hb dM_open_8 rfl ?_
  subst hQ
  exact W.iret (v := (iI (np - (clo nc E)))) hx hb hr (fun t9 ht9 hW9 => ⟨_, rfl, rfl, ht9.trans hH⟩) (by rw [hlo]; intro q9 h9; cases h9) dM_open_9
set_option maxHeartbeats 4000000 in
set_option maxRecDepth 100000 in
/-- refused -/
theorem m_refused (l : Launch) (dC : Nat → ClassId) (dI : Nat → Nat → Nat) (ad : Nat → Nat) (cs : Nat → ClassId) (sz : Nat) (ft : Int) (par : Bool) (np nc rs npc hi lo : Int) (X Y : Int → Int) (O : Int → Bool) (E RX RY : Int → Int) (RO : Int → Bool) (PC : Int → Int) (CV : Int → Bool) (z : Int) (hz : -2147483648 ≤ z ∧ z ≤ 2147483647) : Met l yM_refused wM_refused ({ frames := 0, cells := 0, slots := 0, locals := 0 }) (va_Pc [.ref (ad 0), .int (iI z)] (fun U => U.heap.size = sz ∧ va_P (dC, dI) vwCl (mW ad cs ft par np nc rs npc hi lo X Y O E RX RY RO PC CV) U.heap ∧ va_K (dC, dI) vwCl (mT cs) U ∧ va_D (fun _ => True) (mW ad cs ft par np nc rs npc hi lo X Y O E RX RY RO PC CV))) (va_Qi (fun (r : Int32) (u : Unit) => r = iI (bz (decide (0 < z))) ∧ True) (fun (u : Unit) t9 => va_P (dC, dI) vwCl (mW ad cs z par np nc rs npc hi lo X Y O E RX RY RO PC CV) t9.heap ∧ va_K (dC, dI) vwCl (mT cs) t9 ∧ va_D (va_A (mW ad cs ft par np nc rs npc hi lo X Y O E RX RY RO PC CV) sz) (mW ad cs z par np nc rs npc hi lo X Y O E RX RY RO PC CV)) (va_A (mW ad cs ft par np nc rs npc hi lo X Y O E RX RY RO PC CV) sz)) 0 0 (va_A (mW ad cs ft par np nc rs npc hi lo X Y O E RX RY RO PC CV) sz) := by
  refine Met.ofW (cc := cM_refused) (maxL := 2) (ret := (some .boolean)) (by decide) rfl ?_
  intro p e s m args below meth c s₁ B hml hv
  obtain ⟨hargs, hsz, hP, hK, hD0⟩ := hv
  have hx := B.exec
  have hb := B.bytes
  have hr := B.returns
  have hts := atoms_spec (ws := wM_refused) B.pre
  have hown : s.vm.findClass RM = some m.cls := findClass_of_methodNamed B.named
  have hlocks := B.notSynchronized
  subst hsz
  have hD := hD0.self (sz := s.heap.size)
  generalize hAe : va_A (mW ad cs ft par np nc rs npc hi lo X Y O E RX RY RO PC CV) s.heap.size = A at hD ⊢
  have hA : ∀ q : Nat, s.heap.size ≤ q → A q := fun q h => by rw [← hAe]; exact Or.inr h
  have hS0 : va_S A s.heap s.heap [] := va_S.rf
  refine x_name (fun R Q H locs hR hQ hH hlo => ?_)
  rw [← hH] at hP
  have hS : va_S A s.heap H locs := by rw [hH, hlo]; exact hS0
  refine x_entry hargs (Nat.le_of_ble_eq_true rfl) (fun ls hl => ?_)
  have hl : lv_has ls 2 [(0, .ref (ad 0)), (1, .int (iI z))] := hl
  have hP : va_P (dC, dI) vwCl (mW ad cs ft par np nc rs npc hi lo X Y O E RX RY RO PC CV) H := hP
  refine lv_aload_n hx hb dM_refused_0 rfl (lv_at hl 0 rfl) ?_
  refine lv_iload_n hx hb dM_refused_1 rfl (lv_at hl 1 rfl) ?_
  refine va_put (D := (dC, dI)) (ci := 3) (v := .int (iI z)) (ty := .int) (C := RM) (T := TM) (N := 17) hx hb hts (fun w9 h9 => List.mem_cons_of_mem _ (inM w9 h9)) tyM tyM_ok nmM hown hK hP hD hS 0 rfl rfl 0 (by decide) (hts _ (List.mem_cons_of_mem _ flM_38)) (fun _ h9 => h9) rfl (by decide +kernel) rfl rfl (Nat.le_of_ble_eq_true rfl) dM_refused_2 (fun H locs hP hD hS => ?_)
  have hP : va_P (dC, dI) vwCl (mW ad cs z par np nc rs npc hi lo X Y O E RX RY RO PC CV) H := hP
  have hD : va_D A (mW ad cs z par np nc rs npc hi lo X Y O E RX RY RO PC CV) := hD
  have cut_14_1 : ∀ (v : Bool) (ls : Array Slot), (v = decide (0 < z)) → lv_has ls 2 [(0, .ref (ad 0)), (1, .int (iI z))] → W p l e R s m args below meth c H locs 0 0 Q (F0 m 14 ls [.int (iI (bz v))]) := by
    intro v ls hv hl
    subst hQ
    exact W.zret (v := (iI (bz v))) hx hb hr (xi_narZ2 _) (fun t9 ht9 hW9 => ⟨⟨_, (), rfl, (⟨by rw [hv], trivial⟩), by rw [ht9]; exact hP, va_K.moved hW9.alike hK, hD⟩, hS.F ht9⟩) hS.2.2 dM_refused_14
  refine lv_iload_n hx hb dM_refused_5 rfl (lv_at hl 1 rfl) ?_
  refine xi_if_le (tgt := 13) hx hb dM_refused_6 (by decide) (by omega) (fun c_6 => ?_) (fun c_6 => ?_)
  · skip
    refine xi_iconst hx hb dM_refused_13 ?_
    exact cut_14_1 false _ (dec_f (by omega)) (lv_sub hl [0, 1] rfl)
  · skip
    refine xi_iconst hx hb dM_refused_9 ?_
    refine lv_goto (tgt := 14) hx hb dM_refused_10 (by decide) ?_
    exact cut_14_1 true _ (dec_t (by omega)) (lv_sub hl [0, 1] rfl)
set_option maxHeartbeats 4000000 in
set_option maxRecDepth 100000 in
/-- thrown -/
theorem m_thrown (l : Launch) (dC : Nat → ClassId) (dI : Nat → Nat → Nat) (ad : Nat → Nat) (cs : Nat → ClassId) (ft : Int) (par : Bool) (np nc rs npc hi lo : Int) (X Y : Int → Int) (O : Int → Bool) (E RX RY : Int → Int) (RO : Int → Bool) (PC : Int → Int) (CV : Int → Bool) : Met l yM_thrown wM_thrown ({ frames := 0, cells := 0, slots := 0, locals := 0 }) (va_Pc [.ref (ad 0)] (fun U => va_P (dC, dI) vwCl (mW ad cs ft par np nc rs npc hi lo X Y O E RX RY RO PC CV) U.heap ∧ va_K (dC, dI) vwCl (mT cs) U)) (vp_Si (fun r => r = iI ft)) 0 0 (fun _ => False) := by
  refine Met.ofW (cc := cM_thrown) (maxL := 1) (ret := (some .int)) (by decide) rfl ?_
  intro p e s m args below meth c s₁ B hml hv
  obtain ⟨hargs, hP, hK⟩ := hv
  have hx := B.exec
  have hb := B.bytes
  have hr := B.returns
  have hts := atoms_spec (ws := wM_thrown) B.pre
  have hown : s.vm.findClass RM = some m.cls := findClass_of_methodNamed B.named
  have hlocks := B.notSynchronized
  refine x_name (fun R Q H locs hR hQ hH hlo => ?_)
  rw [← hH] at hP
  refine x_entry hargs (Nat.le_of_ble_eq_true rfl) (fun ls hl => ?_)
  have hl : lv_has ls 1 [(0, .ref (ad 0))] := hl
  have hP : va_P (dC, dI) vwCl (mW ad cs ft par np nc rs npc hi lo X Y O E RX RY RO PC CV) H := hP
  refine lv_aload_n hx hb dM_thrown_0 rfl (lv_at hl 0 rfl) ?_
  refine va_get (D := (dC, dI)) (ci := 3) (v := .int (iI ft)) (C := RM) (T := TM) (N := 17) hx hb hts (fun w9 h9 => List.mem_cons_of_mem _ (inM w9 h9)) hown hK hP 0 rfl rfl 0 (by decide) (hts _ (List.mem_cons_of_mem _ flM_38)) (fun _ h9 => h9) rfl dM_thrown_1 ?_
  subst hQ
  exact W.iret (v := (iI ft)) hx hb hr (fun t9 ht9 hW9 => ⟨_, rfl, rfl, ht9.trans hH⟩) (by rw [hlo]; intro q9 h9; cases h9) dM_thrown_4
set_option maxHeartbeats 4000000 in
set_option maxRecDepth 100000 in
/-- add -/
theorem m_add (l : Launch) (dC : Nat → ClassId) (dI : Nat → Nat → Nat) (ad : Nat → Nat) (cs : Nat → ClassId) (sz : Nat) (ft : Int) (par : Bool) (np nc rs npc hi lo : Int) (X Y : Int → Int) (O : Int → Bool) (E RX RY : Int → Int) (RO : Int → Bool) (PC : Int → Int) (CV : Int → Bool) (x y : Int) (on : Bool) (h1 : 0 ≤ nc ∧ nc ≤ 64) (h2 : 0 ≤ np ∧ np ≤ 512) (hx0 : -2147483648 ≤ x ∧ x ≤ 2147483647) (hy0 : -2147483648 ≤ y ∧ y ≤ 2147483647) : Met l yM_add wM_add ({ frames := 2, cells := 0, slots := 0, locals := 40 }) (va_Pc [.ref (ad 0), .int (iI x), .int (iI y), .int (iI (bz on))] (fun U => U.heap.size = sz ∧ va_P (dC, dI) vwCl (mW ad cs ft par np nc rs npc hi lo X Y O E RX RY RO PC CV) U.heap ∧ va_K (dC, dI) vwCl (mT cs) U ∧ va_D (fun _ => True) (mW ad cs ft par np nc rs npc hi lo X Y O E RX RY RO PC CV))) (va_Qi (fun (r : Int32) (u : Int × Int × (Int → Int) × (Int → Int) × (Int → Bool)) => u.1 = fA x y np ∧ (fA x y np = 0 → r = iI (np + 1 - clo nc E) ∧ u.2 = (np + 1, up X np x, up Y np y, up O np on)) ∧ (fA x y np ≠ 0 → u.2 = (np, X, Y, O))) (fun (u : Int × Int × (Int → Int) × (Int → Int) × (Int → Bool)) t9 => va_P (dC, dI) vwCl (mW ad cs u.1 par u.2.1 nc rs npc hi lo u.2.2.1 u.2.2.2.1 u.2.2.2.2 E RX RY RO PC CV) t9.heap ∧ va_K (dC, dI) vwCl (mT cs) t9 ∧ va_D (va_A (mW ad cs ft par np nc rs npc hi lo X Y O E RX RY RO PC CV) sz) (mW ad cs u.1 par u.2.1 nc rs npc hi lo u.2.2.1 u.2.2.2.1 u.2.2.2.2 E RX RY RO PC CV)) (va_A (mW ad cs ft par np nc rs npc hi lo X Y O E RX RY RO PC CV) sz)) 0 0 (va_A (mW ad cs ft par np nc rs npc hi lo X Y O E RX RY RO PC CV) sz) := by
  refine Met.ofW (cc := cM_add) (maxL := 4) (ret := (some .int)) (by decide) rfl ?_
  intro p e s m args below meth c s₁ B hml hv
  obtain ⟨hargs, hsz, hP, hK, hD0⟩ := hv
  have hx := B.exec
  have hb := B.bytes
  have hr := B.returns
  have hts := atoms_spec (ws := wM_add) B.pre
  have hown : s.vm.findClass RM = some m.cls := findClass_of_methodNamed B.named
  have hlocks := B.notSynchronized
  subst hsz
  have hD := hD0.self (sz := s.heap.size)
  generalize hAe : va_A (mW ad cs ft par np nc rs npc hi lo X Y O E RX RY RO PC CV) s.heap.size = A at hD ⊢
  have hA : ∀ q : Nat, s.heap.size ≤ q → A q := fun q h => by rw [← hAe]; exact Or.inr h
  have hS0 : va_S A s.heap s.heap [] := va_S.rf
  refine x_name (fun R Q H locs hR hQ hH hlo => ?_)
  rw [← hH] at hP
  have hS : va_S A s.heap H locs := by rw [hH, hlo]; exact hS0
  refine x_entry hargs (Nat.le_of_ble_eq_true rfl) (fun ls hl => ?_)
  have hl : lv_has ls 4 [(0, .ref (ad 0)), (1, .int (iI x)), (2, .int (iI y)), (3, .int (iI (bz on)))] := hl
  have hP : va_P (dC, dI) vwCl (mW ad cs ft par np nc rs npc hi lo X Y O E RX RY RO PC CV) H := hP
  refine lv_aload_n hx hb dM_add_0 rfl (lv_at hl 0 rfl) ?_
  have cut_36_1 : ∀ (fc : Int) (ls : Array Slot), (fc = fA x y np) → lv_has ls 4 [(0, .ref (ad 0)), (1, .int (iI x)), (2, .int (iI y)), (3, .int (iI (bz on)))] → W p l e R s m args below meth c H locs 0 0 Q (F0 m 36 ls [.int (iI fc), .ref (ad 0)]) := by
    intro fc ls hfc hl
    have b1 := fA_in x y np
    rw [← hfc] at b1
    have hFc := xw_free hD hS hA
    refine va_calli (va_runV (As := [.int (iI fc)]) (rest := []) ⟨hx, hb, hml, hown, hts⟩ (m_refused l dC dI ad cs H.size ft par np nc rs npc hi lo X Y O E RX RY RO PC CV fc (by omega)) (cwV 1 hts (tb_V mlM_60 imM_refused seM_refused iniM coM_refused) rfl rfl rfl (by decide +kernel) (by subst hR; exact ⟨Nat.le_of_ble_eq_true rfl, Nat.le_of_ble_eq_true rfl⟩)) ⟨fun a9 U9 g9 mk9 q9 => by obtain ⟨q0, q1, qP, qK, qD⟩ := q9; exact ⟨q0, q1, qP, va_K.moved (u := U9) (U := U9.calling g9 mk9 a9) (Vm.Alike.refl U9.vm) qK, qD⟩, va_recv hK hP (ci := 3) (q0 := 0) rfl rfl, fun U hU hW => ⟨rfl, by rw [hU], by rw [hU]; exact hP, va_K.moved hW.alike hK, hD.weaken (fun _ _ _ _ => trivial)⟩⟩ rfl rfl hl.1 rfl (lv_room (Nat.le_of_ble_eq_true rfl)) dM_add_36 ⟨by subst hR; exact Nat.le_of_ble_eq_true rfl, by subst hR; exact Nat.le_of_ble_eq_true rfl⟩) hS (fun q9 _ h9 => hFc q9 h9) hFc (fun r_36 u_36 t9 H1 locs1 ht9 hvm9 hw_36 hB9 hz9 hk9 hS1 => ?_)
    obtain ⟨hP1, hK1, hD1⟩ := hB9
    rw [ht9] at hP1
    have hP : va_P (dC, dI) vwCl (mW ad cs fc par np nc rs npc hi lo X Y O E RX RY RO PC CV) H1 := hP1
    have hD : va_D A (mW ad cs fc par np nc rs npc hi lo X Y O E RX RY RO PC CV) := hD1.weaken (fun _ _ _ h9 => hFc _ h9)
    clear hP1 hD1 hK1 hFc
    have hS := hS1
    clear hS1 hz9 hk9 ht9 hvm9
    revert hP hD hS; generalize H1 = H; generalize locs1 = locs; intro hP hD hS
    obtain ⟨hr_36, hw_36⟩ := hw_36; subst hr_36
    refine xb_if_eq (tgt := 44) hx hb dM_add_39 (by decide) (fun c_39 => ?_) (fun c_39 => ?_)
    · skip
      have b2 : np ≠ 512 := fun h => by (have h3 := of_decide_eq_false c_39; have h4 : fA x y np = 0 := by omega); unfold fA at h4; rw [if_pos h] at h4; split at h4 <;> omega
      refine lv_aload_n hx hb dM_add_44 rfl (lv_at hl 0 rfl) ?_
      refine va_get (D := (dC, dI)) (ci := 3) (v := .ref (ad 1)) (C := RM) (T := TM) (N := 17) hx hb hts (fun w9 h9 => List.mem_cons_of_mem _ (inM w9 h9)) hown hK hP 0 rfl rfl 3 (by decide) (hts _ (List.mem_cons_of_mem _ flM_7)) (fun _ h9 => h9) rfl dM_add_45 ?_
      refine lv_aload_n hx hb dM_add_48 rfl (lv_at hl 0 rfl) ?_
      refine va_get (D := (dC, dI)) (ci := 3) (v := .int (iI np)) (C := RM) (T := TM) (N := 17) hx hb hts (fun w9 h9 => List.mem_cons_of_mem _ (inM w9 h9)) hown hK hP 0 rfl rfl 2 (by decide) (hts _ (List.mem_cons_of_mem _ flM_46)) (fun _ h9 => h9) rfl dM_add_49 ?_
      refine lv_iload_n hx hb dM_add_52 rfl (lv_at hl 1 rfl) ?_
      refine xa_iast (z := np) (v := x) hx hb hK hP hD hS 1 0 rfl rfl (by decide) (by omega) dM_add_53 (fun H locs hP hD hS => ?_)
      have hP : va_P (dC, dI) vwCl (mW ad cs fc par np nc rs npc hi lo (up X np x) Y O E RX RY RO PC CV) H := hP
      have hD : va_D A (mW ad cs fc par np nc rs npc hi lo (up X np x) Y O E RX RY RO PC CV) := hD
      refine lv_aload_n hx hb dM_add_54 rfl (lv_at hl 0 rfl) ?_
      refine va_get (D := (dC, dI)) (ci := 3) (v := .ref (ad 2)) (C := RM) (T := TM) (N := 17) hx hb hts (fun w9 h9 => List.mem_cons_of_mem _ (inM w9 h9)) hown hK hP 0 rfl rfl 4 (by decide) (hts _ (List.mem_cons_of_mem _ flM_13)) (fun _ h9 => h9) rfl dM_add_55 ?_
      refine lv_aload_n hx hb dM_add_58 rfl (lv_at hl 0 rfl) ?_
      refine va_get (D := (dC, dI)) (ci := 3) (v := .int (iI np)) (C := RM) (T := TM) (N := 17) hx hb hts (fun w9 h9 => List.mem_cons_of_mem _ (inM w9 h9)) hown hK hP 0 rfl rfl 2 (by decide) (hts _ (List.mem_cons_of_mem _ flM_46)) (fun _ h9 => h9) rfl dM_add_59 ?_
      refine lv_iload_n hx hb dM_add_62 rfl (lv_at hl 2 rfl) ?_
      refine xa_iast (z := np) (v := y) hx hb hK hP hD hS 2 1 rfl rfl (by decide) (by omega) dM_add_63 (fun H locs hP hD hS => ?_)
      have hP : va_P (dC, dI) vwCl (mW ad cs fc par np nc rs npc hi lo (up X np x) (up Y np y) O E RX RY RO PC CV) H := hP
      have hD : va_D A (mW ad cs fc par np nc rs npc hi lo (up X np x) (up Y np y) O E RX RY RO PC CV) := hD
      refine lv_aload_n hx hb dM_add_64 rfl (lv_at hl 0 rfl) ?_
      refine va_get (D := (dC, dI)) (ci := 3) (v := .ref (ad 3)) (C := RM) (T := TM) (N := 17) hx hb hts (fun w9 h9 => List.mem_cons_of_mem _ (inM w9 h9)) hown hK hP 0 rfl rfl 5 (by decide) (hts _ (List.mem_cons_of_mem _ flM_16)) (fun _ h9 => h9) rfl dM_add_65 ?_
      refine lv_aload_n hx hb dM_add_68 rfl (lv_at hl 0 rfl) ?_
      refine va_get (D := (dC, dI)) (ci := 3) (v := .int (iI np)) (C := RM) (T := TM) (N := 17) hx hb hts (fun w9 h9 => List.mem_cons_of_mem _ (inM w9 h9)) hown hK hP 0 rfl rfl 2 (by decide) (hts _ (List.mem_cons_of_mem _ flM_46)) (fun _ h9 => h9) rfl dM_add_69 ?_
      refine lv_iload_n hx hb dM_add_72 rfl (lv_at hl 3 rfl) ?_
      refine xa_zast (z := np) (v := on) hx hb hK hP hD hS 3 2 rfl rfl (by decide) (by omega) dM_add_73 (fun H locs hP hD hS => ?_)
      have hP : va_P (dC, dI) vwCl (mW ad cs fc par np nc rs npc hi lo (up X np x) (up Y np y) (up O np on) E RX RY RO PC CV) H := hP
      have hD : va_D A (mW ad cs fc par np nc rs npc hi lo (up X np x) (up Y np y) (up O np on) E RX RY RO PC CV) := hD
      refine lv_aload_n hx hb dM_add_74 rfl (lv_at hl 0 rfl) ?_
      refine lv_dup hx hb dM_add_75 rfl ?_
      refine va_get (D := (dC, dI)) (ci := 3) (v := .int (iI np)) (C := RM) (T := TM) (N := 17) hx hb hts (fun w9 h9 => List.mem_cons_of_mem _ (inM w9 h9)) hown hK hP 0 rfl rfl 2 (by decide) (hts _ (List.mem_cons_of_mem _ flM_46)) (fun _ h9 => h9) rfl dM_add_76 ?_
      refine xi_iconst hx hb dM_add_79 ?_
      refine xi_add (z := np + 1) hx hb dM_add_80 rfl ?_
      refine va_put (D := (dC, dI)) (ci := 3) (v := .int (iI (np + 1))) (ty := .int) (C := RM) (T := TM) (N := 17) hx hb hts (fun w9 h9 => List.mem_cons_of_mem _ (inM w9 h9)) tyM tyM_ok nmM hown hK hP hD hS 0 rfl rfl 2 (by decide) (hts _ (List.mem_cons_of_mem _ flM_46)) (fun _ h9 => h9) rfl (by decide +kernel) rfl rfl (Nat.le_of_ble_eq_true rfl) dM_add_81 (fun H locs hP hD hS => ?_)
      have hP : va_P (dC, dI) vwCl (mW ad cs fc par (np + 1) nc rs npc hi lo (up X np x) (up Y np y) (up O np on) E RX RY RO PC CV) H := hP
      have hD : va_D A (mW ad cs fc par (np + 1) nc rs npc hi lo (up X np x) (up Y np y) (up O np on) E RX RY RO PC CV) := hD
      refine lv_aload_n hx hb dM_add_84 rfl (lv_at hl 0 rfl) ?_
      refine vp_callSi (W.runV (As := []) (rest := []) ⟨hx, hb, hml, hown, hts⟩ (m_opened l dC dI ad cs fc par (np + 1) nc rs npc hi lo (up X np x) (up Y np y) (up O np on) E RX RY RO PC CV h1) (cwV 0 hts (tb_V mlM_64 imM_open seM_open iniM coM_open) rfl rfl rfl (by decide +kernel) (by subst hR; exact ⟨Nat.le_of_ble_eq_true rfl, Nat.le_of_ble_eq_true rfl⟩)) ⟨fun a9 U9 g9 mk9 q9 => by obtain ⟨q0, qP, qK⟩ := q9; exact ⟨q0, qP, va_K.moved (u := U9) (U := U9.calling g9 mk9 a9) (Vm.Alike.refl U9.vm) qK⟩, va_recv hK hP (ci := 3) (q0 := 0) rfl rfl, fun U hU hW => ⟨rfl, by rw [hU]; exact hP, va_K.moved hW.alike hK⟩⟩ rfl rfl hl.1 rfl (lv_room (Nat.le_of_ble_eq_true rfl)) dM_add_85 ⟨by subst hR; exact Nat.zero_le _, by subst hR; exact Nat.zero_le _⟩) (fun r_85 hw_85 => ?_)
      subst hw_85
      subst hQ
      exact W.iret (v := (iI (np + 1 - clo nc E))) hx hb hr (fun t9 ht9 hW9 => ⟨⟨_, (fc, np + 1, up X np x, up Y np y, up O np on), rfl, (⟨hfc, fun _ => ⟨rfl, rfl⟩, fun h => absurd (show fA x y np = 0 by have := of_decide_eq_false c_39; omega) h⟩), by rw [ht9]; exact hP, va_K.moved hW9.alike hK, hD⟩, hS.F ht9⟩) hS.2.2 dM_add_88
    · skip
      refine xi_iconst hx hb dM_add_42 ?_
      subst hQ
      exact W.iret (v := (iI 0)) hx hb hr (fun t9 ht9 hW9 => ⟨⟨_, (fc, np, X, Y, O), rfl, (⟨hfc, fun h => absurd h (by have := of_decide_eq_true c_39; omega), fun _ => rfl⟩), by rw [ht9]; exact hP, va_K.moved hW9.alike hK, hD⟩, hS.F ht9⟩) hS.2.2 dM_add_43
  refine lv_iload_n hx hb dM_add_1 rfl (lv_at hl 1 rfl) ?_
  refine xl_i2l hx hb dM_add_2 (by omega) ?_
  refine vp_callSi (W.runS (As := [.long (lI x)]) (rest := [.ref (ad 0)]) ⟨hx, hb, hml, hown, hts⟩ (m_isCoordinate l dC dI x (by omega)) (va_cwS 1 hts (tb_S mlM_56 smM_isCoordinate iniM coM_isCoordinate) rfl rfl rfl (by decide +kernel) (by subst hR; exact ⟨Nat.le_of_ble_eq_true rfl, Nat.le_of_ble_eq_true rfl⟩)) ⟨fun a9 U9 g9 mk9 q9 => q9, fun U hU hW => ⟨rfl, trivial⟩⟩ rfl rfl hl.1 rfl (lv_room (Nat.le_of_ble_eq_true rfl)) dM_add_3 ⟨by subst hR; exact Nat.zero_le _, by subst hR; exact Nat.zero_le _⟩) (fun r_3 hw_3 => ?_)
  subst hw_3
  refine xb_if_eq (tgt := 17) hx hb dM_add_6 (by decide) (fun c_6 => ?_) (fun c_6 => ?_)
  · skip
    refine xi_iconst hx hb dM_add_17 ?_
    refine lv_goto (tgt := 36) hx hb dM_add_18 (by decide) ?_
    exact cut_36_1 1 _ (by unfold fA; rw [if_neg (fun h => by exact absurd h.1 (of_decide_eq_false c_6))]) (lv_sub hl [0, 1, 2, 3] rfl)
  · skip
    refine lv_iload_n hx hb dM_add_9 rfl (lv_at hl 2 rfl) ?_
    refine xl_i2l hx hb dM_add_10 (by omega) ?_
    refine vp_callSi (W.runS (As := [.long (lI y)]) (rest := [.ref (ad 0)]) ⟨hx, hb, hml, hown, hts⟩ (m_isCoordinate l dC dI y (by omega)) (va_cwS 1 hts (tb_S mlM_56 smM_isCoordinate iniM coM_isCoordinate) rfl rfl rfl (by decide +kernel) (by subst hR; exact ⟨Nat.le_of_ble_eq_true rfl, Nat.le_of_ble_eq_true rfl⟩)) ⟨fun a9 U9 g9 mk9 q9 => q9, fun U hU hW => ⟨rfl, trivial⟩⟩ rfl rfl hl.1 rfl (lv_room (Nat.le_of_ble_eq_true rfl)) dM_add_11 ⟨by subst hR; exact Nat.zero_le _, by subst hR; exact Nat.zero_le _⟩) (fun r_11 hw_11 => ?_)
    subst hw_11
    refine xb_if_ne (tgt := 21) hx hb dM_add_14 (by decide) (fun c_14 => ?_) (fun c_14 => ?_)
    · skip
      refine lv_aload_n hx hb dM_add_21 rfl (lv_at hl 0 rfl) ?_
      refine va_get (D := (dC, dI)) (ci := 3) (v := .int (iI np)) (C := RM) (T := TM) (N := 17) hx hb hts (fun w9 h9 => List.mem_cons_of_mem _ (inM w9 h9)) hown hK hP 0 rfl rfl 2 (by decide) (hts _ (List.mem_cons_of_mem _ flM_46)) (fun _ h9 => h9) rfl dM_add_22 ?_
      refine lv_sipush (v := iI 512) hx hb dM_add_25 (by decide +kernel) ?_
      refine xi_icmp_ne (tgt := 35) hx hb dM_add_28 (by decide) (by omega) (by omega) (fun c_28 => ?_) (fun c_28 => ?_)
      · skip
        refine xi_iconst hx hb dM_add_35 ?_
        exact cut_36_1 0 _ (by unfold fA; rw [if_pos ⟨of_decide_eq_true c_6, of_decide_eq_true c_14⟩, if_neg c_28]) (lv_sub hl [0, 1, 2, 3] rfl)
      · skip
        refine xi_iconst hx hb dM_add_31 ?_
        refine lv_goto (tgt := 36) hx hb dM_add_32 (by decide) ?_
        exact cut_36_1 2 _ (by unfold fA; rw [if_pos ⟨of_decide_eq_true c_6, of_decide_eq_true c_14⟩, if_pos c_28]) (lv_sub hl [0, 1, 2, 3] rfl)
    · skip
      refine xi_iconst hx hb dM_add_17 ?_
      refine lv_goto (tgt := 36) hx hb dM_add_18 (by decide) ?_
      exact cut_36_1 1 _ (by unfold fA; rw [if_neg (fun h => by exact absurd h.2 (of_decide_eq_false c_14))]) (lv_sub hl [0, 1, 2, 3] rfl)
set_option maxHeartbeats 4000000 in
set_option maxRecDepth 100000 in
/-- close -/
theorem m_close (l : Launch) (dC : Nat → ClassId) (dI : Nat → Nat → Nat) (ad : Nat → Nat) (cs : Nat → ClassId) (sz : Nat) (ft : Int) (par : Bool) (np nc rs npc hi lo : Int) (X Y : Int → Int) (O : Int → Bool) (E RX RY : Int → Int) (RO : Int → Bool) (PC : Int → Int) (CV : Int → Bool) (h1 : 0 ≤ nc ∧ nc ≤ 64) (h2 : 0 ≤ np ∧ np ≤ 512) (h3 : 0 ≤ clo nc E ∧ clo nc E ≤ np) : Met l yM_close wM_close ({ frames := 2, cells := 0, slots := 0, locals := 40 }) (va_Pc [.ref (ad 0)] (fun U => U.heap.size = sz ∧ va_P (dC, dI) vwCl (mW ad cs ft par np nc rs npc hi lo X Y O E RX RY RO PC CV) U.heap ∧ va_K (dC, dI) vwCl (mT cs) U ∧ va_D (fun _ => True) (mW ad cs ft par np nc rs npc hi lo X Y O E RX RY RO PC CV))) (va_Qi (fun (r : Int32) (u : Int × Int × (Int → Int)) => u.1 = fC np nc E ∧ (fC np nc E = 0 → r = iI (nc + 1) ∧ u.2 = (nc + 1, up E nc np)) ∧ (fC np nc E ≠ 0 → u.2 = (nc, E))) (fun (u : Int × Int × (Int → Int)) t9 => va_P (dC, dI) vwCl (mW ad cs u.1 par np u.2.1 rs npc hi lo X Y O u.2.2 RX RY RO PC CV) t9.heap ∧ va_K (dC, dI) vwCl (mT cs) t9 ∧ va_D (va_A (mW ad cs ft par np nc rs npc hi lo X Y O E RX RY RO PC CV) sz) (mW ad cs u.1 par np u.2.1 rs npc hi lo X Y O u.2.2 RX RY RO PC CV)) (va_A (mW ad cs ft par np nc rs npc hi lo X Y O E RX RY RO PC CV) sz)) 0 0 (va_A (mW ad cs ft par np nc rs npc hi lo X Y O E RX RY RO PC CV) sz) := by
  refine Met.ofW (cc := cM_close) (maxL := 1) (ret := (some .int)) (by decide) rfl ?_
  intro p e s m args below meth c s₁ B hml hv
  obtain ⟨hargs, hsz, hP, hK, hD0⟩ := hv
  have hx := B.exec
  have hb := B.bytes
  have hr := B.returns
  have hts := atoms_spec (ws := wM_close) B.pre
  have hown : s.vm.findClass RM = some m.cls := findClass_of_methodNamed B.named
  have hlocks := B.notSynchronized
  subst hsz
  have hD := hD0.self (sz := s.heap.size)
  generalize hAe : va_A (mW ad cs ft par np nc rs npc hi lo X Y O E RX RY RO PC CV) s.heap.size = A at hD ⊢
  have hA : ∀ q : Nat, s.heap.size ≤ q → A q := fun q h => by rw [← hAe]; exact Or.inr h
  have hS0 : va_S A s.heap s.heap [] := va_S.rf
  refine x_name (fun R Q H locs hR hQ hH hlo => ?_)
  rw [← hH] at hP
  have hS : va_S A s.heap H locs := by rw [hH, hlo]; exact hS0
  refine x_entry hargs (Nat.le_of_ble_eq_true rfl) (fun ls hl => ?_)
  have hl : lv_has ls 1 [(0, .ref (ad 0))] := hl
  have hP : va_P (dC, dI) vwCl (mW ad cs ft par np nc rs npc hi lo X Y O E RX RY RO PC CV) H := hP
  refine lv_aload_n hx hb dM_close_0 rfl (lv_at hl 0 rfl) ?_
  have cut_22_1 : ∀ (fc : Int) (ls : Array Slot), (fc = fC np nc E) → lv_has ls 1 [(0, .ref (ad 0))] → W p l e R s m args below meth c H locs 0 0 Q (F0 m 22 ls [.int (iI fc), .ref (ad 0)]) := by
    intro fc ls hfc hl
    have b1 := fC_in np nc E
    rw [← hfc] at b1
    have hFc := xw_free hD hS hA
    refine va_calli (va_runV (As := [.int (iI fc)]) (rest := []) ⟨hx, hb, hml, hown, hts⟩ (m_refused l dC dI ad cs H.size ft par np nc rs npc hi lo X Y O E RX RY RO PC CV fc (by omega)) (cwV 1 hts (tb_V mlM_60 imM_refused seM_refused iniM coM_refused) rfl rfl rfl (by decide +kernel) (by subst hR; exact ⟨Nat.le_of_ble_eq_true rfl, Nat.le_of_ble_eq_true rfl⟩)) ⟨fun a9 U9 g9 mk9 q9 => by obtain ⟨q0, q1, qP, qK, qD⟩ := q9; exact ⟨q0, q1, qP, va_K.moved (u := U9) (U := U9.calling g9 mk9 a9) (Vm.Alike.refl U9.vm) qK, qD⟩, va_recv hK hP (ci := 3) (q0 := 0) rfl rfl, fun U hU hW => ⟨rfl, by rw [hU], by rw [hU]; exact hP, va_K.moved hW.alike hK, hD.weaken (fun _ _ _ _ => trivial)⟩⟩ rfl rfl hl.1 rfl (lv_room (Nat.le_of_ble_eq_true rfl)) dM_close_22 ⟨by subst hR; exact Nat.le_of_ble_eq_true rfl, by subst hR; exact Nat.le_of_ble_eq_true rfl⟩) hS (fun q9 _ h9 => hFc q9 h9) hFc (fun r_22 u_22 t9 H1 locs1 ht9 hvm9 hw_22 hB9 hz9 hk9 hS1 => ?_)
    obtain ⟨hP1, hK1, hD1⟩ := hB9
    rw [ht9] at hP1
    have hP : va_P (dC, dI) vwCl (mW ad cs fc par np nc rs npc hi lo X Y O E RX RY RO PC CV) H1 := hP1
    have hD : va_D A (mW ad cs fc par np nc rs npc hi lo X Y O E RX RY RO PC CV) := hD1.weaken (fun _ _ _ h9 => hFc _ h9)
    clear hP1 hD1 hK1 hFc
    have hS := hS1
    clear hS1 hz9 hk9 ht9 hvm9
    revert hP hD hS; generalize H1 = H; generalize locs1 = locs; intro hP hD hS
    obtain ⟨hr_22, hw_22⟩ := hw_22; subst hr_22
    refine xb_if_eq (tgt := 30) hx hb dM_close_25 (by decide) (fun c_25 => ?_) (fun c_25 => ?_)
    · skip
      have b2 : nc ≠ 64 := fun h => by (have h5 := of_decide_eq_false c_25; have h4 : fC np nc E = 0 := by omega); unfold fC at h4; rw [if_pos (Or.inr h)] at h4; omega
      refine lv_aload_n hx hb dM_close_30 rfl (lv_at hl 0 rfl) ?_
      refine va_get (D := (dC, dI)) (ci := 3) (v := .ref (ad 4)) (C := RM) (T := TM) (N := 17) hx hb hts (fun w9 h9 => List.mem_cons_of_mem _ (inM w9 h9)) hown hK hP 0 rfl rfl 7 (by decide) (hts _ (List.mem_cons_of_mem _ flM_20)) (fun _ h9 => h9) rfl dM_close_31 ?_
      refine lv_aload_n hx hb dM_close_34 rfl (lv_at hl 0 rfl) ?_
      refine va_get (D := (dC, dI)) (ci := 3) (v := .int (iI nc)) (C := RM) (T := TM) (N := 17) hx hb hts (fun w9 h9 => List.mem_cons_of_mem _ (inM w9 h9)) hown hK hP 0 rfl rfl 6 (by decide) (hts _ (List.mem_cons_of_mem _ flM_53)) (fun _ h9 => h9) rfl dM_close_35 ?_
      refine lv_aload_n hx hb dM_close_38 rfl (lv_at hl 0 rfl) ?_
      refine va_get (D := (dC, dI)) (ci := 3) (v := .int (iI np)) (C := RM) (T := TM) (N := 17) hx hb hts (fun w9 h9 => List.mem_cons_of_mem _ (inM w9 h9)) hown hK hP 0 rfl rfl 2 (by decide) (hts _ (List.mem_cons_of_mem _ flM_46)) (fun _ h9 => h9) rfl dM_close_39 ?_
      refine xa_iast (z := nc) (v := np) hx hb hK hP hD hS 4 3 rfl rfl (by decide) (by omega) dM_close_42 (fun H locs hP hD hS => ?_)
      have hP : va_P (dC, dI) vwCl (mW ad cs fc par np nc rs npc hi lo X Y O (up E nc np) RX RY RO PC CV) H := hP
      have hD : va_D A (mW ad cs fc par np nc rs npc hi lo X Y O (up E nc np) RX RY RO PC CV) := hD
      refine lv_aload_n hx hb dM_close_43 rfl (lv_at hl 0 rfl) ?_
      refine lv_dup hx hb dM_close_44 rfl ?_
      refine va_get (D := (dC, dI)) (ci := 3) (v := .int (iI nc)) (C := RM) (T := TM) (N := 17) hx hb hts (fun w9 h9 => List.mem_cons_of_mem _ (inM w9 h9)) hown hK hP 0 rfl rfl 6 (by decide) (hts _ (List.mem_cons_of_mem _ flM_53)) (fun _ h9 => h9) rfl dM_close_45 ?_
      refine xi_iconst hx hb dM_close_48 ?_
      refine xi_add (z := nc + 1) hx hb dM_close_49 rfl ?_
      refine va_put (D := (dC, dI)) (ci := 3) (v := .int (iI (nc + 1))) (ty := .int) (C := RM) (T := TM) (N := 17) hx hb hts (fun w9 h9 => List.mem_cons_of_mem _ (inM w9 h9)) tyM tyM_ok nmM hown hK hP hD hS 0 rfl rfl 6 (by decide) (hts _ (List.mem_cons_of_mem _ flM_53)) (fun _ h9 => h9) rfl (by decide +kernel) rfl rfl (Nat.le_of_ble_eq_true rfl) dM_close_50 (fun H locs hP hD hS => ?_)
      have hP : va_P (dC, dI) vwCl (mW ad cs fc par np (nc + 1) rs npc hi lo X Y O (up E nc np) RX RY RO PC CV) H := hP
      have hD : va_D A (mW ad cs fc par np (nc + 1) rs npc hi lo X Y O (up E nc np) RX RY RO PC CV) := hD
      refine lv_aload_n hx hb dM_close_53 rfl (lv_at hl 0 rfl) ?_
      refine va_get (D := (dC, dI)) (ci := 3) (v := .int (iI (nc + 1))) (C := RM) (T := TM) (N := 17) hx hb hts (fun w9 h9 => List.mem_cons_of_mem _ (inM w9 h9)) hown hK hP 0 rfl rfl 6 (by decide) (hts _ (List.mem_cons_of_mem _ flM_53)) (fun _ h9 => h9) rfl dM_close_54 ?_
      subst hQ
      exact W.iret (v := (iI (nc + 1))) hx hb hr (fun t9 ht9 hW9 => ⟨⟨_, (fc, nc + 1, up E nc np), rfl, (⟨hfc, fun _ => ⟨rfl, rfl⟩, fun h => absurd (show fC np nc E = 0 by have := of_decide_eq_false c_25; omega) h⟩), by rw [ht9]; exact hP, va_K.moved hW9.alike hK, hD⟩, hS.F ht9⟩) hS.2.2 dM_close_57
    · skip
      refine xi_iconst hx hb dM_close_28 ?_
      subst hQ
      exact W.iret (v := (iI 0)) hx hb hr (fun t9 ht9 hW9 => ⟨⟨_, (fc, nc, E), rfl, (⟨hfc, fun h => absurd h (by have := of_decide_eq_true c_25; omega), fun _ => rfl⟩), by rw [ht9]; exact hP, va_K.moved hW9.alike hK, hD⟩, hS.F ht9⟩) hS.2.2 dM_close_29
  refine lv_aload_n hx hb dM_close_1 rfl (lv_at hl 0 rfl) ?_
  refine vp_callSi (W.runV (As := []) (rest := [.ref (ad 0)]) ⟨hx, hb, hml, hown, hts⟩ (m_opened l dC dI ad cs ft par np nc rs npc hi lo X Y O E RX RY RO PC CV h1) (cwV 0 hts (tb_V mlM_64 imM_open seM_open iniM coM_open) rfl rfl rfl (by decide +kernel) (by subst hR; exact ⟨Nat.le_of_ble_eq_true rfl, Nat.le_of_ble_eq_true rfl⟩)) ⟨fun a9 U9 g9 mk9 q9 => by obtain ⟨q0, qP, qK⟩ := q9; exact ⟨q0, qP, va_K.moved (u := U9) (U := U9.calling g9 mk9 a9) (Vm.Alike.refl U9.vm) qK⟩, va_recv hK hP (ci := 3) (q0 := 0) rfl rfl, fun U hU hW => ⟨rfl, by rw [hU]; exact hP, va_K.moved hW.alike hK⟩⟩ rfl rfl hl.1 rfl (lv_room (Nat.le_of_ble_eq_true rfl)) dM_close_2 ⟨by subst hR; exact Nat.zero_le _, by subst hR; exact Nat.zero_le _⟩) (fun r_2 hw_2 => ?_)
  subst hw_2
  refine xi_if_eq (tgt := 17) hx hb dM_close_5 (by decide) (by omega) (fun c_5 => ?_) (fun c_5 => ?_)
  · skip
    refine xi_iconst hx hb dM_close_17 ?_
    refine lv_goto (tgt := 22) hx hb dM_close_18 (by decide) ?_
    exact cut_22_1 1 _ (by unfold fC; rw [if_pos (by omega)]) (lv_sub hl [0] rfl)
  · skip
    refine lv_aload_n hx hb dM_close_8 rfl (lv_at hl 0 rfl) ?_
    refine va_get (D := (dC, dI)) (ci := 3) (v := .int (iI nc)) (C := RM) (T := TM) (N := 17) hx hb hts (fun w9 h9 => List.mem_cons_of_mem _ (inM w9 h9)) hown hK hP 0 rfl rfl 6 (by decide) (hts _ (List.mem_cons_of_mem _ flM_53)) (fun _ h9 => h9) rfl dM_close_9 ?_
    refine lv_bipush (v := iI 64) hx hb dM_close_12 (by decide +kernel) ?_
    refine xi_icmp_ne (tgt := 21) hx hb dM_close_14 (by decide) (by omega) (by omega) (fun c_14 => ?_) (fun c_14 => ?_)
    · skip
      refine xi_iconst hx hb dM_close_21 ?_
      exact cut_22_1 0 _ (by unfold fC; rw [if_neg (by omega)]) (lv_sub hl [0] rfl)
    · skip
      refine xi_iconst hx hb dM_close_17 ?_
      refine lv_goto (tgt := 22) hx hb dM_close_18 (by decide) ?_
      exact cut_22_1 1 _ (by unfold fC; rw [if_pos (by omega)]) (lv_sub hl [0] rfl)
set_option maxHeartbeats 4000000 in
set_option maxRecDepth 100000 in
/-- drop -/
theorem m_drop (l : Launch) (dC : Nat → ClassId) (dI : Nat → Nat → Nat) (ad : Nat → Nat) (cs : Nat → ClassId) (sz : Nat) (ft : Int) (par : Bool) (np nc rs npc hi lo : Int) (X Y : Int → Int) (O : Int → Bool) (E RX RY : Int → Int) (RO : Int → Bool) (PC : Int → Int) (CV : Int → Bool) (h1 : 0 ≤ nc ∧ nc ≤ 64) : Met l yM_drop wM_drop ({ frames := 2, cells := 0, slots := 0, locals := 40 }) (va_Pc [.ref (ad 0)] (fun U => U.heap.size = sz ∧ va_P (dC, dI) vwCl (mW ad cs ft par np nc rs npc hi lo X Y O E RX RY RO PC CV) U.heap ∧ va_K (dC, dI) vwCl (mT cs) U ∧ va_D (fun _ => True) (mW ad cs ft par np nc rs npc hi lo X Y O E RX RY RO PC CV))) (va_Qi (fun (r : Int32) (u : Unit) => r = iI (np - clo nc E) ∧ True) (fun (u : Unit) t9 => va_P (dC, dI) vwCl (mW ad cs 0 par (clo nc E) nc rs npc hi lo X Y O E RX RY RO PC CV) t9.heap ∧ va_K (dC, dI) vwCl (mT cs) t9 ∧ va_D (va_A (mW ad cs ft par np nc rs npc hi lo X Y O E RX RY RO PC CV) sz) (mW ad cs 0 par (clo nc E) nc rs npc hi lo X Y O E RX RY RO PC CV)) (va_A (mW ad cs ft par np nc rs npc hi lo X Y O E RX RY RO PC CV) sz)) 0 0 (va_A (mW ad cs ft par np nc rs npc hi lo X Y O E RX RY RO PC CV) sz) := by
  refine Met.ofW (cc := cM_drop) (maxL := 2) (ret := (some .int)) (by decide) rfl ?_
  intro p e s m args below meth c s₁ B hml hv
  obtain ⟨hargs, hsz, hP, hK, hD0⟩ := hv
  have hx := B.exec
  have hb := B.bytes
  have hr := B.returns
  have hts := atoms_spec (ws := wM_drop) B.pre
  have hown : s.vm.findClass RM = some m.cls := findClass_of_methodNamed B.named
  have hlocks := B.notSynchronized
  subst hsz
  have hD := hD0.self (sz := s.heap.size)
  generalize hAe : va_A (mW ad cs ft par np nc rs npc hi lo X Y O E RX RY RO PC CV) s.heap.size = A at hD ⊢
  have hA : ∀ q : Nat, s.heap.size ≤ q → A q := fun q h => by rw [← hAe]; exact Or.inr h
  have hS0 : va_S A s.heap s.heap [] := va_S.rf
  refine x_name (fun R Q H locs hR hQ hH hlo => ?_)
  rw [← hH] at hP
  have hS : va_S A s.heap H locs := by rw [hH, hlo]; exact hS0
  refine x_entry hargs (Nat.le_of_ble_eq_true rfl) (fun ls hl => ?_)
  have hl : lv_has ls 2 [(0, .ref (ad 0))] := hl
  have hP : va_P (dC, dI) vwCl (mW ad cs ft par np nc rs npc hi lo X Y O E RX RY RO PC CV) H := hP
  refine lv_aload_n hx hb dM_drop_0 rfl (lv_at hl 0 rfl) ?_
  refine xi_iconst hx hb dM_drop_1 ?_
  refine va_put (D := (dC, dI)) (ci := 3) (v := .int (iI 0)) (ty := .int) (C := RM) (T := TM) (N := 17) hx hb hts (fun w9 h9 => List.mem_cons_of_mem _ (inM w9 h9)) tyM tyM_ok nmM hown hK hP hD hS 0 rfl rfl 0 (by decide) (hts _ (List.mem_cons_of_mem _ flM_38)) (fun _ h9 => h9) rfl (by decide +kernel) rfl rfl (Nat.le_of_ble_eq_true rfl) dM_drop_2 (fun H locs hP hD hS => ?_)
  have hP : va_P (dC, dI) vwCl (mW ad cs 0 par np nc rs npc hi lo X Y O E RX RY RO PC CV) H := hP
  have hD : va_D A (mW ad cs 0 par np nc rs npc hi lo X Y O E RX RY RO PC CV) := hD
  refine lv_aload_n hx hb dM_drop_5 rfl (lv_at hl 0 rfl) ?_
  refine vp_callSi (W.runV (As := []) (rest := []) ⟨hx, hb, hml, hown, hts⟩ (m_opened l dC dI ad cs 0 par np nc rs npc hi lo X Y O E RX RY RO PC CV h1) (cwV 0 hts (tb_V mlM_64 imM_open seM_open iniM coM_open) rfl rfl rfl (by decide +kernel) (by subst hR; exact ⟨Nat.le_of_ble_eq_true rfl, Nat.le_of_ble_eq_true rfl⟩)) ⟨fun a9 U9 g9 mk9 q9 => by obtain ⟨q0, qP, qK⟩ := q9; exact ⟨q0, qP, va_K.moved (u := U9) (U := U9.calling g9 mk9 a9) (Vm.Alike.refl U9.vm) qK⟩, va_recv hK hP (ci := 3) (q0 := 0) rfl rfl, fun U hU hW => ⟨rfl, by rw [hU]; exact hP, va_K.moved hW.alike hK⟩⟩ rfl rfl hl.1 rfl (lv_room (Nat.le_of_ble_eq_true rfl)) dM_drop_6 ⟨by subst hR; exact Nat.zero_le _, by subst hR; exact Nat.zero_le _⟩) (fun r_6 hw_6 => ?_)
  subst hw_6
  refine lv_istore_n (lv' := [(1, .int (iI (np - clo nc E))), (0, .ref (ad 0))]) hx hb dM_drop_9 rfl hl (by decide) rfl (fun ls hl => ?_)
  refine lv_aload_n hx hb dM_drop_10 rfl (lv_at hl 1 rfl) ?_
  refine lv_aload_n hx hb dM_drop_11 rfl (lv_at hl 1 rfl) ?_
  refine vp_callSi (W.runV (As := []) (rest := [.ref (ad 0)]) ⟨hx, hb, hml, hown, hts⟩ (m_closed l dC dI ad cs 0 par np nc rs npc hi lo X Y O E RX RY RO PC CV h1) (cwV 0 hts (tb_V mlM_49 imM_closed seM_closed iniM coM_closed) rfl rfl rfl (by decide +kernel) (by subst hR; exact ⟨Nat.le_of_ble_eq_true rfl, Nat.le_of_ble_eq_true rfl⟩)) ⟨fun a9 U9 g9 mk9 q9 => by obtain ⟨q0, qP, qK⟩ := q9; exact ⟨q0, qP, va_K.moved (u := U9) (U := U9.calling g9 mk9 a9) (Vm.Alike.refl U9.vm) qK⟩, va_recv hK hP (ci := 3) (q0 := 0) rfl rfl, fun U hU hW => ⟨rfl, by rw [hU]; exact hP, va_K.moved hW.alike hK⟩⟩ rfl rfl hl.1 rfl (lv_room (Nat.le_of_ble_eq_true rfl)) dM_drop_12 ⟨by subst hR; exact Nat.zero_le _, by subst hR; exact Nat.zero_le _⟩) (fun r_12 hw_12 => ?_)
  subst hw_12
  refine va_put (D := (dC, dI)) (ci := 3) (v := .int (iI (clo nc E))) (ty := .int) (C := RM) (T := TM) (N := 17) hx hb hts (fun w9 h9 => List.mem_cons_of_mem _ (inM w9 h9)) tyM tyM_ok nmM hown hK hP hD hS 0 rfl rfl 2 (by decide) (hts _ (List.mem_cons_of_mem _ flM_46)) (fun _ h9 => h9) rfl (by decide +kernel) rfl rfl (Nat.le_of_ble_eq_true rfl) dM_drop_15 (fun H locs hP hD hS => ?_)
  have hP : va_P (dC, dI) vwCl (mW ad cs 0 par (clo nc E) nc rs npc hi lo X Y O E RX RY RO PC CV) H := hP
  have hD : va_D A (mW ad cs 0 par (clo nc E) nc rs npc hi lo X Y O E RX RY RO PC CV) := hD
  refine lv_iload_n hx hb dM_drop_18 rfl (lv_at hl 0 rfl) ?_
  subst hQ
  exact W.iret (v := (iI (np - clo nc E))) hx hb hr (fun t9 ht9 hW9 => ⟨⟨_, (), rfl, (⟨rfl, trivial⟩), by rw [ht9]; exact hP, va_K.moved hW9.alike hK, hD⟩, hS.F ht9⟩) hS.2.2 dM_drop_19
set_option maxHeartbeats 4000000 in
set_option maxRecDepth 100000 in
/-- clear -/
theorem m_clear (l : Launch) (dC : Nat → ClassId) (dI : Nat → Nat → Nat) (ad : Nat → Nat) (cs : Nat → ClassId) (sz : Nat) (ft : Int) (par : Bool) (np nc rs npc hi lo : Int) (X Y : Int → Int) (O : Int → Bool) (E RX RY : Int → Int) (RO : Int → Bool) (PC : Int → Int) (CV : Int → Bool) : Met l yM_clear wM_clear ({ frames := 0, cells := 0, slots := 0, locals := 0 }) (va_Pc [.ref (ad 0)] (fun U => U.heap.size = sz ∧ va_P (dC, dI) vwCl (mW ad cs ft par np nc rs npc hi lo X Y O E RX RY RO PC CV) U.heap ∧ va_K (dC, dI) vwCl (mT cs) U ∧ va_D (fun _ => True) (mW ad cs ft par np nc rs npc hi lo X Y O E RX RY RO PC CV))) (va_Qi (fun (r : Int32) (u : Unit) => r = iI nc ∧ True) (fun (u : Unit) t9 => va_P (dC, dI) vwCl (mW ad cs 0 par 0 0 rs npc hi lo X Y O E RX RY RO PC CV) t9.heap ∧ va_K (dC, dI) vwCl (mT cs) t9 ∧ va_D (va_A (mW ad cs ft par np nc rs npc hi lo X Y O E RX RY RO PC CV) sz) (mW ad cs 0 par 0 0 rs npc hi lo X Y O E RX RY RO PC CV)) (va_A (mW ad cs ft par np nc rs npc hi lo X Y O E RX RY RO PC CV) sz)) 0 0 (va_A (mW ad cs ft par np nc rs npc hi lo X Y O E RX RY RO PC CV) sz) := by
  refine Met.ofW (cc := cM_clear) (maxL := 2) (ret := (some .int)) (by decide) rfl ?_
  intro p e s m args below meth c s₁ B hml hv
  obtain ⟨hargs, hsz, hP, hK, hD0⟩ := hv
  have hx := B.exec
  have hb := B.bytes
  have hr := B.returns
  have hts := atoms_spec (ws := wM_clear) B.pre
  have hown : s.vm.findClass RM = some m.cls := findClass_of_methodNamed B.named
  have hlocks := B.notSynchronized
  subst hsz
  have hD := hD0.self (sz := s.heap.size)
  generalize hAe : va_A (mW ad cs ft par np nc rs npc hi lo X Y O E RX RY RO PC CV) s.heap.size = A at hD ⊢
  have hA : ∀ q : Nat, s.heap.size ≤ q → A q := fun q h => by rw [← hAe]; exact Or.inr h
  have hS0 : va_S A s.heap s.heap [] := va_S.rf
  refine x_name (fun R Q H locs hR hQ hH hlo => ?_)
  rw [← hH] at hP
  have hS : va_S A s.heap H locs := by rw [hH, hlo]; exact hS0
  refine x_entry hargs (Nat.le_of_ble_eq_true rfl) (fun ls hl => ?_)
  have hl : lv_has ls 2 [(0, .ref (ad 0))] := hl
  have hP : va_P (dC, dI) vwCl (mW ad cs ft par np nc rs npc hi lo X Y O E RX RY RO PC CV) H := hP
  refine lv_aload_n hx hb dM_clear_0 rfl (lv_at hl 0 rfl) ?_
  refine xi_iconst hx hb dM_clear_1 ?_
  refine va_put (D := (dC, dI)) (ci := 3) (v := .int (iI 0)) (ty := .int) (C := RM) (T := TM) (N := 17) hx hb hts (fun w9 h9 => List.mem_cons_of_mem _ (inM w9 h9)) tyM tyM_ok nmM hown hK hP hD hS 0 rfl rfl 0 (by decide) (hts _ (List.mem_cons_of_mem _ flM_38)) (fun _ h9 => h9) rfl (by decide +kernel) rfl rfl (Nat.le_of_ble_eq_true rfl) dM_clear_2 (fun H locs hP hD hS => ?_)
  have hP : va_P (dC, dI) vwCl (mW ad cs 0 par np nc rs npc hi lo X Y O E RX RY RO PC CV) H := hP
  have hD : va_D A (mW ad cs 0 par np nc rs npc hi lo X Y O E RX RY RO PC CV) := hD
  refine lv_aload_n hx hb dM_clear_5 rfl (lv_at hl 0 rfl) ?_
  refine va_get (D := (dC, dI)) (ci := 3) (v := .int (iI nc)) (C := RM) (T := TM) (N := 17) hx hb hts (fun w9 h9 => List.mem_cons_of_mem _ (inM w9 h9)) hown hK hP 0 rfl rfl 6 (by decide) (hts _ (List.mem_cons_of_mem _ flM_53)) (fun _ h9 => h9) rfl dM_clear_6 ?_
  refine lv_istore_n (lv' := [(1, .int (iI nc)), (0, .ref (ad 0))]) hx hb dM_clear_9 rfl hl (by decide) rfl (fun ls hl => ?_)
  refine lv_aload_n hx hb dM_clear_10 rfl (lv_at hl 1 rfl) ?_
  refine xi_iconst hx hb dM_clear_11 ?_
  refine va_put (D := (dC, dI)) (ci := 3) (v := .int (iI 0)) (ty := .int) (C := RM) (T := TM) (N := 17) hx hb hts (fun w9 h9 => List.mem_cons_of_mem _ (inM w9 h9)) tyM tyM_ok nmM hown hK hP hD hS 0 rfl rfl 6 (by decide) (hts _ (List.mem_cons_of_mem _ flM_53)) (fun _ h9 => h9) rfl (by decide +kernel) rfl rfl (Nat.le_of_ble_eq_true rfl) dM_clear_12 (fun H locs hP hD hS => ?_)
  have hP : va_P (dC, dI) vwCl (mW ad cs 0 par np 0 rs npc hi lo X Y O E RX RY RO PC CV) H := hP
  have hD : va_D A (mW ad cs 0 par np 0 rs npc hi lo X Y O E RX RY RO PC CV) := hD
  refine lv_aload_n hx hb dM_clear_15 rfl (lv_at hl 1 rfl) ?_
  refine xi_iconst hx hb dM_clear_16 ?_
  refine va_put (D := (dC, dI)) (ci := 3) (v := .int (iI 0)) (ty := .int) (C := RM) (T := TM) (N := 17) hx hb hts (fun w9 h9 => List.mem_cons_of_mem _ (inM w9 h9)) tyM tyM_ok nmM hown hK hP hD hS 0 rfl rfl 2 (by decide) (hts _ (List.mem_cons_of_mem _ flM_46)) (fun _ h9 => h9) rfl (by decide +kernel) rfl rfl (Nat.le_of_ble_eq_true rfl) dM_clear_17 (fun H locs hP hD hS => ?_)
  have hP : va_P (dC, dI) vwCl (mW ad cs 0 par 0 0 rs npc hi lo X Y O E RX RY RO PC CV) H := hP
  have hD : va_D A (mW ad cs 0 par 0 0 rs npc hi lo X Y O E RX RY RO PC CV) := hD
  refine lv_iload_n hx hb dM_clear_20 rfl (lv_at hl 0 rfl) ?_
  subst hQ
  exact W.iret (v := (iI nc)) hx hb hr (fun t9 ht9 hW9 => ⟨⟨_, (), rfl, (⟨rfl, trivial⟩), by rw [ht9]; exact hP, va_K.moved hW9.alike hK, hD⟩, hS.F ht9⟩) hS.2.2 dM_clear_21
set_option maxHeartbeats 4000000 in
set_option maxRecDepth 100000 in
/-- parity -/
theorem m_parity (l : Launch) (dC : Nat → ClassId) (dI : Nat → Nat → Nat) (ad : Nat → Nat) (cs : Nat → ClassId) (sz : Nat) (ft : Int) (par : Bool) (np nc rs npc hi lo : Int) (X Y : Int → Int) (O : Int → Bool) (E RX RY : Int → Int) (RO : Int → Bool) (PC : Int → Int) (CV : Int → Bool) (is : Bool) : Met l yM_parity wM_parity ({ frames := 0, cells := 0, slots := 0, locals := 0 }) (va_Pc [.ref (ad 0), .int (iI (bz is))] (fun U => U.heap.size = sz ∧ va_P (dC, dI) vwCl (mW ad cs ft par np nc rs npc hi lo X Y O E RX RY RO PC CV) U.heap ∧ va_K (dC, dI) vwCl (mT cs) U ∧ va_D (fun _ => True) (mW ad cs ft par np nc rs npc hi lo X Y O E RX RY RO PC CV))) (va_Qi (fun (r : Int32) (u : Unit) => r = iI (bz par) ∧ True) (fun (u : Unit) t9 => va_P (dC, dI) vwCl (mW ad cs 0 is np nc rs npc hi lo X Y O E RX RY RO PC CV) t9.heap ∧ va_K (dC, dI) vwCl (mT cs) t9 ∧ va_D (va_A (mW ad cs ft par np nc rs npc hi lo X Y O E RX RY RO PC CV) sz) (mW ad cs 0 is np nc rs npc hi lo X Y O E RX RY RO PC CV)) (va_A (mW ad cs ft par np nc rs npc hi lo X Y O E RX RY RO PC CV) sz)) 0 0 (va_A (mW ad cs ft par np nc rs npc hi lo X Y O E RX RY RO PC CV) sz) := by
  refine Met.ofW (cc := cM_parity) (maxL := 3) (ret := (some .boolean)) (by decide) rfl ?_
  intro p e s m args below meth c s₁ B hml hv
  obtain ⟨hargs, hsz, hP, hK, hD0⟩ := hv
  have hx := B.exec
  have hb := B.bytes
  have hr := B.returns
  have hts := atoms_spec (ws := wM_parity) B.pre
  have hown : s.vm.findClass RM = some m.cls := findClass_of_methodNamed B.named
  have hlocks := B.notSynchronized
  subst hsz
  have hD := hD0.self (sz := s.heap.size)
  generalize hAe : va_A (mW ad cs ft par np nc rs npc hi lo X Y O E RX RY RO PC CV) s.heap.size = A at hD ⊢
  have hA : ∀ q : Nat, s.heap.size ≤ q → A q := fun q h => by rw [← hAe]; exact Or.inr h
  have hS0 : va_S A s.heap s.heap [] := va_S.rf
  refine x_name (fun R Q H locs hR hQ hH hlo => ?_)
  rw [← hH] at hP
  have hS : va_S A s.heap H locs := by rw [hH, hlo]; exact hS0
  refine x_entry hargs (Nat.le_of_ble_eq_true rfl) (fun ls hl => ?_)
  have hl : lv_has ls 3 [(0, .ref (ad 0)), (1, .int (iI (bz is)))] := hl
  have hP : va_P (dC, dI) vwCl (mW ad cs ft par np nc rs npc hi lo X Y O E RX RY RO PC CV) H := hP
  refine lv_aload_n hx hb dM_parity_0 rfl (lv_at hl 0 rfl) ?_
  refine xi_iconst hx hb dM_parity_1 ?_
  refine va_put (D := (dC, dI)) (ci := 3) (v := .int (iI 0)) (ty := .int) (C := RM) (T := TM) (N := 17) hx hb hts (fun w9 h9 => List.mem_cons_of_mem _ (inM w9 h9)) tyM tyM_ok nmM hown hK hP hD hS 0 rfl rfl 0 (by decide) (hts _ (List.mem_cons_of_mem _ flM_38)) (fun _ h9 => h9) rfl (by decide +kernel) rfl rfl (Nat.le_of_ble_eq_true rfl) dM_parity_2 (fun H locs hP hD hS => ?_)
  have hP : va_P (dC, dI) vwCl (mW ad cs 0 par np nc rs npc hi lo X Y O E RX RY RO PC CV) H := hP
  have hD : va_D A (mW ad cs 0 par np nc rs npc hi lo X Y O E RX RY RO PC CV) := hD
  refine lv_aload_n hx hb dM_parity_5 rfl (lv_at hl 0 rfl) ?_
  refine va_get (D := (dC, dI)) (ci := 3) (v := .int (iI (bz par))) (C := RM) (T := TM) (N := 17) hx hb hts (fun w9 h9 => List.mem_cons_of_mem _ (inM w9 h9)) hown hK hP 0 rfl rfl 1 (by decide) (hts _ (List.mem_cons_of_mem _ flM_67)) (fun _ h9 => h9) rfl dM_parity_6 ?_
  refine lv_istore_n (lv' := [(2, .int (iI (bz par))), (0, .ref (ad 0)), (1, .int (iI (bz is)))]) hx hb dM_parity_9 rfl hl (by decide) rfl (fun ls hl => ?_)
  refine lv_aload_n hx hb dM_parity_10 rfl (lv_at hl 1 rfl) ?_
  refine lv_iload_n hx hb dM_parity_11 rfl (lv_at hl 2 rfl) ?_
  refine va_put (D := (dC, dI)) (ci := 3) (v := .int (iI (bz is))) (ty := .boolean) (C := RM) (T := TM) (N := 17) hx hb hts (fun w9 h9 => List.mem_cons_of_mem _ (inM w9 h9)) tyM tyM_ok nmM hown hK hP hD hS 0 rfl rfl 1 (by decide) (hts _ (List.mem_cons_of_mem _ flM_67)) (fun _ h9 => h9) rfl (by decide +kernel) (xi_narZ2 _) (xi_fitZ _) (Nat.le_of_ble_eq_true rfl) dM_parity_12 (fun H locs hP hD hS => ?_)
  have hP : va_P (dC, dI) vwCl (mW ad cs 0 is np nc rs npc hi lo X Y O E RX RY RO PC CV) H := hP
  have hD : va_D A (mW ad cs 0 is np nc rs npc hi lo X Y O E RX RY RO PC CV) := hD
  refine lv_iload_n hx hb dM_parity_15 rfl (lv_at hl 0 rfl) ?_
  subst hQ
  exact W.zret (v := (iI (bz par))) hx hb hr (xi_narZ2 _) (fun t9 ht9 hW9 => ⟨⟨_, (), rfl, (⟨rfl, trivial⟩), by rw [ht9]; exact hP, va_K.moved hW9.alike hK, hD⟩, hS.F ht9⟩) hS.2.2 dM_parity_16
set_option maxHeartbeats 4000000 in
set_option maxRecDepth 100000 in
/-- move -/
theorem m_move (l : Launch) (dC : Nat → ClassId) (dI : Nat → Nat → Nat) (ad : Nat → Nat) (cs : Nat → ClassId) (sz : Nat) (ft : Int) (par : Bool) (np nc rs npc hi lo : Int) (X Y : Int → Int) (O : Int → Bool) (E RX RY : Int → Int) (RO : Int → Bool) (PC : Int → Int) (CV : Int → Bool) (dx dy : Int) (h2 : 0 ≤ np ∧ np ≤ 512) (h3 : ∀ k : Int, 0 ≤ k → k < np → (-8192 ≤ X k ∧ X k ≤ 8191) ∧ (-8192 ≤ Y k ∧ Y k ≤ 8191)) (hx0 : -2147483648 ≤ dx ∧ dx ≤ 2147483647) (hy0 : -2147483648 ≤ dy ∧ dy ≤ 2147483647) : Met l yM_move wM_move ({ frames := 1, cells := 0, slots := 0, locals := 21 }) (va_Pc [.ref (ad 0), .int (iI dx), .int (iI dy)] (fun U => U.heap.size = sz ∧ va_P (dC, dI) vwCl (mW ad cs ft par np nc rs npc hi lo X Y O E RX RY RO PC CV) U.heap ∧ va_K (dC, dI) vwCl (mT cs) U ∧ va_D (fun _ => True) (mW ad cs ft par np nc rs npc hi lo X Y O E RX RY RO PC CV))) (va_Qv (fun (u : Int × (Int → Int) × (Int → Int)) => u.1 = fM X Y dx dy np ∧ (fM X Y dx dy np = 0 → u.2 = (mvF X dx np, mvF Y dy np)) ∧ (fM X Y dx dy np ≠ 0 → u.2 = (X, Y))) (fun (u : Int × (Int → Int) × (Int → Int)) t9 => va_P (dC, dI) vwCl (mW ad cs u.1 par np nc rs npc hi lo u.2.1 u.2.2 O E RX RY RO PC CV) t9.heap ∧ va_K (dC, dI) vwCl (mT cs) t9 ∧ va_D (va_A (mW ad cs ft par np nc rs npc hi lo X Y O E RX RY RO PC CV) sz) (mW ad cs u.1 par np nc rs npc hi lo u.2.1 u.2.2 O E RX RY RO PC CV)) (va_A (mW ad cs ft par np nc rs npc hi lo X Y O E RX RY RO PC CV) sz)) 0 0 (va_A (mW ad cs ft par np nc rs npc hi lo X Y O E RX RY RO PC CV) sz) := by
  refine Met.ofW (cc := cM_move) (maxL := 5) (ret := none) (by decide) rfl ?_
  intro p e s m args below meth c s₁ B hml hv
  obtain ⟨hargs, hsz, hP, hK, hD0⟩ := hv
  have hx := B.exec
  have hb := B.bytes
  have hr := B.returns
  have hts := atoms_spec (ws := wM_move) B.pre
  have hown : s.vm.findClass RM = some m.cls := findClass_of_methodNamed B.named
  have hlocks := B.notSynchronized
  subst hsz
  have hD := hD0.self (sz := s.heap.size)
  generalize hAe : va_A (mW ad cs ft par np nc rs npc hi lo X Y O E RX RY RO PC CV) s.heap.size = A at hD ⊢
  have hA : ∀ q : Nat, s.heap.size ≤ q → A q := fun q h => by rw [← hAe]; exact Or.inr h
  have hS0 : va_S A s.heap s.heap [] := va_S.rf
  refine x_name (fun R Q H locs hR hQ hH hlo => ?_)
  rw [← hH] at hP
  have hS : va_S A s.heap H locs := by rw [hH, hlo]; exact hS0
  refine x_entry hargs (Nat.le_of_ble_eq_true rfl) (fun ls hl => ?_)
  have hl : lv_has ls 5 [(0, .ref (ad 0)), (1, .int (iI dx)), (2, .int (iI dy))] := hl
  have hP : va_P (dC, dI) vwCl (mW ad cs ft par np nc rs npc hi lo X Y O E RX RY RO PC CV) H := hP
  refine xi_iconst hx hb dM_move_0 ?_
  refine lv_istore_n (lv' := [(3, .int (iI 1)), (0, .ref (ad 0)), (1, .int (iI dx)), (2, .int (iI dy))]) hx hb dM_move_1 rfl hl (by decide) rfl (fun ls hl => ?_)
  refine xi_iconst hx hb dM_move_2 ?_
  refine lv_istore (lv' := [(4, .int (iI 0)), (3, .int (iI 1)), (0, .ref (ad 0)), (1, .int (iI dx)), (2, .int (iI dy))]) hx hb dM_move_3 hl (by decide) rfl (fun ls hl => ?_)
  have cut_5_1 : ∀ (n : Nat) (k : Int) (sn : Bool) (ls : Array Slot), ((np - k).toNat) < n → (0 ≤ k ∧ k ≤ np) → (sn = mvok X Y dx dy k.toNat) → lv_has ls 5 [(0, .ref (ad 0)), (1, .int (iI dx)), (2, .int (iI dy)), (3, .int (iI (bz sn))), (4, .int (iI k))] → W p l e R s m args below meth c H locs 0 0 Q (F0 m 5 ls []) := by
    intro n
    induction n with
    | zero => intro _ _ _ hm; exact absurd hm (Nat.not_lt_zero _)
    | succ n ih =>
      intro k sn ls hm i1 i2 hl
      refine lv_iload hx hb dM_move_5 (lv_at hl 4 rfl) ?_
      refine lv_aload_n hx hb dM_move_7 rfl (lv_at hl 0 rfl) ?_
      refine va_get (D := (dC, dI)) (ci := 3) (v := .int (iI np)) (C := RM) (T := TM) (N := 17) hx hb hts (fun w9 h9 => List.mem_cons_of_mem _ (inM w9 h9)) hown hK hP 0 rfl rfl 2 (by decide) (hts _ (List.mem_cons_of_mem _ flM_46)) (fun _ h9 => h9) rfl dM_move_8 ?_
      refine xi_icmp_ge (tgt := 64) hx hb dM_move_11 (by decide) (by omega) (by omega) (fun c_11 => ?_) (fun c_11 => ?_)
      · skip
        refine lv_aload_n hx hb dM_move_64 rfl (lv_at hl 0 rfl) ?_
        have cut_74_2 : ∀ (fc : Int) (ls : Array Slot), (fc = fM X Y dx dy np) → lv_has ls 5 [(0, .ref (ad 0)), (1, .int (iI dx)), (2, .int (iI dy)), (3, .int (iI (bz sn))), (4, .int (iI k))] → W p l e R s m args below meth c H locs 0 0 Q (F0 m 74 ls [.int (iI fc), .ref (ad 0)]) := by
          intro fc ls hfc hl
          have b5 : 0 ≤ fc ∧ fc ≤ 1 := by (rw [hfc]; unfold fM; split <;> omega)
          have hFc := xw_free hD hS hA
          refine va_calli (va_runV (As := [.int (iI fc)]) (rest := []) ⟨hx, hb, hml, hown, hts⟩ (m_refused l dC dI ad cs H.size ft par np nc rs npc hi lo X Y O E RX RY RO PC CV fc (by omega)) (cwV 1 hts (tb_V mlM_60 imM_refused seM_refused iniM coM_refused) rfl rfl rfl (by decide +kernel) (by subst hR; exact ⟨Nat.le_of_ble_eq_true rfl, Nat.le_of_ble_eq_true rfl⟩)) ⟨fun a9 U9 g9 mk9 q9 => by obtain ⟨q0, q1, qP, qK, qD⟩ := q9; exact ⟨q0, q1, qP, va_K.moved (u := U9) (U := U9.calling g9 mk9 a9) (Vm.Alike.refl U9.vm) qK, qD⟩, va_recv hK hP (ci := 3) (q0 := 0) rfl rfl, fun U hU hW => ⟨rfl, by rw [hU], by rw [hU]; exact hP, va_K.moved hW.alike hK, hD.weaken (fun _ _ _ _ => trivial)⟩⟩ rfl rfl hl.1 rfl (lv_room (Nat.le_of_ble_eq_true rfl)) dM_move_74 ⟨by subst hR; exact Nat.le_of_ble_eq_true rfl, by subst hR; exact Nat.le_of_ble_eq_true rfl⟩) hS (fun q9 _ h9 => hFc q9 h9) hFc (fun r_74 u_74 t9 H1 locs1 ht9 hvm9 hw_74 hB9 hz9 hk9 hS1 => ?_)
          obtain ⟨hP1, hK1, hD1⟩ := hB9
          rw [ht9] at hP1
          have hP : va_P (dC, dI) vwCl (mW ad cs fc par np nc rs npc hi lo X Y O E RX RY RO PC CV) H1 := hP1
          have hD : va_D A (mW ad cs fc par np nc rs npc hi lo X Y O E RX RY RO PC CV) := hD1.weaken (fun _ _ _ h9 => hFc _ h9)
          clear hP1 hD1 hK1 hFc
          have hS := hS1
          clear hS1 hz9 hk9 ht9 hvm9
          revert hP hD hS; generalize H1 = H; generalize locs1 = locs; intro hP hD hS
          obtain ⟨hr_74, hw_74⟩ := hw_74; subst hr_74
          refine xb_if_eq (tgt := 81) hx hb dM_move_77 (by decide) (fun c_77 => ?_) (fun c_77 => ?_)
          · skip
            refine xi_iconst hx hb dM_move_81 ?_
            refine lv_istore (lv' := [(4, .int (iI 0)), (0, .ref (ad 0)), (1, .int (iI dx)), (2, .int (iI dy)), (3, .int (iI (bz sn)))]) hx hb dM_move_82 hl (by decide) rfl (fun ls hl => ?_)
            have cut_84_3 : ∀ (n : Nat) (k2 : Int) (H : Heap) (locs : List Loc) (ls : Array Slot), ((np - k2).toNat) < n → (0 ≤ k2 ∧ k2 ≤ np) → va_P (dC, dI) vwCl (mW ad cs fc par np nc rs npc hi lo (mvF X dx k2) (mvF Y dy k2) O E RX RY RO PC CV) H → va_D A (mW ad cs fc par np nc rs npc hi lo (mvF X dx k2) (mvF Y dy k2) O E RX RY RO PC CV) → va_S A s.heap H locs → lv_has ls 5 [(0, .ref (ad 0)), (1, .int (iI dx)), (2, .int (iI dy)), (4, .int (iI k2))] → W p l e R s m args below meth c H locs 0 0 Q (F0 m 84 ls []) := by
              intro n
              induction n with
              | zero => intro _ _ _ _ hm; exact absurd hm (Nat.not_lt_zero _)
              | succ n ih =>
                intro k2 H locs ls hm i3 hP hD hS hl
                refine lv_iload hx hb dM_move_84 (lv_at hl 3 rfl) ?_
                refine lv_aload_n hx hb dM_move_86 rfl (lv_at hl 0 rfl) ?_
                refine va_get (D := (dC, dI)) (ci := 3) (v := .int (iI np)) (C := RM) (T := TM) (N := 17) hx hb hts (fun w9 h9 => List.mem_cons_of_mem _ (inM w9 h9)) hown hK hP 0 rfl rfl 2 (by decide) (hts _ (List.mem_cons_of_mem _ flM_46)) (fun _ h9 => h9) rfl dM_move_87 ?_
                refine xi_icmp_ge (tgt := 131) hx hb dM_move_90 (by decide) (by omega) (by omega) (fun c_90 => ?_) (fun c_90 => ?_)
                · skip
                  rw [show k2 = np by omega] at hP hD
                  subst hQ
                  exact W.vret hx hb hr (fun t9 ht9 hW9 => ⟨⟨(fc, mvF X dx np, mvF Y dy np), rfl, (⟨hfc, fun _ => rfl, fun h => absurd (show fM X Y dx dy np = 0 by have := of_decide_eq_false c_77; omega) h⟩), by rw [ht9]; exact hP, va_K.moved hW9.alike hK, hD⟩, hS.F ht9⟩) hS.2.2 dM_move_131
                · skip
                  refine lv_aload_n hx hb dM_move_93 rfl (lv_at hl 0 rfl) ?_
                  refine va_get (D := (dC, dI)) (ci := 3) (v := .ref (ad 1)) (C := RM) (T := TM) (N := 17) hx hb hts (fun w9 h9 => List.mem_cons_of_mem _ (inM w9 h9)) hown hK hP 0 rfl rfl 3 (by decide) (hts _ (List.mem_cons_of_mem _ flM_7)) (fun _ h9 => h9) rfl dM_move_94 ?_
                  refine lv_iload hx hb dM_move_97 (lv_at hl 3 rfl) ?_
                  refine lv_aload_n hx hb dM_move_99 rfl (lv_at hl 0 rfl) ?_
                  refine va_get (D := (dC, dI)) (ci := 3) (v := .ref (ad 1)) (C := RM) (T := TM) (N := 17) hx hb hts (fun w9 h9 => List.mem_cons_of_mem _ (inM w9 h9)) hown hK hP 0 rfl rfl 3 (by decide) (hts _ (List.mem_cons_of_mem _ flM_7)) (fun _ h9 => h9) rfl dM_move_100 ?_
                  refine lv_iload hx hb dM_move_103 (lv_at hl 3 rfl) ?_
                  refine xa_iald hx hb hK hP 1 0 rfl rfl (by decide) (by omega) dM_move_105 ?_
                  refine lv_iload_n hx hb dM_move_106 rfl (lv_at hl 1 rfl) ?_
                  refine xi_add (z := ((mvF X dx k2) k2) + dx) hx hb dM_move_107 rfl ?_
                  refine xa_iast (z := k2) (v := ((mvF X dx k2) k2) + dx) hx hb hK hP hD hS 1 0 rfl rfl (by decide) (by omega) dM_move_108 (fun H locs hP hD hS => ?_)
                  rw [show up (mvF X dx k2) k2 (((mvF X dx k2) k2) + dx) = mvF X dx (k2 + 1) from (by first | exact mvF_s X dx i3.1 | rfl)] at hP hD
                  have hP : va_P (dC, dI) vwCl (mW ad cs fc par np nc rs npc hi lo (mvF X dx (k2 + 1)) (mvF Y dy k2) O E RX RY RO PC CV) H := hP
                  have hD : va_D A (mW ad cs fc par np nc rs npc hi lo (mvF X dx (k2 + 1)) (mvF Y dy k2) O E RX RY RO PC CV) := hD
                  refine lv_aload_n hx hb dM_move_109 rfl (lv_at hl 0 rfl) ?_
                  refine va_get (D := (dC, dI)) (ci := 3) (v := .ref (ad 2)) (C := RM) (T := TM) (N := 17) hx hb hts (fun w9 h9 => List.mem_cons_of_mem _ (inM w9 h9)) hown hK hP 0 rfl rfl 4 (by decide) (hts _ (List.mem_cons_of_mem _ flM_13)) (fun _ h9 => h9) rfl dM_move_110 ?_
                  refine lv_iload hx hb dM_move_113 (lv_at hl 3 rfl) ?_
                  refine lv_aload_n hx hb dM_move_115 rfl (lv_at hl 0 rfl) ?_
                  refine va_get (D := (dC, dI)) (ci := 3) (v := .ref (ad 2)) (C := RM) (T := TM) (N := 17) hx hb hts (fun w9 h9 => List.mem_cons_of_mem _ (inM w9 h9)) hown hK hP 0 rfl rfl 4 (by decide) (hts _ (List.mem_cons_of_mem _ flM_13)) (fun _ h9 => h9) rfl dM_move_116 ?_
                  refine lv_iload hx hb dM_move_119 (lv_at hl 3 rfl) ?_
                  refine xa_iald hx hb hK hP 2 1 rfl rfl (by decide) (by omega) dM_move_121 ?_
                  refine lv_iload_n hx hb dM_move_122 rfl (lv_at hl 2 rfl) ?_
                  refine xi_add (z := ((mvF Y dy k2) k2) + dy) hx hb dM_move_123 rfl ?_
                  refine xa_iast (z := k2) (v := ((mvF Y dy k2) k2) + dy) hx hb hK hP hD hS 2 1 rfl rfl (by decide) (by omega) dM_move_124 (fun H locs hP hD hS => ?_)
                  rw [show up (mvF Y dy k2) k2 (((mvF Y dy k2) k2) + dy) = mvF Y dy (k2 + 1) from (by first | exact mvF_s Y dy i3.1 | rfl)] at hP hD
                  have hP : va_P (dC, dI) vwCl (mW ad cs fc par np nc rs npc hi lo (mvF X dx (k2 + 1)) (mvF Y dy (k2 + 1)) O E RX RY RO PC CV) H := hP
                  have hD : va_D A (mW ad cs fc par np nc rs npc hi lo (mvF X dx (k2 + 1)) (mvF Y dy (k2 + 1)) O E RX RY RO PC CV) := hD
                  refine xi_iinc (z := k2 + 1) (lv' := [(4, .int (iI (k2 + 1))), (0, .ref (ad 0)), (1, .int (iI dx)), (2, .int (iI dy))]) hx hb dM_move_125 hl (k := 3) rfl rfl (by decide) rfl (fun ls hl => ?_)
                  refine lv_goto (tgt := 84) hx hb dM_move_128 (by decide) ?_
                  exact ih (k2 + 1) _ _ _ (by omega) (by omega) hP hD hS (lv_sub hl [1, 2, 3, 0] rfl)
            have e1 := (mvF_0 X dx).symm
            have e2 := (mvF_0 Y dy).symm
            have hP : va_P (dC, dI) vwCl (mW ad cs fc par np nc rs npc hi lo (mvF X dx 0) (mvF Y dy 0) O E RX RY RO PC CV) H := by rw [mvF_0, mvF_0]; exact hP
            have hD : va_D A (mW ad cs fc par np nc rs npc hi lo (mvF X dx 0) (mvF Y dy 0) O E RX RY RO PC CV) := by rw [mvF_0, mvF_0]; exact hD
            exact cut_84_3 (((np - (0 : Int)).toNat) + 1) 0 _ _ _ (Nat.lt_succ_self _) (by omega) hP hD hS (lv_sub hl [1, 2, 3, 0] rfl)
          · skip
            subst hQ
            exact W.vret hx hb hr (fun t9 ht9 hW9 => ⟨⟨(fc, X, Y), rfl, (⟨hfc, fun h => absurd h (by have := of_decide_eq_true c_77; omega), fun _ => rfl⟩), by rw [ht9]; exact hP, va_K.moved hW9.alike hK, hD⟩, hS.F ht9⟩) hS.2.2 dM_move_80
        refine lv_iload_n hx hb dM_move_65 rfl (lv_at hl 3 rfl) ?_
        refine xb_if_eq (tgt := 73) hx hb dM_move_66 (by decide) (fun c_66 => ?_) (fun c_66 => ?_)
        · skip
          refine xi_iconst hx hb dM_move_73 ?_
          exact cut_74_2 1 _ (by unfold fM; rw [← show k = np by omega, ← i2, if_neg (by rw [c_66]; decide)]) (lv_sub hl [0, 1, 2, 3, 4] rfl)
        · skip
          refine xi_iconst hx hb dM_move_69 ?_
          refine lv_goto (tgt := 74) hx hb dM_move_70 (by decide) ?_
          exact cut_74_2 0 _ (by unfold fM; rw [← show k = np by omega, ← i2, if_pos c_66]) (lv_sub hl [0, 1, 2, 3, 4] rfl)
      · skip
        have cut_57_4 : ∀ (v : Bool) (ls : Array Slot), (v = mvok X Y dx dy (k + 1).toNat) → lv_has ls 5 [(0, .ref (ad 0)), (1, .int (iI dx)), (2, .int (iI dy)), (3, .int (iI (bz sn))), (4, .int (iI k))] → W p l e R s m args below meth c H locs 0 0 Q (F0 m 57 ls [.int (iI (bz v))]) := by
          intro v ls hv hl
          refine lv_istore_n (lv' := [(3, .int (iI (bz v))), (0, .ref (ad 0)), (1, .int (iI dx)), (2, .int (iI dy)), (4, .int (iI k))]) hx hb dM_move_57 rfl hl (by decide) rfl (fun ls hl => ?_)
          refine xi_iinc (z := k + 1) (lv' := [(4, .int (iI (k + 1))), (3, .int (iI (bz v))), (0, .ref (ad 0)), (1, .int (iI dx)), (2, .int (iI dy))]) hx hb dM_move_58 hl (k := 4) rfl rfl (by decide) rfl (fun ls hl => ?_)
          refine lv_goto (tgt := 5) hx hb dM_move_61 (by decide) ?_
          exact ih (k + 1) v _ (by omega) (by omega) (hv) (lv_sub hl [2, 3, 4, 1, 0] rfl)
        have b1 := h3 k i1.1 (by omega)
        refine lv_iload_n hx hb dM_move_14 rfl (lv_at hl 3 rfl) ?_
        refine xb_if_eq (tgt := 56) hx hb dM_move_15 (by decide) (fun c_15 => ?_) (fun c_15 => ?_)
        · skip
          refine xi_iconst hx hb dM_move_56 ?_
          exact cut_57_4 false _ (by rw [mvok_s _ _ _ _ i1.1, ← i2, c_15]; rfl) (lv_sub hl [0, 1, 2, 3, 4] rfl)
        · skip
          refine lv_aload_n hx hb dM_move_18 rfl (lv_at hl 0 rfl) ?_
          refine va_get (D := (dC, dI)) (ci := 3) (v := .ref (ad 1)) (C := RM) (T := TM) (N := 17) hx hb hts (fun w9 h9 => List.mem_cons_of_mem _ (inM w9 h9)) hown hK hP 0 rfl rfl 3 (by decide) (hts _ (List.mem_cons_of_mem _ flM_7)) (fun _ h9 => h9) rfl dM_move_19 ?_
          refine lv_iload hx hb dM_move_22 (lv_at hl 4 rfl) ?_
          refine xa_iald hx hb hK hP 1 0 rfl rfl (by decide) (by omega) dM_move_24 ?_
          refine xl_i2l hx hb dM_move_25 (by omega) ?_
          refine lv_iload_n hx hb dM_move_26 rfl (lv_at hl 1 rfl) ?_
          refine xl_i2l hx hb dM_move_27 (by omega) ?_
          refine xl_add (z := (X k) + dx) hx hb dM_move_28 rfl ?_
          refine vp_callSi (W.runS (As := [.long (lI ((X k) + dx))]) (rest := []) ⟨hx, hb, hml, hown, hts⟩ (m_isCoordinate l dC dI (X k + dx) (by omega)) (va_cwS 1 hts (tb_S mlM_56 smM_isCoordinate iniM coM_isCoordinate) rfl rfl rfl (by decide +kernel) (by subst hR; exact ⟨Nat.le_of_ble_eq_true rfl, Nat.le_of_ble_eq_true rfl⟩)) ⟨fun a9 U9 g9 mk9 q9 => q9, fun U hU hW => ⟨rfl, trivial⟩⟩ rfl rfl hl.1 rfl (lv_room (Nat.le_of_ble_eq_true rfl)) dM_move_29 ⟨by subst hR; exact Nat.zero_le _, by subst hR; exact Nat.zero_le _⟩) (fun r_29 hw_29 => ?_)
          subst hw_29
          refine xb_if_eq (tgt := 56) hx hb dM_move_32 (by decide) (fun c_32 => ?_) (fun c_32 => ?_)
          · skip
            refine xi_iconst hx hb dM_move_56 ?_
            exact cut_57_4 false _ (by rw [mvok_s _ _ _ _ i1.1, decide_eq_false (fun h => absurd h.1 (of_decide_eq_false c_32)), Bool.and_false]) (lv_sub hl [0, 1, 2, 3, 4] rfl)
          · skip
            refine lv_aload_n hx hb dM_move_35 rfl (lv_at hl 0 rfl) ?_
            refine va_get (D := (dC, dI)) (ci := 3) (v := .ref (ad 2)) (C := RM) (T := TM) (N := 17) hx hb hts (fun w9 h9 => List.mem_cons_of_mem _ (inM w9 h9)) hown hK hP 0 rfl rfl 4 (by decide) (hts _ (List.mem_cons_of_mem _ flM_13)) (fun _ h9 => h9) rfl dM_move_36 ?_
            refine lv_iload hx hb dM_move_39 (lv_at hl 4 rfl) ?_
            refine xa_iald hx hb hK hP 2 1 rfl rfl (by decide) (by omega) dM_move_41 ?_
            refine xl_i2l hx hb dM_move_42 (by omega) ?_
            refine lv_iload_n hx hb dM_move_43 rfl (lv_at hl 2 rfl) ?_
            refine xl_i2l hx hb dM_move_44 (by omega) ?_
            refine xl_add (z := (Y k) + dy) hx hb dM_move_45 rfl ?_
            refine vp_callSi (W.runS (As := [.long (lI ((Y k) + dy))]) (rest := []) ⟨hx, hb, hml, hown, hts⟩ (m_isCoordinate l dC dI (Y k + dy) (by omega)) (va_cwS 1 hts (tb_S mlM_56 smM_isCoordinate iniM coM_isCoordinate) rfl rfl rfl (by decide +kernel) (by subst hR; exact ⟨Nat.le_of_ble_eq_true rfl, Nat.le_of_ble_eq_true rfl⟩)) ⟨fun a9 U9 g9 mk9 q9 => q9, fun U hU hW => ⟨rfl, trivial⟩⟩ rfl rfl hl.1 rfl (lv_room (Nat.le_of_ble_eq_true rfl)) dM_move_46 ⟨by subst hR; exact Nat.zero_le _, by subst hR; exact Nat.zero_le _⟩) (fun r_46 hw_46 => ?_)
            subst hw_46
            refine xb_if_eq (tgt := 56) hx hb dM_move_49 (by decide) (fun c_49 => ?_) (fun c_49 => ?_)
            · skip
              refine xi_iconst hx hb dM_move_56 ?_
              exact cut_57_4 false _ (by rw [mvok_s _ _ _ _ i1.1, decide_eq_false (fun h => absurd h.2 (of_decide_eq_false c_49)), Bool.and_false]) (lv_sub hl [0, 1, 2, 3, 4] rfl)
            · skip
              refine xi_iconst hx hb dM_move_52 ?_
              refine lv_goto (tgt := 57) hx hb dM_move_53 (by decide) ?_
              exact cut_57_4 true _ (by rw [mvok_s _ _ _ _ i1.1, ← i2, c_15, decide_eq_true ⟨of_decide_eq_true c_32, of_decide_eq_true c_49⟩]; rfl) (lv_sub hl [0, 1, 2, 3, 4] rfl)
  exact cut_5_1 (((np - (0 : Int)).toNat) + 1) 0 true _ (Nat.lt_succ_self _) (by omega) (rfl) (lv_sub hl [2, 3, 4, 1, 0] rfl)
set_option maxHeartbeats 4000000 in
set_option maxRecDepth 100000 in
/-- putRing -/
theorem m_putRing (l : Launch) (dC : Nat → ClassId) (dI : Nat → Nat → Nat) (ad : Nat → Nat) (cs : Nat → ClassId) (sz : Nat) (ft : Int) (par : Bool) (np nc rs npc hi lo : Int) (X Y : Int → Int) (O : Int → Bool) (E RX RY : Int → Int) (RO : Int → Bool) (PC : Int → Int) (CV : Int → Bool) (x y : Int) (on : Bool) (h1 : 0 ≤ rs ∧ rs < 1024) : Met l yM_putRing wM_putRing ({ frames := 0, cells := 0, slots := 0, locals := 0 }) (va_Pc [.ref (ad 0), .int (iI x), .int (iI y), .int (iI (bz on))] (fun U => U.heap.size = sz ∧ va_P (dC, dI) vwCl (mW ad cs ft par np nc rs npc hi lo X Y O E RX RY RO PC CV) U.heap ∧ va_K (dC, dI) vwCl (mT cs) U ∧ va_D (fun _ => True) (mW ad cs ft par np nc rs npc hi lo X Y O E RX RY RO PC CV))) (va_Qv (fun (u : Unit) => True) (fun (u : Unit) t9 => va_P (dC, dI) vwCl (mW ad cs ft par np nc (rs + 1) npc hi lo X Y O E (up RX rs x) (up RY rs y) (up RO rs on) PC CV) t9.heap ∧ va_K (dC, dI) vwCl (mT cs) t9 ∧ va_D (va_A (mW ad cs ft par np nc rs npc hi lo X Y O E RX RY RO PC CV) sz) (mW ad cs ft par np nc (rs + 1) npc hi lo X Y O E (up RX rs x) (up RY rs y) (up RO rs on) PC CV)) (va_A (mW ad cs ft par np nc rs npc hi lo X Y O E RX RY RO PC CV) sz)) 0 0 (va_A (mW ad cs ft par np nc rs npc hi lo X Y O E RX RY RO PC CV) sz) := by
  refine Met.ofW (cc := cM_putRing) (maxL := 4) (ret := none) (by decide) rfl ?_
  intro p e s m args below meth c s₁ B hml hv
  obtain ⟨hargs, hsz, hP, hK, hD0⟩ := hv
  have hx := B.exec
  have hb := B.bytes
  have hr := B.returns
  have hts := atoms_spec (ws := wM_putRing) B.pre
  have hown : s.vm.findClass RM = some m.cls := findClass_of_methodNamed B.named
  have hlocks := B.notSynchronized
  subst hsz
  have hD := hD0.self (sz := s.heap.size)
  generalize hAe : va_A (mW ad cs ft par np nc rs npc hi lo X Y O E RX RY RO PC CV) s.heap.size = A at hD ⊢
  have hA : ∀ q : Nat, s.heap.size ≤ q → A q := fun q h => by rw [← hAe]; exact Or.inr h
  have hS0 : va_S A s.heap s.heap [] := va_S.rf
  refine x_name (fun R Q H locs hR hQ hH hlo => ?_)
  rw [← hH] at hP
  have hS : va_S A s.heap H locs := by rw [hH, hlo]; exact hS0
  refine x_entry hargs (Nat.le_of_ble_eq_true rfl) (fun ls hl => ?_)
  have hl : lv_has ls 4 [(0, .ref (ad 0)), (1, .int (iI x)), (2, .int (iI y)), (3, .int (iI (bz on)))] := hl
  have hP : va_P (dC, dI) vwCl (mW ad cs ft par np nc rs npc hi lo X Y O E RX RY RO PC CV) H := hP
  refine lv_aload_n hx hb dM_putRing_0 rfl (lv_at hl 0 rfl) ?_
  refine va_get (D := (dC, dI)) (ci := 3) (v := .ref (ad 5)) (C := RM) (T := TM) (N := 17) hx hb hts (fun w9 h9 => List.mem_cons_of_mem _ (inM w9 h9)) hown hK hP 0 rfl rfl 9 (by decide) (hts _ (List.mem_cons_of_mem _ flM_23)) (fun _ h9 => h9) rfl dM_putRing_1 ?_
  refine lv_aload_n hx hb dM_putRing_4 rfl (lv_at hl 0 rfl) ?_
  refine va_get (D := (dC, dI)) (ci := 3) (v := .int (iI rs)) (C := RM) (T := TM) (N := 17) hx hb hts (fun w9 h9 => List.mem_cons_of_mem _ (inM w9 h9)) hown hK hP 0 rfl rfl 8 (by decide) (hts _ (List.mem_cons_of_mem _ flM_71)) (fun _ h9 => h9) rfl dM_putRing_5 ?_
  refine lv_iload_n hx hb dM_putRing_8 rfl (lv_at hl 1 rfl) ?_
  refine xa_iast (z := rs) (v := x) hx hb hK hP hD hS 5 4 rfl rfl (by decide) (by omega) dM_putRing_9 (fun H locs hP hD hS => ?_)
  have hP : va_P (dC, dI) vwCl (mW ad cs ft par np nc rs npc hi lo X Y O E (up RX rs x) RY RO PC CV) H := hP
  have hD : va_D A (mW ad cs ft par np nc rs npc hi lo X Y O E (up RX rs x) RY RO PC CV) := hD
  refine lv_aload_n hx hb dM_putRing_10 rfl (lv_at hl 0 rfl) ?_
  refine va_get (D := (dC, dI)) (ci := 3) (v := .ref (ad 6)) (C := RM) (T := TM) (N := 17) hx hb hts (fun w9 h9 => List.mem_cons_of_mem _ (inM w9 h9)) hown hK hP 0 rfl rfl 10 (by decide) (hts _ (List.mem_cons_of_mem _ flM_26)) (fun _ h9 => h9) rfl dM_putRing_11 ?_
  refine lv_aload_n hx hb dM_putRing_14 rfl (lv_at hl 0 rfl) ?_
  refine va_get (D := (dC, dI)) (ci := 3) (v := .int (iI rs)) (C := RM) (T := TM) (N := 17) hx hb hts (fun w9 h9 => List.mem_cons_of_mem _ (inM w9 h9)) hown hK hP 0 rfl rfl 8 (by decide) (hts _ (List.mem_cons_of_mem _ flM_71)) (fun _ h9 => h9) rfl dM_putRing_15 ?_
  refine lv_iload_n hx hb dM_putRing_18 rfl (lv_at hl 2 rfl) ?_
  refine xa_iast (z := rs) (v := y) hx hb hK hP hD hS 6 5 rfl rfl (by decide) (by omega) dM_putRing_19 (fun H locs hP hD hS => ?_)
  have hP : va_P (dC, dI) vwCl (mW ad cs ft par np nc rs npc hi lo X Y O E (up RX rs x) (up RY rs y) RO PC CV) H := hP
  have hD : va_D A (mW ad cs ft par np nc rs npc hi lo X Y O E (up RX rs x) (up RY rs y) RO PC CV) := hD
  refine lv_aload_n hx hb dM_putRing_20 rfl (lv_at hl 0 rfl) ?_
  refine va_get (D := (dC, dI)) (ci := 3) (v := .ref (ad 7)) (C := RM) (T := TM) (N := 17) hx hb hts (fun w9 h9 => List.mem_cons_of_mem _ (inM w9 h9)) hown hK hP 0 rfl rfl 11 (by decide) (hts _ (List.mem_cons_of_mem _ flM_29)) (fun _ h9 => h9) rfl dM_putRing_21 ?_
  refine lv_aload_n hx hb dM_putRing_24 rfl (lv_at hl 0 rfl) ?_
  refine va_get (D := (dC, dI)) (ci := 3) (v := .int (iI rs)) (C := RM) (T := TM) (N := 17) hx hb hts (fun w9 h9 => List.mem_cons_of_mem _ (inM w9 h9)) hown hK hP 0 rfl rfl 8 (by decide) (hts _ (List.mem_cons_of_mem _ flM_71)) (fun _ h9 => h9) rfl dM_putRing_25 ?_
  refine lv_iload_n hx hb dM_putRing_28 rfl (lv_at hl 3 rfl) ?_
  refine xa_zast (z := rs) (v := on) hx hb hK hP hD hS 7 6 rfl rfl (by decide) (by omega) dM_putRing_29 (fun H locs hP hD hS => ?_)
  have hP : va_P (dC, dI) vwCl (mW ad cs ft par np nc rs npc hi lo X Y O E (up RX rs x) (up RY rs y) (up RO rs on) PC CV) H := hP
  have hD : va_D A (mW ad cs ft par np nc rs npc hi lo X Y O E (up RX rs x) (up RY rs y) (up RO rs on) PC CV) := hD
  refine lv_aload_n hx hb dM_putRing_30 rfl (lv_at hl 0 rfl) ?_
  refine lv_dup hx hb dM_putRing_31 rfl ?_
  refine va_get (D := (dC, dI)) (ci := 3) (v := .int (iI rs)) (C := RM) (T := TM) (N := 17) hx hb hts (fun w9 h9 => List.mem_cons_of_mem _ (inM w9 h9)) hown hK hP 0 rfl rfl 8 (by decide) (hts _ (List.mem_cons_of_mem _ flM_71)) (fun _ h9 => h9) rfl dM_putRing_32 ?_
  refine xi_iconst hx hb dM_putRing_35 ?_
  refine xi_add (z := rs + 1) hx hb dM_putRing_36 rfl ?_
  refine va_put (D := (dC, dI)) (ci := 3) (v := .int (iI (rs + 1))) (ty := .int) (C := RM) (T := TM) (N := 17) hx hb hts (fun w9 h9 => List.mem_cons_of_mem _ (inM w9 h9)) tyM tyM_ok nmM hown hK hP hD hS 0 rfl rfl 8 (by decide) (hts _ (List.mem_cons_of_mem _ flM_71)) (fun _ h9 => h9) rfl (by decide +kernel) rfl rfl (Nat.le_of_ble_eq_true rfl) dM_putRing_37 (fun H locs hP hD hS => ?_)
  have hP : va_P (dC, dI) vwCl (mW ad cs ft par np nc (rs + 1) npc hi lo X Y O E (up RX rs x) (up RY rs y) (up RO rs on) PC CV) H := hP
  have hD : va_D A (mW ad cs ft par np nc (rs + 1) npc hi lo X Y O E (up RX rs x) (up RY rs y) (up RO rs on) PC CV) := hD
  subst hQ
  exact W.vret hx hb hr (fun t9 ht9 hW9 => ⟨⟨(), rfl, (trivial), by rw [ht9]; exact hP, va_K.moved hW9.alike hK, hD⟩, hS.F ht9⟩) hS.2.2 dM_putRing_40
set_option maxHeartbeats 4000000 in
set_option maxRecDepth 100000 in
/-- makeRing -/
theorem m_makeRing (l : Launch) (dC : Nat → ClassId) (dI : Nat → Nat → Nat) (ad : Nat → Nat) (cs : Nat → ClassId) (sz : Nat) (ft : Int) (par : Bool) (np nc rs npc hi lo : Int) (X Y : Int → Int) (O : Int → Bool) (E RX RY : Int → Int) (RO : Int → Bool) (PC : Int → Int) (CV : Int → Bool) (fr to : Int) (h1 : 0 ≤ fr ∧ fr < to ∧ to ≤ 512) (h3 : ∀ k : Int, 0 ≤ k → k < to → (-8192 ≤ X k ∧ X k ≤ 8191) ∧ (-8192 ≤ Y k ∧ Y k ≤ 8191)) : Met l yM_makeRing wM_makeRing ({ frames := 1, cells := 0, slots := 0, locals := 23 }) (va_Pc [.ref (ad 0), .int (iI fr), .int (iI to)] (fun U => U.heap.size = sz ∧ va_P (dC, dI) vwCl (mW ad cs ft par np nc rs npc hi lo X Y O E RX RY RO PC CV) U.heap ∧ va_K (dC, dI) vwCl (mT cs) U ∧ va_D (fun _ => True) (mW ad cs ft par np nc rs npc hi lo X Y O E RX RY RO PC CV))) (va_Qv (fun (u : Int × (Int → Int) × (Int → Int) × (Int → Bool)) => u.1 = rpos O fr to to ∧ ringOk X Y O fr to u.2.1 u.2.2.1 u.2.2.2 to) (fun (u : Int × (Int → Int) × (Int → Int) × (Int → Bool)) t9 => va_P (dC, dI) vwCl (mW ad cs ft par np nc u.1 npc hi lo X Y O E u.2.1 u.2.2.1 u.2.2.2 PC CV) t9.heap ∧ va_K (dC, dI) vwCl (mT cs) t9 ∧ va_D (va_A (mW ad cs ft par np nc rs npc hi lo X Y O E RX RY RO PC CV) sz) (mW ad cs ft par np nc u.1 npc hi lo X Y O E u.2.1 u.2.2.1 u.2.2.2 PC CV)) (va_A (mW ad cs ft par np nc rs npc hi lo X Y O E RX RY RO PC CV) sz)) 0 0 (va_A (mW ad cs ft par np nc rs npc hi lo X Y O E RX RY RO PC CV) sz) := by
  refine Met.ofW (cc := cM_makeRing) (maxL := 5) (ret := none) (by decide) rfl ?_
  intro p e s m args below meth c s₁ B hml hv
  obtain ⟨hargs, hsz, hP, hK, hD0⟩ := hv
  have hx := B.exec
  have hb := B.bytes
  have hr := B.returns
  have hts := atoms_spec (ws := wM_makeRing) B.pre
  have hown : s.vm.findClass RM = some m.cls := findClass_of_methodNamed B.named
  have hlocks := B.notSynchronized
  subst hsz
  have hD := hD0.self (sz := s.heap.size)
  generalize hAe : va_A (mW ad cs ft par np nc rs npc hi lo X Y O E RX RY RO PC CV) s.heap.size = A at hD ⊢
  have hA : ∀ q : Nat, s.heap.size ≤ q → A q := fun q h => by rw [← hAe]; exact Or.inr h
  have hS0 : va_S A s.heap s.heap [] := va_S.rf
  refine x_name (fun R Q H locs hR hQ hH hlo => ?_)
  rw [← hH] at hP
  have hS : va_S A s.heap H locs := by rw [hH, hlo]; exact hS0
  refine x_entry hargs (Nat.le_of_ble_eq_true rfl) (fun ls hl => ?_)
  have hl : lv_has ls 5 [(0, .ref (ad 0)), (1, .int (iI fr)), (2, .int (iI to))] := hl
  have hP : va_P (dC, dI) vwCl (mW ad cs ft par np nc rs npc hi lo X Y O E RX RY RO PC CV) H := hP
  refine lv_aload_n hx hb dM_makeRing_0 rfl (lv_at hl 0 rfl) ?_
  refine xi_iconst hx hb dM_makeRing_1 ?_
  refine va_put (D := (dC, dI)) (ci := 3) (v := .int (iI 0)) (ty := .int) (C := RM) (T := TM) (N := 17) hx hb hts (fun w9 h9 => List.mem_cons_of_mem _ (inM w9 h9)) tyM tyM_ok nmM hown hK hP hD hS 0 rfl rfl 8 (by decide) (hts _ (List.mem_cons_of_mem _ flM_71)) (fun _ h9 => h9) rfl (by decide +kernel) rfl rfl (Nat.le_of_ble_eq_true rfl) dM_makeRing_2 (fun H locs hP hD hS => ?_)
  have hP : va_P (dC, dI) vwCl (mW ad cs ft par np nc 0 npc hi lo X Y O E RX RY RO PC CV) H := hP
  have hD : va_D A (mW ad cs ft par np nc 0 npc hi lo X Y O E RX RY RO PC CV) := hD
  refine lv_iload_n hx hb dM_makeRing_5 rfl (lv_at hl 1 rfl) ?_
  refine lv_istore_n (lv' := [(3, .int (iI fr)), (0, .ref (ad 0)), (1, .int (iI fr)), (2, .int (iI to))]) hx hb dM_makeRing_6 rfl hl (by decide) rfl (fun ls hl => ?_)
  have cut_7_1 : ∀ (n : Nat) (k : Int) (GX : Int → Int) (GY : Int → Int) (GO : Int → Bool) (H : Heap) (locs : List Loc) (ls : Array Slot), ((to - k).toNat) < n → (fr ≤ k ∧ k ≤ to) → (ringOk X Y O fr to GX GY GO k) → va_P (dC, dI) vwCl (mW ad cs ft par np nc (rpos O fr to k) npc hi lo X Y O E GX GY GO PC CV) H → va_D A (mW ad cs ft par np nc (rpos O fr to k) npc hi lo X Y O E GX GY GO PC CV) → va_S A s.heap H locs → lv_has ls 5 [(0, .ref (ad 0)), (1, .int (iI fr)), (2, .int (iI to)), (3, .int (iI k))] → W p l e R s m args below meth c H locs 0 0 Q (F0 m 7 ls []) := by
    intro n
    induction n with
    | zero => intro _ _ _ _ _ _ _ hm; exact absurd hm (Nat.not_lt_zero _)
    | succ n ih =>
      intro k GX GY GO H locs ls hm i1 i2 hP hD hS hl
      have b1 := rpos_bd O fr to i1.1
      refine lv_iload_n hx hb dM_makeRing_7 rfl (lv_at hl 3 rfl) ?_
      refine lv_iload_n hx hb dM_makeRing_8 rfl (lv_at hl 2 rfl) ?_
      refine xi_icmp_ge (tgt := 112) hx hb dM_makeRing_9 (by decide) (by omega) (by omega) (fun c_9 => ?_) (fun c_9 => ?_)
      · skip
        subst hQ
        exact W.vret hx hb hr (fun t9 ht9 hW9 => ⟨⟨(rpos O fr to k, GX, GY, GO), rfl, (⟨by rw [show k = to by omega], by rw [show k = to by omega] at i2; exact i2⟩), by rw [ht9]; exact hP, va_K.moved hW9.alike hK, hD⟩, hS.F ht9⟩) hS.2.2 dM_makeRing_112
      · skip
        have cut_26_2 : ∀ (nt : Int) (ls : Array Slot), (nt = nx fr to k) → lv_has ls 5 [(0, .ref (ad 0)), (1, .int (iI fr)), (2, .int (iI to)), (3, .int (iI k))] → W p l e R s m args below meth c H locs 0 0 Q (F0 m 26 ls [.int (iI nt)]) := by
          intro nt ls hnt hl
          have b2 : 0 ≤ nt ∧ nt < to := by (rw [hnt]; unfold nx; split <;> omega)
          have b3 := h3 k (by omega) (by omega)
          have b4 := h3 nt b2.1 b2.2
          refine lv_istore (lv' := [(4, .int (iI nt)), (0, .ref (ad 0)), (1, .int (iI fr)), (2, .int (iI to)), (3, .int (iI k))]) hx hb dM_makeRing_26 hl (by decide) rfl (fun ls hl => ?_)
          refine lv_aload_n hx hb dM_makeRing_28 rfl (lv_at hl 1 rfl) ?_
          refine lv_aload_n hx hb dM_makeRing_29 rfl (lv_at hl 1 rfl) ?_
          refine va_get (D := (dC, dI)) (ci := 3) (v := .ref (ad 1)) (C := RM) (T := TM) (N := 17) hx hb hts (fun w9 h9 => List.mem_cons_of_mem _ (inM w9 h9)) hown hK hP 0 rfl rfl 3 (by decide) (hts _ (List.mem_cons_of_mem _ flM_7)) (fun _ h9 => h9) rfl dM_makeRing_30 ?_
          refine lv_iload_n hx hb dM_makeRing_33 rfl (lv_at hl 4 rfl) ?_
          refine xa_iald hx hb hK hP 1 0 rfl rfl (by decide) (by omega) dM_makeRing_34 ?_
          refine lv_aload_n hx hb dM_makeRing_35 rfl (lv_at hl 1 rfl) ?_
          refine va_get (D := (dC, dI)) (ci := 3) (v := .ref (ad 2)) (C := RM) (T := TM) (N := 17) hx hb hts (fun w9 h9 => List.mem_cons_of_mem _ (inM w9 h9)) hown hK hP 0 rfl rfl 4 (by decide) (hts _ (List.mem_cons_of_mem _ flM_13)) (fun _ h9 => h9) rfl dM_makeRing_36 ?_
          refine lv_iload_n hx hb dM_makeRing_39 rfl (lv_at hl 4 rfl) ?_
          refine xa_iald hx hb hK hP 2 1 rfl rfl (by decide) (by omega) dM_makeRing_40 ?_
          refine lv_aload_n hx hb dM_makeRing_41 rfl (lv_at hl 1 rfl) ?_
          refine va_get (D := (dC, dI)) (ci := 3) (v := .ref (ad 3)) (C := RM) (T := TM) (N := 17) hx hb hts (fun w9 h9 => List.mem_cons_of_mem _ (inM w9 h9)) hown hK hP 0 rfl rfl 5 (by decide) (hts _ (List.mem_cons_of_mem _ flM_16)) (fun _ h9 => h9) rfl dM_makeRing_42 ?_
          refine lv_iload_n hx hb dM_makeRing_45 rfl (lv_at hl 4 rfl) ?_
          refine xa_zald hx hb hK hP 3 2 rfl rfl (by decide) (by omega) dM_makeRing_46 ?_
          have hFc := xw_free hD hS hA
          refine va_callv (va_runV (As := [.int (iI (X k)), .int (iI (Y k)), .int (iI (bz (O k)))]) (rest := []) ⟨hx, hb, hml, hown, hts⟩ (m_putRing l dC dI ad cs H.size ft par np nc (rpos O fr to k) npc hi lo X Y O E GX GY GO PC CV (X k) (Y k) (O k) (by omega)) (cwV 3 hts (tb_V mlM_74 imM_putRing seM_putRing iniM coM_putRing) rfl rfl rfl (by decide +kernel) (by subst hR; exact ⟨Nat.le_of_ble_eq_true rfl, Nat.le_of_ble_eq_true rfl⟩)) ⟨fun a9 U9 g9 mk9 q9 => by obtain ⟨q0, q1, qP, qK, qD⟩ := q9; exact ⟨q0, q1, qP, va_K.moved (u := U9) (U := U9.calling g9 mk9 a9) (Vm.Alike.refl U9.vm) qK, qD⟩, va_recv hK hP (ci := 3) (q0 := 0) rfl rfl, fun U hU hW => ⟨rfl, by rw [hU], by rw [hU]; exact hP, va_K.moved hW.alike hK, hD.weaken (fun _ _ _ _ => trivial)⟩⟩ rfl rfl hl.1 rfl (lv_room (Nat.le_of_ble_eq_true rfl)) dM_makeRing_47 ⟨by subst hR; exact Nat.le_of_ble_eq_true rfl, by subst hR; exact Nat.le_of_ble_eq_true rfl⟩) hS (fun q9 _ h9 => hFc q9 h9) hFc (fun u_47 t9 H1 locs1 ht9 hvm9 hw_47 hB9 hz9 hk9 hS1 => ?_)
          obtain ⟨hP1, hK1, hD1⟩ := hB9
          rw [ht9] at hP1
          have hP : va_P (dC, dI) vwCl (mW ad cs ft par np nc ((rpos O fr to k) + 1) npc hi lo X Y O E (up GX (rpos O fr to k) (X k)) (up GY (rpos O fr to k) (Y k)) (up GO (rpos O fr to k) (O k)) PC CV) H1 := hP1
          have hD : va_D A (mW ad cs ft par np nc ((rpos O fr to k) + 1) npc hi lo X Y O E (up GX (rpos O fr to k) (X k)) (up GY (rpos O fr to k) (Y k)) (up GO (rpos O fr to k) (O k)) PC CV) := hD1.weaken (fun _ _ _ h9 => hFc _ h9)
          clear hP1 hD1 hK1 hFc
          have hS := hS1
          clear hS1 hz9 hk9 ht9 hvm9
          revert hP hD hS; generalize H1 = H; generalize locs1 = locs; intro hP hD hS
          refine lv_aload_n hx hb dM_makeRing_50 rfl (lv_at hl 1 rfl) ?_
          refine va_get (D := (dC, dI)) (ci := 3) (v := .ref (ad 3)) (C := RM) (T := TM) (N := 17) hx hb hts (fun w9 h9 => List.mem_cons_of_mem _ (inM w9 h9)) hown hK hP 0 rfl rfl 5 (by decide) (hts _ (List.mem_cons_of_mem _ flM_16)) (fun _ h9 => h9) rfl dM_makeRing_51 ?_
          refine lv_iload_n hx hb dM_makeRing_54 rfl (lv_at hl 4 rfl) ?_
          refine xa_zald hx hb hK hP 3 2 rfl rfl (by decide) (by omega) dM_makeRing_55 ?_
          refine xb_if_ne (tgt := 106) hx hb dM_makeRing_56 (by decide) (fun c_56 => ?_) (fun c_56 => ?_)
          · skip
            refine xi_iinc (z := k + 1) (lv' := [(3, .int (iI (k + 1))), (4, .int (iI nt)), (0, .ref (ad 0)), (1, .int (iI fr)), (2, .int (iI to))]) hx hb dM_makeRing_106 hl (k := 4) rfl rfl (by decide) rfl (fun ls hl => ?_)
            refine lv_goto (tgt := 7) hx hb dM_makeRing_109 (by decide) ?_
            have hm9 : mid O fr to k = false := by unfold mid; rw [c_56]; rfl
            have e9 := rpos_s O fr to i1.1
            rw [hm9] at e9
            rw [if_neg (by decide)] at e9
            have hP : va_P (dC, dI) vwCl (mW ad cs ft par np nc (rpos O fr to (k + 1)) npc hi lo X Y O E (up GX (rpos O fr to k) (X k)) (up GY (rpos O fr to k) (Y k)) (up GO (rpos O fr to k) (O k)) PC CV) H := by rw [e9]; exact hP
            have hD : va_D A (mW ad cs ft par np nc (rpos O fr to (k + 1)) npc hi lo X Y O E (up GX (rpos O fr to k) (X k)) (up GY (rpos O fr to k) (Y k)) (up GO (rpos O fr to k) (O k)) PC CV) := by rw [e9]; exact hD
            exact ih (k + 1) (up GX (rpos O fr to k) (X k)) (up GY (rpos O fr to k) (Y k)) (up GO (rpos O fr to k) (O k)) _ _ _ (by omega) (by omega) (ringOk_1 i1.1 hm9 i2) hP hD hS (lv_sub hl [2, 3, 4, 0] rfl)
          · skip
            refine lv_aload_n hx hb dM_makeRing_59 rfl (lv_at hl 1 rfl) ?_
            refine va_get (D := (dC, dI)) (ci := 3) (v := .ref (ad 3)) (C := RM) (T := TM) (N := 17) hx hb hts (fun w9 h9 => List.mem_cons_of_mem _ (inM w9 h9)) hown hK hP 0 rfl rfl 5 (by decide) (hts _ (List.mem_cons_of_mem _ flM_16)) (fun _ h9 => h9) rfl dM_makeRing_60 ?_
            refine lv_iload hx hb dM_makeRing_63 (lv_at hl 0 rfl) ?_
            refine xa_zald hx hb hK hP 3 2 rfl rfl (by decide) (by omega) dM_makeRing_65 ?_
            refine xb_if_ne (tgt := 106) hx hb dM_makeRing_66 (by decide) (fun c_66 => ?_) (fun c_66 => ?_)
            · skip
              refine xi_iinc (z := k + 1) (lv' := [(3, .int (iI (k + 1))), (4, .int (iI nt)), (0, .ref (ad 0)), (1, .int (iI fr)), (2, .int (iI to))]) hx hb dM_makeRing_106 hl (k := 4) rfl rfl (by decide) rfl (fun ls hl => ?_)
              refine lv_goto (tgt := 7) hx hb dM_makeRing_109 (by decide) ?_
              have hm9 : mid O fr to k = false := by unfold mid; rw [← hnt, c_66, Bool.not_true, Bool.and_false]
              have e9 := rpos_s O fr to i1.1
              rw [hm9] at e9
              rw [if_neg (by decide)] at e9
              have hP : va_P (dC, dI) vwCl (mW ad cs ft par np nc (rpos O fr to (k + 1)) npc hi lo X Y O E (up GX (rpos O fr to k) (X k)) (up GY (rpos O fr to k) (Y k)) (up GO (rpos O fr to k) (O k)) PC CV) H := by rw [e9]; exact hP
              have hD : va_D A (mW ad cs ft par np nc (rpos O fr to (k + 1)) npc hi lo X Y O E (up GX (rpos O fr to k) (X k)) (up GY (rpos O fr to k) (Y k)) (up GO (rpos O fr to k) (O k)) PC CV) := by rw [e9]; exact hD
              exact ih (k + 1) (up GX (rpos O fr to k) (X k)) (up GY (rpos O fr to k) (Y k)) (up GO (rpos O fr to k) (O k)) _ _ _ (by omega) (by omega) (ringOk_1 i1.1 hm9 i2) hP hD hS (lv_sub hl [2, 3, 4, 0] rfl)
            · skip
              refine lv_aload_n hx hb dM_makeRing_69 rfl (lv_at hl 1 rfl) ?_
              refine lv_aload_n hx hb dM_makeRing_70 rfl (lv_at hl 1 rfl) ?_
              refine va_get (D := (dC, dI)) (ci := 3) (v := .ref (ad 1)) (C := RM) (T := TM) (N := 17) hx hb hts (fun w9 h9 => List.mem_cons_of_mem _ (inM w9 h9)) hown hK hP 0 rfl rfl 3 (by decide) (hts _ (List.mem_cons_of_mem _ flM_7)) (fun _ h9 => h9) rfl dM_makeRing_71 ?_
              refine lv_iload_n hx hb dM_makeRing_74 rfl (lv_at hl 4 rfl) ?_
              refine xa_iald hx hb hK hP 1 0 rfl rfl (by decide) (by omega) dM_makeRing_75 ?_
              refine lv_aload_n hx hb dM_makeRing_76 rfl (lv_at hl 1 rfl) ?_
              refine va_get (D := (dC, dI)) (ci := 3) (v := .ref (ad 1)) (C := RM) (T := TM) (N := 17) hx hb hts (fun w9 h9 => List.mem_cons_of_mem _ (inM w9 h9)) hown hK hP 0 rfl rfl 3 (by decide) (hts _ (List.mem_cons_of_mem _ flM_7)) (fun _ h9 => h9) rfl dM_makeRing_77 ?_
              refine lv_iload hx hb dM_makeRing_80 (lv_at hl 0 rfl) ?_
              refine xa_iald hx hb hK hP 1 0 rfl rfl (by decide) (by omega) dM_makeRing_82 ?_
              refine xi_add (z := (X k) + (X nt)) hx hb dM_makeRing_83 rfl ?_
              refine xi_iconst hx hb dM_makeRing_84 ?_
              refine lv_ishr hx hb dM_makeRing_85 ?_
              refine xi_top (y := .int (iI ((X k + X nt) / 2))) (by rw [iI_shr1 (by omega)]) ?_
              refine lv_aload_n hx hb dM_makeRing_86 rfl (lv_at hl 1 rfl) ?_
              refine va_get (D := (dC, dI)) (ci := 3) (v := .ref (ad 2)) (C := RM) (T := TM) (N := 17) hx hb hts (fun w9 h9 => List.mem_cons_of_mem _ (inM w9 h9)) hown hK hP 0 rfl rfl 4 (by decide) (hts _ (List.mem_cons_of_mem _ flM_13)) (fun _ h9 => h9) rfl dM_makeRing_87 ?_
              refine lv_iload_n hx hb dM_makeRing_90 rfl (lv_at hl 4 rfl) ?_
              refine xa_iald hx hb hK hP 2 1 rfl rfl (by decide) (by omega) dM_makeRing_91 ?_
              refine lv_aload_n hx hb dM_makeRing_92 rfl (lv_at hl 1 rfl) ?_
              refine va_get (D := (dC, dI)) (ci := 3) (v := .ref (ad 2)) (C := RM) (T := TM) (N := 17) hx hb hts (fun w9 h9 => List.mem_cons_of_mem _ (inM w9 h9)) hown hK hP 0 rfl rfl 4 (by decide) (hts _ (List.mem_cons_of_mem _ flM_13)) (fun _ h9 => h9) rfl dM_makeRing_93 ?_
              refine lv_iload hx hb dM_makeRing_96 (lv_at hl 0 rfl) ?_
              refine xa_iald hx hb hK hP 2 1 rfl rfl (by decide) (by omega) dM_makeRing_98 ?_
              refine xi_add (z := (Y k) + (Y nt)) hx hb dM_makeRing_99 rfl ?_
              refine xi_iconst hx hb dM_makeRing_100 ?_
              refine lv_ishr hx hb dM_makeRing_101 ?_
              refine xi_top (y := .int (iI ((Y k + Y nt) / 2))) (by rw [iI_shr1 (by omega)]) ?_
              refine xi_iconst hx hb dM_makeRing_102 ?_
              have hFc := xw_free hD hS hA
              refine va_callv (va_runV (As := [.int (iI ((X k + X nt) / 2)), .int (iI ((Y k + Y nt) / 2)), .int (iI 1)]) (rest := []) ⟨hx, hb, hml, hown, hts⟩ (m_putRing l dC dI ad cs H.size ft par np nc ((rpos O fr to k) + 1) npc hi lo X Y O E (up GX (rpos O fr to k) (X k)) (up GY (rpos O fr to k) (Y k)) (up GO (rpos O fr to k) (O k)) PC CV ((X k + X nt) / 2) ((Y k + Y nt) / 2) true (by omega)) (cwV 3 hts (tb_V mlM_74 imM_putRing seM_putRing iniM coM_putRing) rfl rfl rfl (by decide +kernel) (by subst hR; exact ⟨Nat.le_of_ble_eq_true rfl, Nat.le_of_ble_eq_true rfl⟩)) ⟨fun a9 U9 g9 mk9 q9 => by obtain ⟨q0, q1, qP, qK, qD⟩ := q9; exact ⟨q0, q1, qP, va_K.moved (u := U9) (U := U9.calling g9 mk9 a9) (Vm.Alike.refl U9.vm) qK, qD⟩, va_recv hK hP (ci := 3) (q0 := 0) rfl rfl, fun U hU hW => ⟨rfl, by rw [hU], by rw [hU]; exact hP, va_K.moved hW.alike hK, hD.weaken (fun _ _ _ _ => trivial)⟩⟩ rfl rfl hl.1 rfl (lv_room (Nat.le_of_ble_eq_true rfl)) dM_makeRing_103 ⟨by subst hR; exact Nat.le_of_ble_eq_true rfl, by subst hR; exact Nat.le_of_ble_eq_true rfl⟩) hS (fun q9 _ h9 => hFc q9 h9) hFc (fun u_103 t9 H1 locs1 ht9 hvm9 hw_103 hB9 hz9 hk9 hS1 => ?_)
              obtain ⟨hP1, hK1, hD1⟩ := hB9
              rw [ht9] at hP1
              have hP : va_P (dC, dI) vwCl (mW ad cs ft par np nc (((rpos O fr to k) + 1) + 1) npc hi lo X Y O E (up (up GX (rpos O fr to k) (X k)) ((rpos O fr to k) + 1) ((X k + X nt) / 2)) (up (up GY (rpos O fr to k) (Y k)) ((rpos O fr to k) + 1) ((Y k + Y nt) / 2)) (up (up GO (rpos O fr to k) (O k)) ((rpos O fr to k) + 1) true) PC CV) H1 := hP1
              have hD : va_D A (mW ad cs ft par np nc (((rpos O fr to k) + 1) + 1) npc hi lo X Y O E (up (up GX (rpos O fr to k) (X k)) ((rpos O fr to k) + 1) ((X k + X nt) / 2)) (up (up GY (rpos O fr to k) (Y k)) ((rpos O fr to k) + 1) ((Y k + Y nt) / 2)) (up (up GO (rpos O fr to k) (O k)) ((rpos O fr to k) + 1) true) PC CV) := hD1.weaken (fun _ _ _ h9 => hFc _ h9)
              clear hP1 hD1 hK1 hFc
              have hS := hS1
              clear hS1 hz9 hk9 ht9 hvm9
              revert hP hD hS; generalize H1 = H; generalize locs1 = locs; intro hP hD hS
              refine xi_iinc (z := k + 1) (lv' := [(3, .int (iI (k + 1))), (4, .int (iI nt)), (0, .ref (ad 0)), (1, .int (iI fr)), (2, .int (iI to))]) hx hb dM_makeRing_106 hl (k := 4) rfl rfl (by decide) rfl (fun ls hl => ?_)
              refine lv_goto (tgt := 7) hx hb dM_makeRing_109 (by decide) ?_
              have hm9 : mid O fr to k = true := by unfold mid; rw [← hnt, c_56, c_66]; rfl
              have e9 := rpos_s O fr to i1.1
              rw [hm9] at e9
              rw [if_pos rfl] at e9
              rw [hnt] at hP hD
              have hP : va_P (dC, dI) vwCl (mW ad cs ft par np nc (rpos O fr to (k + 1)) npc hi lo X Y O E (up (up GX (rpos O fr to k) (X k)) ((rpos O fr to k) + 1) ((X k + X (nx fr to k)) / 2)) (up (up GY (rpos O fr to k) (Y k)) ((rpos O fr to k) + 1) ((Y k + Y (nx fr to k)) / 2)) (up (up GO (rpos O fr to k) (O k)) ((rpos O fr to k) + 1) true) PC CV) H := by rw [e9, show rpos O fr to k + 2 = rpos O fr to k + 1 + 1 by omega]; exact hP
              have hD : va_D A (mW ad cs ft par np nc (rpos O fr to (k + 1)) npc hi lo X Y O E (up (up GX (rpos O fr to k) (X k)) ((rpos O fr to k) + 1) ((X k + X (nx fr to k)) / 2)) (up (up GY (rpos O fr to k) (Y k)) ((rpos O fr to k) + 1) ((Y k + Y (nx fr to k)) / 2)) (up (up GO (rpos O fr to k) (O k)) ((rpos O fr to k) + 1) true) PC CV) := by rw [e9, show rpos O fr to k + 2 = rpos O fr to k + 1 + 1 by omega]; exact hD
              exact ih (k + 1) (up (up GX (rpos O fr to k) (X k)) ((rpos O fr to k) + 1) ((X k + X (nx fr to k)) / 2)) (up (up GY (rpos O fr to k) (Y k)) ((rpos O fr to k) + 1) ((Y k + Y (nx fr to k)) / 2)) (up (up GO (rpos O fr to k) (O k)) ((rpos O fr to k) + 1) true) _ _ _ (by omega) (by omega) (ringOk_2 i1.1 i2) hP hD hS (lv_sub hl [2, 3, 4, 0] rfl)
        refine lv_iload_n hx hb dM_makeRing_12 rfl (lv_at hl 3 rfl) ?_
        refine xi_iconst hx hb dM_makeRing_13 ?_
        refine xi_add (z := k + 1) hx hb dM_makeRing_14 rfl ?_
        refine lv_iload_n hx hb dM_makeRing_15 rfl (lv_at hl 2 rfl) ?_
        refine xi_icmp_ge (tgt := 25) hx hb dM_makeRing_16 (by decide) (by omega) (by omega) (fun c_16 => ?_) (fun c_16 => ?_)
        · skip
          refine lv_iload_n hx hb dM_makeRing_25 rfl (lv_at hl 1 rfl) ?_
          exact cut_26_2 fr _ (by unfold nx; rw [if_neg (by omega)]) (lv_sub hl [0, 1, 2, 3] rfl)
        · skip
          refine lv_iload_n hx hb dM_makeRing_19 rfl (lv_at hl 3 rfl) ?_
          refine xi_iconst hx hb dM_makeRing_20 ?_
          refine xi_add (z := k + 1) hx hb dM_makeRing_21 rfl ?_
          refine lv_goto (tgt := 26) hx hb dM_makeRing_22 (by decide) ?_
          exact cut_26_2 (k + 1) _ (by unfold nx; rw [if_pos (by omega)]) (lv_sub hl [0, 1, 2, 3] rfl)
  have hP : va_P (dC, dI) vwCl (mW ad cs ft par np nc (rpos O fr to fr) npc hi lo X Y O E RX RY RO PC CV) H := by rw [rpos_a]; exact hP
  have hD : va_D A (mW ad cs ft par np nc (rpos O fr to fr) npc hi lo X Y O E RX RY RO PC CV) := by rw [rpos_a]; exact hD
  exact cut_7_1 (((to - fr).toNat) + 1) fr RX RY RO _ _ _ (Nat.lt_succ_self _) (by omega) (ringOk_0) hP hD hS (lv_sub hl [1, 2, 3, 0] rfl)
end
