-- ===== PART A: goes FIRST, ahead of the names: the tables' words, and 'selects' of the private methods out of them =====
/-- a private method of a class that the tables say can be made, by its rows of tables_1 -/
def lw_okq (q : MethodName × Nat) : Prop := (q.1.cls ≠ "java/lang/invoke/MethodHandle" ∧ q.1.cls ≠ "java/lang/invoke/VarHandle") ∧ Cond.instantiable q.1.cls q.2 ∈ tables_1 ∧ Cond.privateMethod q.1 ∈ tables_1 ∧ Cond.instanceMethod q.1 ∈ tables_1
theorem lw_p0 : lw_okq (⟨"CurveRaster", "countPieces", "(Z)I"⟩, 10) := ⟨⟨by decide +kernel, by decide +kernel⟩, List.mem_of_getElem? (i := 15) (by decide +kernel), List.mem_of_getElem? (i := 93) (by decide +kernel), List.mem_of_getElem? (i := 94) (by decide +kernel)⟩
theorem lw_p1 : lw_okq (⟨"CurveRaster", "countSet", "()I"⟩, 10) := ⟨⟨by decide +kernel, by decide +kernel⟩, List.mem_of_getElem? (i := 15) (by decide +kernel), List.mem_of_getElem? (i := 97) (by decide +kernel), List.mem_of_getElem? (i := 98) (by decide +kernel)⟩
theorem lw_p2 : lw_okq (⟨"CurveRaster", "rowBits", "(I)J"⟩, 10) := ⟨⟨by decide +kernel, by decide +kernel⟩, List.mem_of_getElem? (i := 15) (by decide +kernel), List.mem_of_getElem? (i := 101) (by decide +kernel), List.mem_of_getElem? (i := 102) (by decide +kernel)⟩
theorem lw_p3 : lw_okq (⟨"CurveRaster", "wind", "(IIII)V"⟩, 10) := ⟨⟨by decide +kernel, by decide +kernel⟩, List.mem_of_getElem? (i := 15) (by decide +kernel), List.mem_of_getElem? (i := 108) (by decide +kernel), List.mem_of_getElem? (i := 109) (by decide +kernel)⟩
theorem lw_p4 : lw_okq (⟨"CurveRaster$Place", "isRightOf", "(I)Z"⟩, 4) := ⟨⟨by decide +kernel, by decide +kernel⟩, List.mem_of_getElem? (i := 25) (by decide +kernel), List.mem_of_getElem? (i := 134) (by decide +kernel), List.mem_of_getElem? (i := 135) (by decide +kernel)⟩
theorem lw_p5 : lw_okq (⟨"CurveRaster$Place", "compareToRoot", "(JJ)J"⟩, 4) := ⟨⟨by decide +kernel, by decide +kernel⟩, List.mem_of_getElem? (i := 25) (by decide +kernel), List.mem_of_getElem? (i := 138) (by decide +kernel), List.mem_of_getElem? (i := 139) (by decide +kernel)⟩
theorem lw_p6 : lw_okq (⟨"CurveRaster", "isIn", "(I)Z"⟩, 10) := ⟨⟨by decide +kernel, by decide +kernel⟩, List.mem_of_getElem? (i := 15) (by decide +kernel), List.mem_of_getElem? (i := 144) (by decide +kernel), List.mem_of_getElem? (i := 145) (by decide +kernel)⟩
theorem lw_p7 : lw_okq (⟨"java/lang/Throwable", "fillInStackTrace", "(I)Ljava/lang/Throwable;"⟩, 6) := ⟨⟨by decide +kernel, by decide +kernel⟩, List.mem_of_getElem? (i := 206) (by decide +kernel), List.mem_of_getElem? (i := 204) (by decide +kernel), List.mem_of_getElem? (i := 205) (by decide +kernel)⟩
theorem lw_p8 : lw_okq (⟨"CurveRaster", "pieceOf", "(I)LCurveRaster$Piece;"⟩, 10) := ⟨⟨by decide +kernel, by decide +kernel⟩, List.mem_of_getElem? (i := 15) (by decide +kernel), List.mem_of_getElem? (i := 261) (by decide +kernel), List.mem_of_getElem? (i := 262) (by decide +kernel)⟩
theorem lw_p9 : lw_okq (⟨"CurveRaster", "curveEnd", "([III)I"⟩, 10) := ⟨⟨by decide +kernel, by decide +kernel⟩, List.mem_of_getElem? (i := 15) (by decide +kernel), List.mem_of_getElem? (i := 266) (by decide +kernel), List.mem_of_getElem? (i := 267) (by decide +kernel)⟩
theorem lw_p10 : lw_okq (⟨"CurveRasterModel", "refused", "(I)Z"⟩, 17) := ⟨⟨by decide +kernel, by decide +kernel⟩, List.mem_of_getElem? (i := 424) (by decide +kernel), List.mem_of_getElem? (i := 495) (by decide +kernel), List.mem_of_getElem? (i := 496) (by decide +kernel)⟩
theorem lw_p11 : lw_okq (⟨"CurveRasterModel", "open", "()I"⟩, 17) := ⟨⟨by decide +kernel, by decide +kernel⟩, List.mem_of_getElem? (i := 424) (by decide +kernel), List.mem_of_getElem? (i := 499) (by decide +kernel), List.mem_of_getElem? (i := 500) (by decide +kernel)⟩
theorem lw_p12 : lw_okq (⟨"CurveRasterModel", "closed", "()I"⟩, 17) := ⟨⟨by decide +kernel, by decide +kernel⟩, List.mem_of_getElem? (i := 424) (by decide +kernel), List.mem_of_getElem? (i := 503) (by decide +kernel), List.mem_of_getElem? (i := 504) (by decide +kernel)⟩
theorem lw_p13 : lw_okq (⟨"CurveRasterModel", "countOf", "(Z)I"⟩, 17) := ⟨⟨by decide +kernel, by decide +kernel⟩, List.mem_of_getElem? (i := 424) (by decide +kernel), List.mem_of_getElem? (i := 531) (by decide +kernel), List.mem_of_getElem? (i := 532) (by decide +kernel)⟩
theorem lw_p14 : lw_okq (⟨"CurveRasterModel", "makePieces", "()V"⟩, 17) := ⟨⟨by decide +kernel, by decide +kernel⟩, List.mem_of_getElem? (i := 424) (by decide +kernel), List.mem_of_getElem? (i := 535) (by decide +kernel), List.mem_of_getElem? (i := 536) (by decide +kernel)⟩
theorem lw_p15 : lw_okq (⟨"CurveRasterModel", "makeRing", "(II)V"⟩, 17) := ⟨⟨by decide +kernel, by decide +kernel⟩, List.mem_of_getElem? (i := 424) (by decide +kernel), List.mem_of_getElem? (i := 539) (by decide +kernel), List.mem_of_getElem? (i := 540) (by decide +kernel)⟩
def lw_privs_1 : List (MethodName × Nat) := [(⟨"CurveRaster", "countPieces", "(Z)I"⟩, 10), (⟨"CurveRaster", "countSet", "()I"⟩, 10), (⟨"CurveRaster", "rowBits", "(I)J"⟩, 10), (⟨"CurveRaster", "wind", "(IIII)V"⟩, 10), (⟨"CurveRaster$Place", "isRightOf", "(I)Z"⟩, 4), (⟨"CurveRaster$Place", "compareToRoot", "(JJ)J"⟩, 4), (⟨"CurveRaster", "isIn", "(I)Z"⟩, 10), (⟨"java/lang/Throwable", "fillInStackTrace", "(I)Ljava/lang/Throwable;"⟩, 6), (⟨"CurveRaster", "pieceOf", "(I)LCurveRaster$Piece;"⟩, 10), (⟨"CurveRaster", "curveEnd", "([III)I"⟩, 10), (⟨"CurveRasterModel", "refused", "(I)Z"⟩, 17), (⟨"CurveRasterModel", "open", "()I"⟩, 17), (⟨"CurveRasterModel", "closed", "()I"⟩, 17), (⟨"CurveRasterModel", "countOf", "(Z)I"⟩, 17), (⟨"CurveRasterModel", "makePieces", "()V"⟩, 17), (⟨"CurveRasterModel", "makeRing", "(II)V"⟩, 17)]
theorem lw_r1 : ∀ q ∈ lw_privs_1, lw_okq q := List.forall_mem_cons.mpr ⟨lw_p0, List.forall_mem_cons.mpr ⟨lw_p1, List.forall_mem_cons.mpr ⟨lw_p2, List.forall_mem_cons.mpr ⟨lw_p3, List.forall_mem_cons.mpr ⟨lw_p4, List.forall_mem_cons.mpr ⟨lw_p5, List.forall_mem_cons.mpr ⟨lw_p6, List.forall_mem_cons.mpr ⟨lw_p7, List.forall_mem_cons.mpr ⟨lw_p8, List.forall_mem_cons.mpr ⟨lw_p9, List.forall_mem_cons.mpr ⟨lw_p10, List.forall_mem_cons.mpr ⟨lw_p11, List.forall_mem_cons.mpr ⟨lw_p12, List.forall_mem_cons.mpr ⟨lw_p13, List.forall_mem_cons.mpr ⟨lw_p14, List.forall_mem_cons.mpr ⟨lw_p15, fun _ h => absurd h List.not_mem_nil⟩⟩⟩⟩⟩⟩⟩⟩⟩⟩⟩⟩⟩⟩⟩⟩
theorem lw_p16 : lw_okq (⟨"CurveRasterModel", "putRing", "(IIZ)V"⟩, 17) := ⟨⟨by decide +kernel, by decide +kernel⟩, List.mem_of_getElem? (i := 424) (by decide +kernel), List.mem_of_getElem? (i := 543) (by decide +kernel), List.mem_of_getElem? (i := 544) (by decide +kernel)⟩
theorem lw_p17 : lw_okq (⟨"CurveRasterModel", "putPiece", "(IIIZ)V"⟩, 17) := ⟨⟨by decide +kernel, by decide +kernel⟩, List.mem_of_getElem? (i := 424) (by decide +kernel), List.mem_of_getElem? (i := 547) (by decide +kernel), List.mem_of_getElem? (i := 548) (by decide +kernel)⟩
theorem lw_p18 : lw_okq (⟨"CurveRasterModel", "setPixels", "()I"⟩, 17) := ⟨⟨by decide +kernel, by decide +kernel⟩, List.mem_of_getElem? (i := 424) (by decide +kernel), List.mem_of_getElem? (i := 551) (by decide +kernel), List.mem_of_getElem? (i := 552) (by decide +kernel)⟩
theorem lw_p19 : lw_okq (⟨"CurveRasterModel", "isSet", "(II)Z"⟩, 17) := ⟨⟨by decide +kernel, by decide +kernel⟩, List.mem_of_getElem? (i := 424) (by decide +kernel), List.mem_of_getElem? (i := 555) (by decide +kernel), List.mem_of_getElem? (i := 556) (by decide +kernel)⟩
theorem lw_p20 : lw_okq (⟨"CurveRasterModel", "isIn", "(II)Z"⟩, 17) := ⟨⟨by decide +kernel, by decide +kernel⟩, List.mem_of_getElem? (i := 424) (by decide +kernel), List.mem_of_getElem? (i := 559) (by decide +kernel), List.mem_of_getElem? (i := 560) (by decide +kernel)⟩
theorem lw_p21 : lw_okq (⟨"CurveRasterModel", "windingOf", "(II)I"⟩, 17) := ⟨⟨by decide +kernel, by decide +kernel⟩, List.mem_of_getElem? (i := 424) (by decide +kernel), List.mem_of_getElem? (i := 563) (by decide +kernel), List.mem_of_getElem? (i := 564) (by decide +kernel)⟩
theorem lw_p22 : lw_okq (⟨"CurveRasterModel", "curveCount", "(III)I"⟩, 17) := ⟨⟨by decide +kernel, by decide +kernel⟩, List.mem_of_getElem? (i := 424) (by decide +kernel), List.mem_of_getElem? (i := 567) (by decide +kernel), List.mem_of_getElem? (i := 568) (by decide +kernel)⟩
theorem lw_p23 : lw_okq (⟨"CurveRasterModel", "isLeft", "(JJJZJJJ)Z"⟩, 17) := ⟨⟨by decide +kernel, by decide +kernel⟩, List.mem_of_getElem? (i := 424) (by decide +kernel), List.mem_of_getElem? (i := 572) (by decide +kernel), List.mem_of_getElem? (i := 573) (by decide +kernel)⟩
theorem lw_p24 : lw_okq (⟨"CurveRasterModel", "compareRoot", "(JJJZJJ)I"⟩, 17) := ⟨⟨by decide +kernel, by decide +kernel⟩, List.mem_of_getElem? (i := 424) (by decide +kernel), List.mem_of_getElem? (i := 579) (by decide +kernel), List.mem_of_getElem? (i := 580) (by decide +kernel)⟩
theorem lw_p25 : lw_okq (⟨"CurveRasterModel", "signAt", "(JJJJJ)I"⟩, 17) := ⟨⟨by decide +kernel, by decide +kernel⟩, List.mem_of_getElem? (i := 424) (by decide +kernel), List.mem_of_getElem? (i := 583) (by decide +kernel), List.mem_of_getElem? (i := 584) (by decide +kernel)⟩
theorem lw_p26 : lw_okq (⟨"CurveRasterModel", "addProduct", "(JJ)V"⟩, 17) := ⟨⟨by decide +kernel, by decide +kernel⟩, List.mem_of_getElem? (i := 424) (by decide +kernel), List.mem_of_getElem? (i := 587) (by decide +kernel), List.mem_of_getElem? (i := 588) (by decide +kernel)⟩
theorem lw_p27 : lw_okq (⟨"CurveRasterModel", "lineCount", "(III)I"⟩, 17) := ⟨⟨by decide +kernel, by decide +kernel⟩, List.mem_of_getElem? (i := 424) (by decide +kernel), List.mem_of_getElem? (i := 594) (by decide +kernel), List.mem_of_getElem? (i := 595) (by decide +kernel)⟩
theorem lw_p28 : lw_okq (⟨"CurveRasterModel", "bound", "(IZZ)J"⟩, 17) := ⟨⟨by decide +kernel, by decide +kernel⟩, List.mem_of_getElem? (i := 424) (by decide +kernel), List.mem_of_getElem? (i := 628) (by decide +kernel), List.mem_of_getElem? (i := 629) (by decide +kernel)⟩
def lw_privs_2 : List (MethodName × Nat) := [(⟨"CurveRasterModel", "putRing", "(IIZ)V"⟩, 17), (⟨"CurveRasterModel", "putPiece", "(IIIZ)V"⟩, 17), (⟨"CurveRasterModel", "setPixels", "()I"⟩, 17), (⟨"CurveRasterModel", "isSet", "(II)Z"⟩, 17), (⟨"CurveRasterModel", "isIn", "(II)Z"⟩, 17), (⟨"CurveRasterModel", "windingOf", "(II)I"⟩, 17), (⟨"CurveRasterModel", "curveCount", "(III)I"⟩, 17), (⟨"CurveRasterModel", "isLeft", "(JJJZJJJ)Z"⟩, 17), (⟨"CurveRasterModel", "compareRoot", "(JJJZJJ)I"⟩, 17), (⟨"CurveRasterModel", "signAt", "(JJJJJ)I"⟩, 17), (⟨"CurveRasterModel", "addProduct", "(JJ)V"⟩, 17), (⟨"CurveRasterModel", "lineCount", "(III)I"⟩, 17), (⟨"CurveRasterModel", "bound", "(IZZ)J"⟩, 17)]
theorem lw_r2 : ∀ q ∈ lw_privs_2, lw_okq q := List.forall_mem_cons.mpr ⟨lw_p16, List.forall_mem_cons.mpr ⟨lw_p17, List.forall_mem_cons.mpr ⟨lw_p18, List.forall_mem_cons.mpr ⟨lw_p19, List.forall_mem_cons.mpr ⟨lw_p20, List.forall_mem_cons.mpr ⟨lw_p21, List.forall_mem_cons.mpr ⟨lw_p22, List.forall_mem_cons.mpr ⟨lw_p23, List.forall_mem_cons.mpr ⟨lw_p24, List.forall_mem_cons.mpr ⟨lw_p25, List.forall_mem_cons.mpr ⟨lw_p26, List.forall_mem_cons.mpr ⟨lw_p27, List.forall_mem_cons.mpr ⟨lw_p28, fun _ h => absurd h List.not_mem_nil⟩⟩⟩⟩⟩⟩⟩⟩⟩⟩⟩⟩⟩
def lw_privs : List (MethodName × Nat) := lw_privs_1 ++ (lw_privs_2)
def lw_tbl : List Cond := k2_sels lw_privs ++ tables_1
theorem lw_privs_ok : ∀ q ∈ lw_privs, lw_okq q := by
  show ∀ q ∈ lw_privs_1 ++ (lw_privs_2), lw_okq q
  exact List.forall_mem_append.mpr ⟨lw_r1, lw_r2⟩
/-! ===== BEGIN words of one list among another's, by their places ===== -/
theorem goodIn_r {big : List Cond} (ws : List Cond) (ps : List Nat) (hp : ws = ps.filterMap (fun i => big[i]?)) (h : ws.all goodWord = true) : GoodIn big ws := by
  intro w hw
  have h1 := List.all_eq_true.mp h w hw
  rw [hp] at hw
  obtain ⟨i, -, hi⟩ := List.mem_filterMap.mp hw
  have hm : w ∈ big := by first | exact List.mem_of_getElem? hi | exact List.getElem?_mem hi
  exact ⟨hm, good_of_word h1⟩
theorem goodIn_app {big a b : List Cond} (ha : GoodIn big a) (hb : GoodIn big b) : GoodIn big (a ++ b) := fun w h => (List.mem_append.mp h).elim (ha w) (hb w)
theorem goodIn_ca {big a b : List Cond} {c : Cond} (ha : GoodIn big (c :: a)) (hb : GoodIn big b) : GoodIn big (c :: (a ++ b)) := fun w h => (List.mem_cons.mp h).elim (fun e => ha w (List.mem_cons.mpr (Or.inl e))) (fun h => (List.mem_append.mp h).elim (fun h => ha w (List.mem_cons.mpr (Or.inr h))) (hb w))
theorem goodIn_sub {big ws : List Cond} (hm : ∀ w ∈ ws, w ∈ big) (h : ws.all goodWord = true) : GoodIn big ws := fun w hw => ⟨hm w hw, good_of_word (List.all_eq_true.mp h w hw)⟩
/-! ===== END ===== -/

/-! ===== BEGIN exceptions that leave a method, and their catching by the caller (launches without stack traces) ===== -/
section VXA
/-! The laws vx_back, vx_callV, vx_callS, vx_callSW, vx_throw0, vx_throwS follow proofs of the library, with one case more: JvmDerived/Free/Laws.lean (Back.of_free), Shelf42/LK1.lean (callV, callS), Shelf/KitTraced.lean (throwNew0V, throwNewS). -/
/-- where a method has thrown q: the class by its name, the cell, what was written, the world -/
def vx_T (XC : String → State → State → Prop) (st : State) (q : Addr) (t : State) (mc ms : Nat) (free : Addr → Prop) : Prop :=
  ∃ (E : String) (ce : Cell) (L : List Loc), XC E st t ∧ t.heap[q]? = some ce ∧ ce.vm = .none ∧ st.vm.findClass E = some ce.cls ∧ st.WarmedH t.vm ∧ st.sameButNew ({ t with vm := st.vm } : State) L mc ms ∧ ∀ z ∈ L, free z.base
def vx_Q (Qc : Array Value → State → Outcome → State → Prop) (XC : String → State → State → Prop) (mc ms : Nat) (free : Addr → Prop) : Array Value → State → Outcome → State → Prop := fun a st o t =>
  (Qc a st o t ∧ ∃ L, FrameEnd st o t L mc ms ∧ ∀ q ∈ L, free q.base) ∨ ∃ q, o = .threw q ∧ vx_T XC st q t mc ms free
/-- a callee that returns or throws -/
def vx_Met (l : Launch) (y : MethodName) (ws : List Cond) (rm : Room) (Pc : Array Value → State → Prop) (Qc : Array Value → State → Outcome → State → Prop) (XC : String → State → State → Prop) (mc ms : Nat) (free : Addr → Prop) : Prop :=
  MetFree l y (headSpec ws rm) Pc (fun _ _ _ _ _ => True) (vx_Q Qc XC mc ms free)
def vx_Post (XC : String → State → State → Prop) (mc ms : Nat) (free : Addr → Prop) : Pt → Array Value → Addr → Pt → Prop := fun A a q B =>
  ∃ (g : JFrame) (mk : MethodId) (t : State) (L : List Loc) (E : String) (ce : Cell), B.U.heap = t.heap ∧ B.U.vm = t.vm ∧ XC E (A.U.calling g mk a) t ∧ t.heap[q]? = some ce ∧ ce.vm = .none ∧ A.U.vm.findClass E = some ce.cls ∧ B.locs = A.locs ++ L ∧ (∀ z ∈ L, free z.base) ∧ B.cells = A.cells + mc ∧ B.slots = A.slots + ms
def vx_Back (l : Launch) (R : Room) (p : Program) (e : Env) (below : List Frame) (s : State) (sargs : Array Value) (y : MethodName) (len W9 : Nat)
    (Pre : Pt → Array Value → Prop) (Post : Pt → Array Value → Option Value → Pt → Prop) (PostX : Pt → Array Value → Addr → Pt → Prop) : Prop :=
  ∀ (m : MethodId) (meth : Method) (c : Code) (A : Pt) (g : JFrame) (ig : Instr) (mk : MethodId) (a : Array Value),
    Stand p l e R s m sargs below meth c A.U A.locs A.cells A.slots → g.method = m → g.locals.size = c.maxLocals → decode c.code g.pc = .ok (ig, len) →
    2 * g.monitorRoom + (g.stack.map fun v => v.category).sum ≤ W9 → A.U.methodNamed? y = some mk → Pre A a →
    (∃ (v : Option Value) (B : Pt), Stand p l e R s m sargs below meth c B.U B.locs B.cells B.slots ∧ Post A a v B ∧
      Steps p.tables e below (doInvoke e (A.U.setTop g) [] mk a).1 (B.U.setTop { g with pc := g.pc + len, stack := v.toList ++ g.stack })) ∨
    (∃ (q : Addr) (B : Pt), Stand p l e R s m sargs below meth c B.U B.locs B.cells B.slots ∧ PostX A a q B ∧
      Steps p.tables e below (doInvoke e (A.U.setTop g) [] mk a).1 ((B.U.setTop g).pushFrame (.throwing q)))
section Payer
variable {l : Launch} {R : Room} {p : Program} {e : Env} {below : List Frame} {s : State} {sargs : Array Value} {y : MethodName} {len W9 : Nat}
theorem vx_back {ws : List Cond} {rm : Room} {Pc : Array Value → State → Prop} {Qc : Array Value → State → Outcome → State → Prop} {XC : String → State → State → Prop} {mc ms : Nat} {free : Addr → Prop} {bytes : ByteArray} {maxL : Nat} {ret : Option FieldType}
    (hM : vx_Met l y ws rm Pc Qc XC mc ms free) (hblind : FrameBlind Pc) (hrc : rm.cells = mc) (hrs : rm.slots = ms)
    (hframes : rm.frames + 1 ≤ R.frames) (hlocals : W9 + (maxL + 11) + rm.locals ≤ R.locals)
    (hws : ∀ w ∈ ws, ∀ a' U, s.WarmedH U.vm → w.before a' U = true) (hcode : Cond.code y bytes maxL ret ∈ ws) (hinit : ∀ a' U, s.WarmedH U.vm → (Cond.initialized y.cls).before a' U = true) :
    vx_Back l R p e below s sargs y len W9 (PreOf R mc ms Pc) (PostOf Qc mc ms free) (vx_Post XC mc ms free) := by
  intro m meth c A g ig mk a X hg hsize hdg hW hn hp
  have h1 : (headSpec ws rm).pre.before a A.U = true := atoms_intro fun w hw => hws w hw _ _ X.warmed
  have h2 : (Cond.code y bytes maxL ret).before a A.U = true := hws _ hcode _ _ X.warmed
  have h3 : (Cond.initialized y.cls).before a A.U = true := hinit _ _ X.warmed
  have h4 : A.cells + (headSpec ws rm).room.cells ≤ R.cells := by rw [show (headSpec ws rm).room.cells = mc from hrc]; exact hp.1
  have h5 : A.slots + (headSpec ws rm).room.slots ≤ R.slots := by rw [show (headSpec ws rm).room.slots = ms from hrs]; exact hp.2.1
  have hPc : Pc a (A.U.calling g mk a) := hblind _ _ _ _ hp.2.2
  obtain ⟨U, Ls, c0, s0⟩ := A
  dsimp only [Pt.U, Pt.locs, Pt.cells, Pt.slots] at h1 h2 h3 h4 h5 X hn hPc ⊢
  obtain ⟨methY, cY, hmY, hcY, -, hlY, -, -, -, -⟩ := Cond.code_spec hn h2
  obtain ⟨kY, hkY, -⟩ := className_of_methodNamed hn
  have hinitY : kY.init = .initialized := Cond.initialized_spec (findClass_of_methodNamed hn) hkY h3
  have h : At U g.method c below := by rw [hg]; exact X.here
  have hlocals9 : W9 + (maxL + 11) + (headSpec ws rm).room.locals ≤ R.locals := hlocals
  have happ : (headSpec ws rm).appliesLoose y e.platform (U.calling g mk a) = true :=
    Spec.appliesLoose_calling (g := g) h hdg hn hkY hinitY
      (X.room_calling (g := g) (R' := (headSpec ws rm).room) hsize hmY hcY hframes (by rw [hlY]; omega) h4 h5) h1
  obtain ⟨mid, hmid⟩ := h.above
  have hfr : (U.setTop g).frames = (.java g :: mid) ++ below := by rw [State.frames_setTop' g h.top, hmid]; rfl
  obtain ⟨o, s₂, hsteps, -, hend, hq⟩ := Steps.callFree hM p X.admits X.cas X.clock (acts := []) hfr happ hPc trivial
  have hq' : vx_Q Qc XC mc ms free a (U.calling g mk a) o s₂ := hq
  rw [State.frames_setTop' g h.top] at hend
  obtain ⟨g₀, hg0⟩ := Option.isSome_iff_exists.mp h.top
  obtain ⟨r, hr⟩ := State.topJava?_eq_some.mp hg0
  have hr' : (({ U with heap := s₂.heap, slotsUsed := s₂.slotsUsed } : State).setVm s₂.vm).frames = .java g₀ :: r := hr
  rcases hq' with ⟨hqc, L, hfe, hL⟩ | ⟨q, rfl, E, ce, L, hx, hce, hcv, hcl, hW₂, hsm, hL⟩
  · obtain ⟨⟨v, rfl⟩, hW₂, e2, q2, q3, q4, q5, q6⟩ := id hfe
    have e3 : s₂ = ({ (U.calling g mk a).setFrames s₂.frames with heap := s₂.heap, slotsUsed := s₂.slotsUsed } : State).setVm s₂.vm := by
      have : s₂ = ({ s₂ with vm := (U.calling g mk a).vm } : State).setVm s₂.vm := rfl
      rw [e2] at this
      exact this
    obtain ⟨c₂, i₂, len₂, hc₂, hd₂, hf₂⟩ := hend
    have hW' : U.WarmedH s₂.vm := hW₂
    have hcc : c₂ = c := by
      have h1 : s₂.code? g.method = U.code? g.method := by
        rw [State.code?_eq, State.code?_eq, hW'.alike.method?]
      exact Option.some.inj (hc₂.symm.trans (h1.trans h.code))
    subst hcc
    have hlen : len₂ = len := by rw [hdg] at hd₂; cases hd₂; rfl
    subst hlen
    have hs₂ : s₂ = (({ U with heap := s₂.heap, slotsUsed := s₂.slotsUsed } : State).setVm s₂.vm).setTop { g with pc := g.pc + len₂, stack := v.toList ++ g.stack } := by
      refine e3.trans ?_
      rw [hf₂, State.calling_eq h.top, State.setFrames_setFrames, State.setTop_of_frames _ hr', hr]
      rfl
    have hsame : U.sameButNew ({ U with heap := s₂.heap, slotsUsed := s₂.slotsUsed } : State) L mc ms := by
      refine ⟨?_, q2, q3, q4, q5, q6⟩
      obtain ⟨t, ht, -⟩ := State.frames_cons hr
      show ({ U with heap := s₂.heap, slotsUsed := s₂.slotsUsed } : State) = { U.setFrames U.frames with heap := s₂.heap, slotsUsed := s₂.slotsUsed }
      rw [State.setFrames_self ht]
    subst hg
    refine Or.inl ⟨v, ⟨(({ U with heap := s₂.heap, slotsUsed := s₂.slotsUsed } : State).setVm s₂.vm), Ls ++ L, c0 + mc, s0 + ms⟩,
      ⟨X.admits, X.cas, X.clock, X.frames, X.room, X.hears, X.method, X.code, (X.here.setHeapUsed s₂.heap s₂.slotsUsed).setVm hW'.alike, X.tail, State.WarmedH.trans X.warmed hW', X.limits, X.bytes, X.same.trans (hsame.setVm s.vm)⟩,
      ⟨g, mk, s₂, L, rfl, rfl, hqc, rfl, hL, rfl, rfl⟩, ?_⟩
    show Steps p.tables e below _ ((({ U with heap := s₂.heap, slotsUsed := s₂.slotsUsed } : State).setVm s₂.vm).setTop { g with pc := g.pc + len₂, stack := v.toList ++ g.stack })
    rw [← hs₂]
    exact hsteps
  · obtain ⟨e2, q2, q3, q4, q5, q6⟩ := id hsm
    have e3 : s₂ = ({ (U.calling g mk a).setFrames s₂.frames with heap := s₂.heap, slotsUsed := s₂.slotsUsed } : State).setVm s₂.vm := by
      have : s₂ = ({ s₂ with vm := (U.calling g mk a).vm } : State).setVm s₂.vm := rfl
      rw [e2] at this
      exact this
    have hf₂ : s₂.frames = .throwing q :: .java g :: U.frames.tail := hend
    have hW' : U.WarmedH s₂.vm := hW₂
    have hs₂ : s₂ = ((({ U with heap := s₂.heap, slotsUsed := s₂.slotsUsed } : State).setVm s₂.vm).setTop g).pushFrame (.throwing q) := by
      refine e3.trans ?_
      rw [hf₂, State.calling_eq h.top, State.setFrames_setFrames, State.pushFrame, State.frames_setTop _ hr', State.setTop_of_frames _ hr', State.setFrames_setFrames, hr]
      rfl
    have hsame : U.sameButNew ({ U with heap := s₂.heap, slotsUsed := s₂.slotsUsed } : State) L mc ms := by
      refine ⟨?_, q2, q3, q4, q5, q6⟩
      obtain ⟨t, ht, -⟩ := State.frames_cons hr
      show ({ U with heap := s₂.heap, slotsUsed := s₂.slotsUsed } : State) = { U.setFrames U.frames with heap := s₂.heap, slotsUsed := s₂.slotsUsed }
      rw [State.setFrames_self ht]
    subst hg
    refine Or.inr ⟨q, ⟨(({ U with heap := s₂.heap, slotsUsed := s₂.slotsUsed } : State).setVm s₂.vm), Ls ++ L, c0 + mc, s0 + ms⟩,
      ⟨X.admits, X.cas, X.clock, X.frames, X.room, X.hears, X.method, X.code, (X.here.setHeapUsed s₂.heap s₂.slotsUsed).setVm hW'.alike, X.tail, State.WarmedH.trans X.warmed hW', X.limits, X.bytes, X.same.trans (hsame.setVm s.vm)⟩,
      ⟨g, mk, s₂, L, E, ce, rfl, rfl, hx, hce, hcv, hcl, rfl, hL, rfl, rfl⟩, ?_⟩
    show Steps p.tables e below _ (((({ U with heap := s₂.heap, slotsUsed := s₂.slotsUsed } : State).setVm s₂.vm).setTop g).pushFrame (.throwing q))
    rw [← hs₂]
    exact hsteps
end Payer
section Calls
variable {p : Program} {l : Launch} {e : Env} {R : Room} {s : State} {m : MethodId} {args : Array Value} {below : List Frame} {meth : Method} {c : Code} {T : State} {locs : List Loc} {cells slots : Nat}
theorem vx_callV (X : Stand p l e R s m args below meth c T locs cells slots) (hexec : p.tables.exec = Jvm.exec) {own C : String} {index : Nat} {y : MethodName} {bytes : ByteArray} {maxL : Nat} {ret : Option FieldType}
    (hown : s.vm.findClass own = some m.cls) (hlink : (Cond.methodLink own index y).before args s = true) (hinst : (Cond.instanceMethod y).before args s = true) (hsel : (Cond.selects C y y).before args s = true)
    (hcode : (Cond.code y bytes maxL ret).before args s = true) (hy : y.cls ≠ "java/lang/invoke/MethodHandle" ∧ y.cls ≠ "java/lang/invoke/VarHandle")
    {W9 : Nat} {Pre : Pt → Array Value → Prop} {Post : Pt → Array Value → Option Value → Pt → Prop} {PostX : Pt → Array Value → Addr → Pt → Prop} (hK : vx_Back l R p e below s args y 3 W9 Pre Post PostX)
    {b : Addr} {cellB : Cell} (hcell : T.heap[b]? = some cellB) (hobj : cellB.vm.isStatics = false) (hcls : s.vm.findClass C = some cellB.cls)
    {g : JFrame} (hg : g.method = m) (hsize : g.locals.size = c.maxLocals) {argsL rest : List Value} (hlen : ∀ sig, parseMethodDescriptor y.desc = some sig → argsL.length = sig.parameters.length)
    (hstack : g.stack = argsL.reverse ++ .ref b :: rest) (hW : 2 * g.monitorRoom + (rest.map fun v => v.category).sum ≤ W9) (hdg : decode c.code g.pc = .ok (.invokevirtual index, 3))
    (hpre : ∀ vm₁, s.WarmedH vm₁ → Pre ⟨T.setVm vm₁, locs, cells, slots⟩ (Value.ref b :: argsL).toArray) :
    (∃ (v : Option Value) (vm₁ : Vm) (B : Pt), s.WarmedH vm₁ ∧ Stand p l e R s m args below meth c B.U B.locs B.cells B.slots ∧ Post ⟨T.setVm vm₁, locs, cells, slots⟩ (Value.ref b :: argsL).toArray v B ∧
      ∀ target, Steps p.tables e below (B.U.setTop { g with pc := g.pc + 3, stack := v.toList ++ rest }) target → Steps p.tables e below (T.setTop g) target) ∨
    (∃ (q : Addr) (vm₁ : Vm) (B : Pt), s.WarmedH vm₁ ∧ Stand p l e R s m args below meth c B.U B.locs B.cells B.slots ∧ PostX ⟨T.setVm vm₁, locs, cells, slots⟩ (Value.ref b :: argsL).toArray q B ∧
      Steps p.tables e below (T.setTop g) ((B.U.setTop { g with stack := rest }).pushFrame (.throwing q))) := by
  obtain ⟨mk, methM, hnamed, hmethM, hstM, habM⟩ := Cond.instanceMethod_spec hinst
  obtain ⟨methM', cM, hmethM', -, -, -, -, -, -, hsigM⟩ := Cond.code_spec hnamed hcode
  cases hmethM.symm.trans hmethM'
  obtain ⟨c2, r2, m2, q1, q2, q3, q4, kP, hkP, hkPi⟩ := Cond.selects_spec hsel
  cases hcls.symm.trans q1
  cases (State.methodFound?_of_named hnamed hy).symm.trans q2
  cases hnamed.symm.trans q3
  have hselP : selectMethod e.platform s.vm cellB.cls mk = .method mk := by rw [Launch.admits_selectMethod X.admits]; exact q4
  obtain ⟨vm₁, X₁, hstep₁⟩ := X.invokevirtual hexec hown hlink hnamed hmethM hstM hkP hkPi hy (a := b) (cell := cellB) hcell
    (fun z h => by rw [h] at hobj; cases hobj) hselP hmethM habM hkP hkPi (g := g) hg (argsL := argsL) (rest := rest) (hlen _ hsigM) hstack hdg
  rcases hK m meth c ⟨T.setVm vm₁, locs, cells, slots⟩ { g with stack := rest } (.invokevirtual index) mk (Value.ref b :: argsL).toArray X₁ hg hsize hdg hW (X₁.named hnamed) (hpre vm₁ X₁.warmed) with ⟨v, B, X', hpost, hsteps⟩ | ⟨q, B, X', hpost, hsteps⟩
  · exact Or.inl ⟨v, vm₁, B, X₁.warmed, X', hpost, fun target h => hstep₁ _ fun acts => by rw [doInvoke_state]; exact hsteps.trans h⟩
  · exact Or.inr ⟨q, vm₁, B, X₁.warmed, X', hpost, hstep₁ _ fun acts => by rw [doInvoke_state]; exact hsteps⟩
theorem vx_callS (X : Stand p l e R s m args below meth c T locs cells slots) (hexec : p.tables.exec = Jvm.exec) {own : String} {index : Nat} {y : MethodName} {bytes : ByteArray} {maxL : Nat} {ret : Option FieldType}
    (hown : s.vm.findClass own = some m.cls) (hlink : (Cond.methodLink own index y).before args s = true) (hstat : (Cond.static y).before args s = true) (hinit : (Cond.initialized y.cls).before args s = true)
    (hcode : (Cond.code y bytes maxL ret).before args s = true) (hy : y.cls ≠ "java/lang/invoke/MethodHandle" ∧ y.cls ≠ "java/lang/invoke/VarHandle")
    {W9 : Nat} {Pre : Pt → Array Value → Prop} {Post : Pt → Array Value → Option Value → Pt → Prop} {PostX : Pt → Array Value → Addr → Pt → Prop} (hK : vx_Back l R p e below s args y 3 W9 Pre Post PostX)
    {g : JFrame} (hg : g.method = m) (hsize : g.locals.size = c.maxLocals) {argsL rest : List Value} (hlen : ∀ sig, parseMethodDescriptor y.desc = some sig → argsL.length = sig.parameters.length)
    (hstack : g.stack = argsL.reverse ++ rest) (hW : 2 * g.monitorRoom + (rest.map fun v => v.category).sum ≤ W9) (hdg : decode c.code g.pc = .ok (.invokestatic index, 3))
    (hpre : ∀ vm₁, s.WarmedH vm₁ → Pre ⟨T.setVm vm₁, locs, cells, slots⟩ argsL.toArray) :
    (∃ (v : Option Value) (vm₁ : Vm) (B : Pt), s.WarmedH vm₁ ∧ Stand p l e R s m args below meth c B.U B.locs B.cells B.slots ∧ Post ⟨T.setVm vm₁, locs, cells, slots⟩ argsL.toArray v B ∧
      ∀ target, Steps p.tables e below (B.U.setTop { g with pc := g.pc + 3, stack := v.toList ++ rest }) target → Steps p.tables e below (T.setTop g) target) ∨
    (∃ (q : Addr) (vm₁ : Vm) (B : Pt), s.WarmedH vm₁ ∧ Stand p l e R s m args below meth c B.U B.locs B.cells B.slots ∧ PostX ⟨T.setVm vm₁, locs, cells, slots⟩ argsL.toArray q B ∧
      Steps p.tables e below (T.setTop g) ((B.U.setTop { g with stack := rest }).pushFrame (.throwing q))) := by
  obtain ⟨mk, hnamed⟩ := Cond.code_named hcode
  obtain ⟨methM, cM, hmethM, -, -, -, -, -, -, hsigM⟩ := Cond.code_spec hnamed hcode
  have hstatic : methM.isStatic = true := Cond.static_spec hnamed hmethM hstat
  obtain ⟨kP, hkP, -⟩ := className_of_methodNamed hnamed
  have hinitP : kP.init = .initialized := Cond.initialized_spec (findClass_of_methodNamed hnamed) hkP hinit
  obtain ⟨vm₁, X₁, hstep₁⟩ := X.invokestatic hexec hown hlink hnamed hmethM hstatic hkP hinitP hy (g := g) hg (argsL := argsL) (rest := rest) (hlen _ hsigM) hstack hdg
  rcases hK m meth c ⟨T.setVm vm₁, locs, cells, slots⟩ { g with stack := rest } (.invokestatic index) mk argsL.toArray X₁ hg hsize hdg hW (X₁.named hnamed) (hpre vm₁ X₁.warmed) with ⟨v, B, X', hpost, hsteps⟩ | ⟨q, B, X', hpost, hsteps⟩
  · exact Or.inl ⟨v, vm₁, B, X₁.warmed, X', hpost, fun target h => hstep₁ _ fun acts => by rw [doInvoke_state]; exact hsteps.trans h⟩
  · exact Or.inr ⟨q, vm₁, B, X₁.warmed, X', hpost, hstep₁ _ fun acts => by rw [doInvoke_state]; exact hsteps⟩
end Calls
theorem vx_cls {s : State} {T : State} {vm₁ : Vm} {E : String} {k : ClassId} (hW : s.WarmedH vm₁) (h : (T.setVm vm₁).vm.findClass E = some k) : s.vm.findClass E = some k := by
  have h1 : vm₁.findClass E = some k := h
  rw [hW.alike.findClass] at h1
  exact h1
/-- the method's frame g, with q thrown over it -/
def vx_W (p : Program) (l : Launch) (e : Env) (R : Room) (s : State) (m : MethodId) (args : Array Value) (below : List Frame) (meth : Method) (c : Code) (H : Heap) (locs : List Loc) (cells slots : Nat) (Q : State → Prop) (g : JFrame) (q : Addr) : Prop :=
  ∀ T : State, T.heap = H → Stand p l e R s m args below meth c T locs cells slots → ∃ t, Steps p.tables e below ((T.setTop g).pushFrame (.throwing q)) t ∧ Q t
def vx_Run (p : Program) (l : Launch) (e : Env) (R : Room) (s : State) (m : MethodId) (args : Array Value) (below : List Frame) (meth : Method) (c : Code) (H : Heap) (locs : List Loc) (cells slots mc ms : Nat) (g : JFrame) (rest : List Value) (Qa : State → Outcome → State → Prop) (XC : String → State → State → Prop) (free : Addr → Prop) : Prop :=
  ∀ T : State, T.heap = H → Stand p l e R s m args below meth c T locs cells slots →
    (∃ (v : Option Value) (st₀ t T' : State) (L : List Loc), st₀.heap = H ∧ Stand p l e R s m args below meth c T' (locs ++ L) (cells + mc) (slots + ms) ∧ (∀ q ∈ L, free q.base) ∧ T'.heap = t.heap ∧ T'.vm = t.vm ∧ Qa st₀ (.returned v) t ∧
      Goes p e below T g T' { g with pc := g.pc + 3, stack := v.toList ++ rest }) ∨
    (∃ (q : Addr) (st₀ t T' : State) (L : List Loc) (E : String) (ce : Cell), st₀.heap = H ∧ Stand p l e R s m args below meth c T' (locs ++ L) (cells + mc) (slots + ms) ∧ (∀ z ∈ L, free z.base) ∧ T'.heap = t.heap ∧ T'.vm = t.vm ∧ XC E st₀ t ∧ t.heap[q]? = some ce ∧ ce.vm = .none ∧ s.vm.findClass E = some ce.cls ∧
      Steps p.tables e below (T.setTop g) ((T'.setTop { g with stack := rest }).pushFrame (.throwing q)))
def vx_X {S : Type} (px : S → Prop) (B : String → S → State → Prop) (A : Nat → Prop) : String → State → State → Prop := fun E st t => ∃ u : S, px u ∧ B E u t ∧ va_F A st t
section Runs
variable {p : Program} {l : Launch} {e : Env} {R : Room} {s : State} {m : MethodId} {args : Array Value} {below : List Frame} {meth : Method} {c : Code} {H : Heap} {locs : List Loc} {cells slots : Nat}
variable {y : MethodName} {bytes cc : ByteArray} {maxL nL mc ms n index : Nat} {ret : Option FieldType} {ws : List Cond} {rm : Room} {Pc : Array Value → State → Prop} {Qc : Array Value → State → Outcome → State → Prop} {XC : String → State → State → Prop} {free : Addr → Prop} {Ts : List Cond} {own C : String} {b : Addr} {As rest : List Value} {g : JFrame}
theorem vx_callBack (cb : CallB R s args own index y bytes maxL ret ws rm mc ms n) (hM : vx_Met l y ws rm Pc Qc XC mc ms free) (hbl : FrameBlind Pc) : vx_Back l R p e below s args y 3 8 (PreOf R mc ms Pc) (PostOf Qc mc ms free) (vx_Post XC mc ms free) := by
  obtain ⟨hrc, hrs, hfr, hlo, hws, hcw, -, hini, -⟩ := cb
  exact vx_back (bytes := bytes) (maxL := maxL) (ret := ret) hM hbl hrc hrs hfr hlo hws hcw (fun a' U hW => word_at hW (Or.inl (by first | rfl | simp [Cond.onTables, Cond.keeps, Cond.steady])) hini)
theorem vx_runV (S : CallFix p m c cc nL s args Ts own) (hM : vx_Met l y ws rm Pc Qc XC mc ms free) (cw : CallW R s args own C index y bytes maxL ret ws rm mc ms n) (hp : PreV s H C b Pc As)
    (hg : g.method = m) (hn : As.length = n) (hsize : g.locals.size = nL) (hstack : g.stack = As.reverse ++ .ref b :: rest) (hW : 2 * g.monitorRoom + (rest.map fun v => v.category).sum ≤ 8) (hdg : decode cc g.pc = .ok (.invokevirtual index, 3)) (hf : cells + mc ≤ R.cells ∧ slots + ms ≤ R.slots) :
    vx_Run p l e R s m args below meth c H locs cells slots mc ms g rest (Qc (Value.ref b :: As).toArray) XC free := by
  have hK : vx_Back l R p e below s args y 3 8 (PreOf R mc ms Pc) (PostOf Qc mc ms free) (vx_Post XC mc ms free) := vx_callBack cw.1 hM hp.1
  obtain ⟨⟨-, -, -, -, -, -, hcode, -, hy, hlen, hl⟩, hin, hse⟩ := cw
  obtain ⟨hx, hb, hml, ho, -⟩ := S
  obtain ⟨-, ⟨cellB, hcB, hoB, hclB⟩, hPc⟩ := hp
  intro T hT X
  rcases vx_callV X hx (C := C) (bytes := bytes) (maxL := maxL) (ret := ret) ho hl hin hse hcode hy hK (by rw [hT]; exact hcB) hoB hclB hg (hsize.trans hml.symm) (argsL := As) (rest := rest) (fun sig h => hn.trans (hlen sig h)) hstack hW (by rw [hb]; exact hdg)
    (fun vm₁ hW₁ => ⟨hf.1, hf.2, hPc (T.setVm vm₁) hT hW₁⟩) with ⟨v, vm₁, ⟨U', l2, c2, s2⟩, hW₁, X', ⟨g', mk, t, L, e1, e2, hq, h1, hL, h2, h3⟩, st⟩ | ⟨q, vm₁, ⟨U', l2, c2, s2⟩, hW₁, X', ⟨g', mk, t, L, E, ce, e1, e2, hq, hce, hcv, hcl, h1, hL, h2, h3⟩, st⟩
  · dsimp only [Pt.U, Pt.locs, Pt.cells, Pt.slots] at X' e1 e2 h1 h2 h3 st
    subst h1; subst h2; subst h3
    exact Or.inl ⟨v, (T.setVm vm₁).calling g' mk (Value.ref b :: As).toArray, t, U', L, hT, X', hL, e1, e2, hq, st⟩
  · dsimp only [Pt.U, Pt.locs, Pt.cells, Pt.slots] at X' e1 e2 h1 h2 h3 st hcl
    subst h1; subst h2; subst h3
    exact Or.inr ⟨q, (T.setVm vm₁).calling g' mk (Value.ref b :: As).toArray, t, U', L, E, ce, hT, X', hL, e1, e2, hq, hce, hcv, vx_cls hW₁ hcl, st⟩
theorem vx_runS (S : CallFix p m c cc nL s args Ts own) (hM : vx_Met l y ws rm Pc Qc XC mc ms free) (cw : CallB R s args own index y bytes maxL ret ws rm mc ms n ∧ (Cond.static y).before args s = true) (hp : PreS s H Pc As)
    (hg : g.method = m) (hn : As.length = n) (hsize : g.locals.size = nL) (hstack : g.stack = As.reverse ++ rest) (hW : 2 * g.monitorRoom + (rest.map fun v => v.category).sum ≤ 8) (hdg : decode cc g.pc = .ok (.invokestatic index, 3)) (hf : cells + mc ≤ R.cells ∧ slots + ms ≤ R.slots) :
    vx_Run p l e R s m args below meth c H locs cells slots mc ms g rest (Qc As.toArray) XC free := by
  have hK : vx_Back l R p e below s args y 3 8 (PreOf R mc ms Pc) (PostOf Qc mc ms free) (vx_Post XC mc ms free) := vx_callBack cw.1 hM hp.1
  obtain ⟨⟨-, -, -, -, -, -, hcode, hini, hy, hlen, hl⟩, hstt⟩ := cw
  obtain ⟨hx, hb, hml, ho, -⟩ := S
  intro T hT X
  rcases vx_callS X hx (bytes := bytes) (maxL := maxL) (ret := ret) ho hl hstt hini hcode hy hK hg (hsize.trans hml.symm) (argsL := As) (rest := rest) (fun sig h => hn.trans (hlen sig h)) hstack hW (by rw [hb]; exact hdg)
    (fun vm₁ hW₁ => ⟨hf.1, hf.2, hp.2 (T.setVm vm₁) hT hW₁⟩) with ⟨v, vm₁, ⟨U', l2, c2, s2⟩, hW₁, X', ⟨g', mk, t, L, e1, e2, hq, h1, hL, h2, h3⟩, st⟩ | ⟨q, vm₁, ⟨U', l2, c2, s2⟩, hW₁, X', ⟨g', mk, t, L, E, ce, e1, e2, hq, hce, hcv, hcl, h1, hL, h2, h3⟩, st⟩
  · dsimp only [Pt.U, Pt.locs, Pt.cells, Pt.slots] at X' e1 e2 h1 h2 h3 st
    subst h1; subst h2; subst h3
    exact Or.inl ⟨v, (T.setVm vm₁).calling g' mk As.toArray, t, U', L, hT, X', hL, e1, e2, hq, st⟩
  · dsimp only [Pt.U, Pt.locs, Pt.cells, Pt.slots] at X' e1 e2 h1 h2 h3 st hcl
    subst h1; subst h2; subst h3
    exact Or.inr ⟨q, (T.setVm vm₁).calling g' mk As.toArray, t, U', L, E, ce, hT, X', hL, e1, e2, hq, hce, hcv, vx_cls hW₁ hcl, st⟩
end Runs
section Rows
variable {p : Program} {l : Launch} {e : Env} {R : Room} {s : State} {m : MethodId} {args : Array Value} {below : List Frame} {meth : Method} {c : Code} {H : Heap} {locs : List Loc} {cells slots : Nat} {Q : State → Prop}
variable {mc ms : Nat} {free : Addr → Prop} {A0 A1 : Nat → Prop} {H0 : Heap} {a : Array Value} {pc : Nat} {ls : Array Slot} {st0 rest : List Value}
theorem vx_keep {st₀ t T' : State} {L : List Loc} (h0 : st₀.heap = H) (e1 : T'.heap = t.heap) (hS : va_S A0 H0 H locs) (hA : ∀ q, q < H.size → A1 q → A0 q) (hf : ∀ q, free q → A0 q) (hL : ∀ q ∈ L, free q.base) (hF : va_F A1 st₀ t) :
    H.size ≤ T'.heap.size ∧ (∀ q : Nat, q < H.size → ¬ A1 q → T'.heap[q]? = H[q]?) ∧ va_S A0 H0 T'.heap (locs ++ L) := by
  obtain ⟨hz, hk⟩ := hF
  rw [h0] at hz hk
  exact ⟨by rw [e1]; exact hz, fun q h1 h2 => by rw [e1]; exact hk q h1 h2,
    ⟨Nat.le_trans hS.1 (by rw [e1]; exact hz), fun q h1 h2 => by rw [e1, hk q (Nat.lt_of_lt_of_le h1 hS.1) (fun z => h2 (hA q (Nat.lt_of_lt_of_le h1 hS.1) z))]; exact hS.2.1 q h1 h2, fun q hq => by
      rcases List.mem_append.mp hq with h | h
      · exact hS.2.2 q h
      · exact hf _ (hL q h)⟩⟩
theorem vx_calli {S SX : Type} {post : Int32 → S → Prop} {px : SX → Prop} {B : S → State → Prop} {BX : String → SX → State → Prop} {AX : Nat → Prop} (hr : vx_Run p l e R s m args below meth c H locs cells slots mc ms (F0 m pc ls st0) rest (va_Qi post B A1 a) (vx_X px BX AX) free) (hS : va_S A0 H0 H locs) (hA : ∀ q, q < H.size → A1 q → A0 q) (hf : ∀ q, free q → A0 q) (hAX : ∀ q, q < H.size → AX q → A0 q)
    (kx : ∀ (E : String) (ce : Cell) (q9 : Addr) (u : SX) (t : State) (H1 : Heap) (locs1 : List Loc), t.heap = H1 → s.vm.Alike t.vm → px u → BX E u t → H.size ≤ H1.size → (∀ q : Nat, q < H.size → ¬ AX q → H1[q]? = H[q]?) → va_S A0 H0 H1 locs1 → H1[q9]? = some ce → ce.vm = .none → s.vm.findClass E = some ce.cls → vx_W p l e R s m args below meth c H1 locs1 (cells + mc) (slots + ms) Q (F0 m pc ls rest) q9)
    (kk : ∀ (r : Int32) (u : S) (t : State) (H1 : Heap) (locs1 : List Loc), t.heap = H1 → s.vm.Alike t.vm → post r u → B u t → H.size ≤ H1.size → (∀ q : Nat, q < H.size → ¬ A1 q → H1[q]? = H[q]?) → va_S A0 H0 H1 locs1 → W p l e R s m args below meth c H1 locs1 (cells + mc) (slots + ms) Q (F0 m (pc + 3) ls (.int r :: rest))) : W p l e R s m args below meth c H locs cells slots Q (F0 m pc ls st0) := by
  intro T hT X
  rcases hr T hT X with ⟨v, st₀, t, T', L, h0, X', hL, e1, e2, ⟨⟨r, u, hv, hp, hb⟩, hF⟩, st⟩ | ⟨q, st₀, t, T', L, E, ce, h0, X', hL, e1, e2, ⟨u, hp, hb, hF⟩, hce, hcv, hcl, st⟩
  · cases hv
    obtain ⟨k1, k2, k3⟩ := vx_keep h0 e1 hS hA hf hL hF
    obtain ⟨t2, a1, b1⟩ := kk r u t T'.heap (locs ++ L) e1.symm (by rw [← e2]; exact X'.warmed.alike) hp hb k1 k2 k3 T' rfl X'
    exact ⟨t2, st t2 a1, b1⟩
  · obtain ⟨k1, k2, k3⟩ := vx_keep h0 e1 hS hAX hf hL hF
    obtain ⟨t2, a1, b1⟩ := kx E ce q u t T'.heap (locs ++ L) e1.symm (by rw [← e2]; exact X'.warmed.alike) hp hb k1 k2 k3 (by rw [e1]; exact hce) hcv hcl T' rfl X'
    exact ⟨t2, st.trans a1, b1⟩
theorem vx_calll {S SX : Type} {post : Int64 → S → Prop} {px : SX → Prop} {B : S → State → Prop} {BX : String → SX → State → Prop} {AX : Nat → Prop} (hr : vx_Run p l e R s m args below meth c H locs cells slots mc ms (F0 m pc ls st0) rest (va_Ql post B A1 a) (vx_X px BX AX) free) (hS : va_S A0 H0 H locs) (hA : ∀ q, q < H.size → A1 q → A0 q) (hf : ∀ q, free q → A0 q) (hAX : ∀ q, q < H.size → AX q → A0 q)
    (kx : ∀ (E : String) (ce : Cell) (q9 : Addr) (u : SX) (t : State) (H1 : Heap) (locs1 : List Loc), t.heap = H1 → s.vm.Alike t.vm → px u → BX E u t → H.size ≤ H1.size → (∀ q : Nat, q < H.size → ¬ AX q → H1[q]? = H[q]?) → va_S A0 H0 H1 locs1 → H1[q9]? = some ce → ce.vm = .none → s.vm.findClass E = some ce.cls → vx_W p l e R s m args below meth c H1 locs1 (cells + mc) (slots + ms) Q (F0 m pc ls rest) q9)
    (kk : ∀ (r : Int64) (u : S) (t : State) (H1 : Heap) (locs1 : List Loc), t.heap = H1 → s.vm.Alike t.vm → post r u → B u t → H.size ≤ H1.size → (∀ q : Nat, q < H.size → ¬ A1 q → H1[q]? = H[q]?) → va_S A0 H0 H1 locs1 → W p l e R s m args below meth c H1 locs1 (cells + mc) (slots + ms) Q (F0 m (pc + 3) ls (.long r :: rest))) : W p l e R s m args below meth c H locs cells slots Q (F0 m pc ls st0) := by
  intro T hT X
  rcases hr T hT X with ⟨v, st₀, t, T', L, h0, X', hL, e1, e2, ⟨⟨r, u, hv, hp, hb⟩, hF⟩, st⟩ | ⟨q, st₀, t, T', L, E, ce, h0, X', hL, e1, e2, ⟨u, hp, hb, hF⟩, hce, hcv, hcl, st⟩
  · cases hv
    obtain ⟨k1, k2, k3⟩ := vx_keep h0 e1 hS hA hf hL hF
    obtain ⟨t2, a1, b1⟩ := kk r u t T'.heap (locs ++ L) e1.symm (by rw [← e2]; exact X'.warmed.alike) hp hb k1 k2 k3 T' rfl X'
    exact ⟨t2, st t2 a1, b1⟩
  · obtain ⟨k1, k2, k3⟩ := vx_keep h0 e1 hS hAX hf hL hF
    obtain ⟨t2, a1, b1⟩ := kx E ce q u t T'.heap (locs ++ L) e1.symm (by rw [← e2]; exact X'.warmed.alike) hp hb k1 k2 k3 (by rw [e1]; exact hce) hcv hcl T' rfl X'
    exact ⟨t2, st.trans a1, b1⟩
theorem vx_callf {S SX : Type} {post : UInt32 → S → Prop} {px : SX → Prop} {B : S → State → Prop} {BX : String → SX → State → Prop} {AX : Nat → Prop} (hr : vx_Run p l e R s m args below meth c H locs cells slots mc ms (F0 m pc ls st0) rest (va_Qf post B A1 a) (vx_X px BX AX) free) (hS : va_S A0 H0 H locs) (hA : ∀ q, q < H.size → A1 q → A0 q) (hf : ∀ q, free q → A0 q) (hAX : ∀ q, q < H.size → AX q → A0 q)
    (kx : ∀ (E : String) (ce : Cell) (q9 : Addr) (u : SX) (t : State) (H1 : Heap) (locs1 : List Loc), t.heap = H1 → s.vm.Alike t.vm → px u → BX E u t → H.size ≤ H1.size → (∀ q : Nat, q < H.size → ¬ AX q → H1[q]? = H[q]?) → va_S A0 H0 H1 locs1 → H1[q9]? = some ce → ce.vm = .none → s.vm.findClass E = some ce.cls → vx_W p l e R s m args below meth c H1 locs1 (cells + mc) (slots + ms) Q (F0 m pc ls rest) q9)
    (kk : ∀ (r : UInt32) (u : S) (t : State) (H1 : Heap) (locs1 : List Loc), t.heap = H1 → s.vm.Alike t.vm → post r u → B u t → H.size ≤ H1.size → (∀ q : Nat, q < H.size → ¬ A1 q → H1[q]? = H[q]?) → va_S A0 H0 H1 locs1 → W p l e R s m args below meth c H1 locs1 (cells + mc) (slots + ms) Q (F0 m (pc + 3) ls (.float r :: rest))) : W p l e R s m args below meth c H locs cells slots Q (F0 m pc ls st0) := by
  intro T hT X
  rcases hr T hT X with ⟨v, st₀, t, T', L, h0, X', hL, e1, e2, ⟨⟨r, u, hv, hp, hb⟩, hF⟩, st⟩ | ⟨q, st₀, t, T', L, E, ce, h0, X', hL, e1, e2, ⟨u, hp, hb, hF⟩, hce, hcv, hcl, st⟩
  · cases hv
    obtain ⟨k1, k2, k3⟩ := vx_keep h0 e1 hS hA hf hL hF
    obtain ⟨t2, a1, b1⟩ := kk r u t T'.heap (locs ++ L) e1.symm (by rw [← e2]; exact X'.warmed.alike) hp hb k1 k2 k3 T' rfl X'
    exact ⟨t2, st t2 a1, b1⟩
  · obtain ⟨k1, k2, k3⟩ := vx_keep h0 e1 hS hAX hf hL hF
    obtain ⟨t2, a1, b1⟩ := kx E ce q u t T'.heap (locs ++ L) e1.symm (by rw [← e2]; exact X'.warmed.alike) hp hb k1 k2 k3 (by rw [e1]; exact hce) hcv hcl T' rfl X'
    exact ⟨t2, st.trans a1, b1⟩
theorem vx_calld {S SX : Type} {post : UInt64 → S → Prop} {px : SX → Prop} {B : S → State → Prop} {BX : String → SX → State → Prop} {AX : Nat → Prop} (hr : vx_Run p l e R s m args below meth c H locs cells slots mc ms (F0 m pc ls st0) rest (va_Qd post B A1 a) (vx_X px BX AX) free) (hS : va_S A0 H0 H locs) (hA : ∀ q, q < H.size → A1 q → A0 q) (hf : ∀ q, free q → A0 q) (hAX : ∀ q, q < H.size → AX q → A0 q)
    (kx : ∀ (E : String) (ce : Cell) (q9 : Addr) (u : SX) (t : State) (H1 : Heap) (locs1 : List Loc), t.heap = H1 → s.vm.Alike t.vm → px u → BX E u t → H.size ≤ H1.size → (∀ q : Nat, q < H.size → ¬ AX q → H1[q]? = H[q]?) → va_S A0 H0 H1 locs1 → H1[q9]? = some ce → ce.vm = .none → s.vm.findClass E = some ce.cls → vx_W p l e R s m args below meth c H1 locs1 (cells + mc) (slots + ms) Q (F0 m pc ls rest) q9)
    (kk : ∀ (r : UInt64) (u : S) (t : State) (H1 : Heap) (locs1 : List Loc), t.heap = H1 → s.vm.Alike t.vm → post r u → B u t → H.size ≤ H1.size → (∀ q : Nat, q < H.size → ¬ A1 q → H1[q]? = H[q]?) → va_S A0 H0 H1 locs1 → W p l e R s m args below meth c H1 locs1 (cells + mc) (slots + ms) Q (F0 m (pc + 3) ls (.double r :: rest))) : W p l e R s m args below meth c H locs cells slots Q (F0 m pc ls st0) := by
  intro T hT X
  rcases hr T hT X with ⟨v, st₀, t, T', L, h0, X', hL, e1, e2, ⟨⟨r, u, hv, hp, hb⟩, hF⟩, st⟩ | ⟨q, st₀, t, T', L, E, ce, h0, X', hL, e1, e2, ⟨u, hp, hb, hF⟩, hce, hcv, hcl, st⟩
  · cases hv
    obtain ⟨k1, k2, k3⟩ := vx_keep h0 e1 hS hA hf hL hF
    obtain ⟨t2, a1, b1⟩ := kk r u t T'.heap (locs ++ L) e1.symm (by rw [← e2]; exact X'.warmed.alike) hp hb k1 k2 k3 T' rfl X'
    exact ⟨t2, st t2 a1, b1⟩
  · obtain ⟨k1, k2, k3⟩ := vx_keep h0 e1 hS hAX hf hL hF
    obtain ⟨t2, a1, b1⟩ := kx E ce q u t T'.heap (locs ++ L) e1.symm (by rw [← e2]; exact X'.warmed.alike) hp hb k1 k2 k3 (by rw [e1]; exact hce) hcv hcl T' rfl X'
    exact ⟨t2, st.trans a1, b1⟩
theorem vx_callv {S SX : Type} {post : S → Prop} {px : SX → Prop} {B : S → State → Prop} {BX : String → SX → State → Prop} {AX : Nat → Prop} (hr : vx_Run p l e R s m args below meth c H locs cells slots mc ms (F0 m pc ls st0) rest (va_Qv post B A1 a) (vx_X px BX AX) free) (hS : va_S A0 H0 H locs) (hA : ∀ q, q < H.size → A1 q → A0 q) (hf : ∀ q, free q → A0 q) (hAX : ∀ q, q < H.size → AX q → A0 q)
    (kx : ∀ (E : String) (ce : Cell) (q9 : Addr) (u : SX) (t : State) (H1 : Heap) (locs1 : List Loc), t.heap = H1 → s.vm.Alike t.vm → px u → BX E u t → H.size ≤ H1.size → (∀ q : Nat, q < H.size → ¬ AX q → H1[q]? = H[q]?) → va_S A0 H0 H1 locs1 → H1[q9]? = some ce → ce.vm = .none → s.vm.findClass E = some ce.cls → vx_W p l e R s m args below meth c H1 locs1 (cells + mc) (slots + ms) Q (F0 m pc ls rest) q9)
    (kk : ∀ (u : S) (t : State) (H1 : Heap) (locs1 : List Loc), t.heap = H1 → s.vm.Alike t.vm → post u → B u t → H.size ≤ H1.size → (∀ q : Nat, q < H.size → ¬ A1 q → H1[q]? = H[q]?) → va_S A0 H0 H1 locs1 → W p l e R s m args below meth c H1 locs1 (cells + mc) (slots + ms) Q (F0 m (pc + 3) ls (rest))) : W p l e R s m args below meth c H locs cells slots Q (F0 m pc ls st0) := by
  intro T hT X
  rcases hr T hT X with ⟨v, st₀, t, T', L, h0, X', hL, e1, e2, ⟨⟨u, hv, hp, hb⟩, hF⟩, st⟩ | ⟨q, st₀, t, T', L, E, ce, h0, X', hL, e1, e2, ⟨u, hp, hb, hF⟩, hce, hcv, hcl, st⟩
  · cases hv
    obtain ⟨k1, k2, k3⟩ := vx_keep h0 e1 hS hA hf hL hF
    obtain ⟨t2, a1, b1⟩ := kk u t T'.heap (locs ++ L) e1.symm (by rw [← e2]; exact X'.warmed.alike) hp hb k1 k2 k3 T' rfl X'
    exact ⟨t2, st t2 a1, b1⟩
  · obtain ⟨k1, k2, k3⟩ := vx_keep h0 e1 hS hAX hf hL hF
    obtain ⟨t2, a1, b1⟩ := kx E ce q u t T'.heap (locs ++ L) e1.symm (by rw [← e2]; exact X'.warmed.alike) hp hb k1 k2 k3 (by rw [e1]; exact hce) hcv hcl T' rfl X'
    exact ⟨t2, st.trans a1, b1⟩
/-- caught by the row x of this method's table; the rows ahead don't take it -/
theorem vx_catch {own name : String} {E : String} {ce : Cell} {q : Addr} (hown : s.vm.findClass own = some m.cls) (pre : List ExceptionTableEntry) (x : ExceptionTableEntry) (suf : List ExceptionTableEntry) (hsplit : c.exceptionTable.toList = pre ++ x :: suf)
    (hpass : ∀ z ∈ pre, covers z pc = false ∨ (z.catchType ≠ 0 ∧ ∃ nm : String, (Cond.classLink own z.catchType nm).before args s = true ∧ va_Nc E nm s)) (hx : covers x pc = true) (h0 : x.catchType ≠ 0)
    (hlink : (Cond.classLink own x.catchType name).before args s = true) (hcast : (Cond.castable E name).before args s = true) (hcell : H[q]? = some ce) (hv : ce.vm = .none) (hcl : s.vm.findClass E = some ce.cls)
    (kk : W p l e R s m args below meth c H locs cells slots Q (F0 m x.handlerPc ls [.ref q])) : vx_W p l e R s m args below meth c H locs cells slots Q (F0 m pc ls rest) q := by
  intro T hT X
  have hpl : e.platform.magicAccessors = ({} : Platform).magicAccessors := by rw [X.admits.platform]
  obtain ⟨c3, c4, hc3, hc4, hasg⟩ := Cond.castable_spec hcast
  cases Option.some.inj (hc3.symm.trans hcl)
  obtain ⟨c5, hc5, hcl5⟩ := Cond.classLink_spec hown hlink e.platform hpl
  cases Option.some.inj (hc4.symm.trans hc5)
  obtain ⟨vm', X', st⟩ := X.thenCaughtThrough q (g := F0 m pc ls rest) rfl (Steps.refl _) (by rw [hT]; exact hcell) (by rw [hv]; rfl) (by obtain ⟨k9, h9, -⟩ := Vm.findClass_spec hcl; exact ⟨k9, h9⟩) pre x suf hsplit
    (fun z hz => by
      rcases hpass z hz with h | ⟨hz0, nm, hl1, hn1⟩
      · exact Or.inl h
      · obtain ⟨c6, hc6, hcl6⟩ := Cond.classLink_spec hown hl1 e.platform hpl
        obtain ⟨a8, b8, h1, h2, h3⟩ := hn1
        cases Option.some.inj (h1.symm.trans hcl)
        cases Option.some.inj (h2.symm.trans hc6)
        exact Or.inr ⟨hz0, _, hcl6, h3⟩) hx (Or.inr ⟨h0, c4, hcl5, hasg⟩)
  obtain ⟨t, a1, b1⟩ := kk (T.setVm vm') hT X'
  exact ⟨t, st.trans a1, b1⟩
end Rows
section Ends
variable {p : Program} {l : Launch} {e : Env} {R : Room} {s : State} {m : MethodId} {args : Array Value} {below : List Frame} {meth : Method} {c : Code} {H : Heap} {locs : List Loc} {cells slots : Nat} {Q : State → Prop}
variable {mc ms : Nat} {free : Addr → Prop} {A0 A1 : Nat → Prop} {H0 : Heap} {a : Array Value} {ls : Array Slot} {st0 rest : List Value}
variable {Qc : Array Value → State → Outcome → State → Prop} {XC : String → State → State → Prop}
/-- what a body that may throw owes at its end -/
def vx_MQ (below : List Frame) (Qc : Array Value → State → Outcome → State → Prop) (XC : String → State → State → Prop) (a : Array Value) (s : State) (mc ms : Nat) (free : Addr → Prop) : State → Prop := fun t =>
  ∃ o, t.status = .running ∧ Ended t below o ∧ vx_Q Qc XC mc ms free a s o t
theorem vx_ret {g : JFrame} {mc ms : Nat} (k : W p l e R s m args below meth c H locs cells slots (MQ below Qc args s mc ms free) g) : W p l e R s m args below meth c H locs cells slots (vx_MQ below Qc XC args s mc ms free) g := by
  intro T hT X
  obtain ⟨t, a1, o, b1, b2, b3, b4⟩ := k T hT X
  exact ⟨t, a1, o, b1, b2, Or.inl ⟨b3, b4⟩⟩
/-- not caught here: it goes on to the caller -/
theorem vx_widen {g : JFrame} {q : Addr} {k n : Nat} (h1 : cells ≤ k) (h2 : slots ≤ n) (kk : vx_W p l e R s m args below meth c H locs k n Q g q) : vx_W p l e R s m args below meth c H locs cells slots Q g q := fun T hT X => kk T hT (stand_widen X h1 h2)
theorem vx_out {pc : Nat} {E : String} {ce : Cell} {q : Addr} {mc ms : Nat} (hout : ∀ x ∈ c.exceptionTable.toList, covers x pc = false) (hlocks : meth.locks = false) (hcell : H[q]? = some ce) (hv : ce.vm = .none) (hcl : s.vm.findClass E = some ce.cls)
    (hx : ∀ t : State, t.heap = H → s.vm.Alike t.vm → XC E s t) (hf : ∀ z ∈ locs, free z.base) (hc : cells ≤ mc) (hs : slots ≤ ms) :
    vx_W p l e R s m args below meth c H locs cells slots (vx_MQ below Qc XC args s mc ms free) (F0 m pc ls rest) q := by
  intro T hT X
  obtain ⟨st1, hrun, hend, hW, hsm⟩ := X.leaveThrown q (g := F0 m pc ls rest) rfl rfl rfl hout hlocks
  have hcell9 : (T.setFrames (.throwing q :: below)).heap[q]? = some ce := by
    show T.heap[q]? = some ce
    rw [hT]; exact hcell
  exact ⟨_, st1, .threw q, hrun, hend, Or.inr ⟨q, rfl, E, ce, locs, hx _ hT hW.alike, hcell9, hv, hcl, hW, hsm.mono hc hs, hf⟩⟩
theorem vx_frame {U : State} {k n : Nat} (h : s.sameButNew ({ U with vm := s.vm } : State) locs k n) : s.heap.size ≤ U.heap.size ∧ ∀ q : Nat, q < s.heap.size → (∀ z ∈ locs, z.base ≠ q) → U.heap[q]? = s.heap[q]? := by
  obtain ⟨-, h2, -, -, -, h6⟩ := h
  refine ⟨h2, fun q hq hz => ?_⟩
  obtain ⟨c9, e1, e2, e3, e4⟩ := h6 q _ (Array.getElem?_eq_getElem hq)
  have hs : c9.slots = (s.heap[q]).slots := Array.ext_getElem? fun i => e4 i fun hm => hz _ hm rfl
  have h9 : c9 = s.heap[q] := by
    rw [hs] at e2
    exact e2
  have e5 : U.heap[q]? = some c9 := e1
  rw [e5, h9, Array.getElem?_eq_getElem hq]
/-- the words of a throw but the four that speak of the heap -/
def vx_no (w : Cond) : Bool := decide (w ≠ .isRef (.static Bundle.tN "UNASSIGNED_STACK" Bundle.steD)) && decide (w ≠ .isRef (.static Bundle.tN "SUPPRESSED_SENTINEL" Bundle.listD)) && decide (w ≠ .laysStatic Bundle.tN "UNASSIGNED_STACK" Bundle.steD) && decide (w ≠ .laysStatic Bundle.tN "SUPPRESSED_SENTINEL" Bundle.listD)
def vx_at0 (own : String) (ic : Nat) (X : String) (names : List String) : List Cond := (Bundle.ownAtoms0 own ic X names).filter vx_no
def vx_atS (own : String) (ic : Nat) (X : String) (names : List String) : List Cond := (Bundle.ownAtoms own ic X names).filter vx_no
/-- a word that the tables alone decide, or a good one -/
def vx_ot (w : Cond) : Bool := w.onTables || goodWord w
theorem vx_ot_at {args a' : Array Value} {s U : State} {w : Cond} (hW : s.WarmedH U.vm) (hvm : s.vm = U.vm) (hg : vx_ot w = true) (h : w.before args s = true) : w.before a' U = true := by
  simp only [vx_ot, Bool.or_eq_true] at hg
  rcases hg with hg | hg
  · exact va_tabs hg hvm h
  · exact word_at hW (good_of_word hg) h
/-- a list's words: the good ones out of the method's own list, the others by premises of their own -/
theorem vx_hat {args : Array Value} {s : State} {L B : List Cond} (h1 : ∀ w ∈ L.filter goodWord, w.before args s = true) (h2 : ∀ w ∈ L.filter (fun w => !goodWord w), w ∈ B) (h3 : ∀ w ∈ B, w.before args s = true) : ∀ w ∈ L, w.before args s = true := by
  intro w hw
  by_cases g : goodWord w = true
  · exact h1 w (List.mem_filter.mpr ⟨hw, g⟩)
  · refine h3 w (h2 w (List.mem_filter.mpr ⟨hw, ?_⟩))
    show (!goodWord w) = true
    cases hgw : goodWord w
    · rfl
    · exact absurd hgw g
theorem vx_c {args : Array Value} {s : State} {w : Cond} {B : List Cond} (h : w.before args s = true) (t : ∀ w ∈ B, w.before args s = true) : ∀ w' ∈ w :: B, w'.before args s = true := fun w' h' => (List.mem_cons.mp h').elim (fun e => by rw [e]; exact h) (t w')
theorem vx_n {args : Array Value} {s : State} : ∀ w ∈ ([] : List Cond), w.before args s = true := fun _ h => nomatch h
theorem vx_own {args : Array Value} {s : State} {L : List Cond} (h1 : ∀ w ∈ L.filter vx_no, w.before args s = true)
    (hU : (Cond.isRef (.static Bundle.tN "UNASSIGNED_STACK" Bundle.steD)).before args s = true) (hN : (Cond.isRef (.static Bundle.tN "SUPPRESSED_SENTINEL" Bundle.listD)).before args s = true)
    (lU : (Cond.laysStatic Bundle.tN "UNASSIGNED_STACK" Bundle.steD).before args s = true) (lN : (Cond.laysStatic Bundle.tN "SUPPRESSED_SENTINEL" Bundle.listD).before args s = true) : ∀ w ∈ L, w.before args s = true := by
  intro w hw
  by_cases e1 : w = .isRef (.static Bundle.tN "UNASSIGNED_STACK" Bundle.steD)
  · rw [e1]; exact hU
  · by_cases e2 : w = .isRef (.static Bundle.tN "SUPPRESSED_SENTINEL" Bundle.listD)
    · rw [e2]; exact hN
    · by_cases e3 : w = .laysStatic Bundle.tN "UNASSIGNED_STACK" Bundle.steD
      · rw [e3]; exact lU
      · by_cases e4 : w = .laysStatic Bundle.tN "SUPPRESSED_SENTINEL" Bundle.listD
        · rw [e4]; exact lN
        · exact h1 w (List.mem_filter.mpr ⟨hw, by unfold vx_no; rw [decide_eq_true e1, decide_eq_true e2, decide_eq_true e3, decide_eq_true e4]; rfl⟩)
/-- where a static field lies, its class's statics cell in H -/
def vx_L (C n d : String) (A : Nat → Prop) (U : State) (H : Heap) : Prop := ∃ (c : ClassId) (k : Class) (i : Nat) (f : Field) (a : Nat) (cell : Cell), U.vm.findClass C = some c ∧ U.fieldFound? C n d = some (c, k, i, f) ∧ f.isStatic = true ∧ k.statics = some a ∧ H[a]? = some cell ∧ cell.vm.isStatics = true ∧ cell.cls = c ∧ f.slot < cell.slots.size ∧ k.staticTypes[f.slot]? = some f.type ∧ ¬ A a
theorem vx_L.moved {C n d : String} {A : Nat → Prop} {u U : State} {H : Heap} (hvm : u.vm.Alike U.vm) (h : vx_L C n d A u H) : vx_L C n d A U H := by
  obtain ⟨c, k, i, f, a, cell, h1, h2, h3, h4, h5, h6, h7, h8, h9, h10⟩ := h
  obtain ⟨k', hi', he⟩ := State.fieldFound?_setVm hvm h2
  exact ⟨c, k', i, f, a, cell, by rw [hvm.findClass]; exact h1, hi', h3, by rw [he]; exact h4, h5, h6, h7, h8, by rw [he]; exact h9, h10⟩
theorem vx_L.kept {C n d : String} {A : Nat → Prop} {U : State} {H H1 : Heap} (h : vx_L C n d A U H) (hq : ∀ a : Nat, a < H.size → ¬ A a → H1[a]? = H[a]?) : vx_L C n d A U H1 := by
  obtain ⟨c, k, i, f, a, cell, h1, h2, h3, h4, h5, h6, h7, h8, h9, h10⟩ := h
  exact ⟨c, k, i, f, a, cell, h1, h2, h3, h4, by rw [hq a (Array.getElem?_eq_some_iff.mp h5).1 h10]; exact h5, h6, h7, h8, h9, h10⟩
theorem vx_L.narrow {C n d : String} {A B : Nat → Prop} {U : State} {H : Heap} (h : vx_L C n d A U H) (hAB : ∀ q, B q → A q) : vx_L C n d B U H := by
  obtain ⟨c, k, i, f, a, cell, h1, h2, h3, h4, h5, h6, h7, h8, h9, h10⟩ := h
  exact ⟨c, k, i, f, a, cell, h1, h2, h3, h4, h5, h6, h7, h8, h9, fun z => h10 (hAB _ z)⟩
theorem vx_L.word {C n d : String} {A : Nat → Prop} {s : State} {args : Array Value} (h : vx_L C n d A s s.heap) : (Cond.laysStatic C n d).before args s = true := by
  obtain ⟨c, k, i, f, a, cell, h1, h2, h3, h4, h5, h6, h7, h8, h9, -⟩ := h
  show (Cond.laysStatic C n d).holds args s none s [] = true
  exact Cond.laysStatic_of h1 h2 h3 h4 h5 h6 h7 h8 h9
/-- .. and what it holds: null or some reference -/
def vx_Zq (C n d : String) (A : Nat → Prop) (U : State) (H : Heap) : Prop := va_Zq C n d A U H ∧ vx_L C n d A U H
theorem vx_Zq.moved {C n d : String} {A : Nat → Prop} {u U : State} {H : Heap} (hvm : u.vm.Alike U.vm) (h : vx_Zq C n d A u H) : vx_Zq C n d A U H := ⟨va_Zq.moved hvm h.1, vx_L.moved hvm h.2⟩
theorem vx_Zq.kept {C n d : String} {A : Nat → Prop} {U : State} {H H1 : Heap} (h : vx_Zq C n d A U H) (hq : ∀ a : Nat, a < H.size → ¬ A a → H1[a]? = H[a]?) : vx_Zq C n d A U H1 := ⟨va_Zq.kept h.1 hq, vx_L.kept h.2 hq⟩
theorem vx_Zq.narrow {C n d : String} {A B : Nat → Prop} {U : State} {H : Heap} (h : vx_Zq C n d A U H) (hAB : ∀ q, B q → A q) : vx_Zq C n d B U H := ⟨va_Zq.narrow h.1 hAB, vx_L.narrow h.2 hAB⟩
theorem vx_Zqof {args : Array Value} {s : State} {C n d : String} {A : Nat → Prop} (hl : (Cond.laysStatic C n d).before args s = true) (hini : (Cond.initialized C).before args s = true) (h : (Cond.isRef (.static C n d)).before args s = true) (hA : ∀ a : Nat, a < s.heap.size → ¬ A a) : vx_Zq C n d A s s.heap := by
  refine ⟨va_Zqof hl hini h hA, ?_⟩
  obtain ⟨c, k, i, f, a, cell, h1, h2, h3, h4, h5, h6, h7, h8, h9⟩ := Cond.laysStatic_spec hl
  exact ⟨c, k, i, f, a, cell, h1, h2, h3, h4, h5, h6, h7, h8, h9, hA a (Array.getElem?_eq_some_iff.mp h5).1⟩
theorem vx_isRef {C n d : String} {v : Value} {A : Nat → Prop} {s : State} {args : Array Value} (h : va_Z C n d v A s s.heap) (hv : v.isRef = true) : (Cond.isRef (.static C n d)).before args s = true := by
  obtain ⟨cf, kf, fi, f, a, cell, h1, h2, h3, h4, h5, h6, h7, -⟩ := h
  have he : (Term.static C n d).eval args s none [] s = some v := by
    simp [Term.eval, State.fieldNamed?, h1, h2, h4, h5, h6, h7]
  simp only [Cond.before, Cond.holds, Cond.value, he]
  cases v <;> simp_all [Value.isRef]
theorem vx_isRefq {C n d : String} {A : Nat → Prop} {s : State} {args : Array Value} (h : va_Zq C n d A s s.heap) : (Cond.isRef (.static C n d)).before args s = true := by
  rcases h with h | ⟨t, h⟩
  · exact vx_isRef h rfl
  · exact vx_isRef h rfl
/-- the same frame, seen from here: as if the method were called anew in this heap -/
theorem vx_rebase {T : State} (X : Stand p l e R s m args below meth c T locs cells slots) {R' : Room} (hf : R'.frames ≤ R.frames) (hl : R'.locals ≤ R.locals) (hc : cells + R'.cells ≤ R.cells) (hs : slots + R'.slots ≤ R.slots) :
    Stand p l e R' ((T.setVm s.vm).setFrames (.invoking m args :: below)) m args below meth c T [] 0 0 := by
  have htop : (T.setVm s.vm).topJava?.isSome := X.here.top
  have hF : ((T.setVm s.vm).setFrames (.invoking m args :: below)).frames = .invoking m args :: below := State.frames_setFrames _ (State.cur_lt_of_top htop)
  obtain ⟨g₀, hg0⟩ := Option.isSome_iff_exists.mp htop
  obtain ⟨r, hr⟩ := State.topJava?_eq_some.mp hg0
  have hl9 : e.platform.stackLimits (T.setVm s.vm).me = e.platform.stackLimits s.me := X.limits
  have hb9 : (T.setVm s.vm).me.stackBytes = s.me.stackBytes := X.bytes
  refine ⟨X.admits, X.cas, X.clock, hF, ?_, X.hears, X.method, X.code, X.here, X.tail, X.warmed, ?_, ?_, ?_⟩
  · have h := X.room
    have hU : ((T.setVm s.vm).setFrames (.invoking m args :: below)).localsInUse = s.localsInUse := by
      rw [State.localsInUse_invoking hF (meth := meth) (c := c) X.method X.code, State.localsInUse_invoking X.frames X.method X.code]
    simp only [State.hasRoom, Bool.and_eq_true, decide_eq_true_eq] at h ⊢
    obtain ⟨⟨⟨⟨h1, h2, h3, h4, h5, h6⟩, h7⟩, h8⟩, h9⟩ := h
    rw [X.frames, List.length_cons] at h2 h3
    have q1 := X.heapSize
    have q2 := X.used
    simp only [hF, hU, List.length_cons, State.stackLimits_setFrames, State.stackBytes_setFrames, hl9, hb9]
    refine ⟨⟨⟨⟨by omega, by omega, by omega, by omega, by omega, h6⟩, ?_⟩, ?_⟩, X.book⟩
    · show T.heap.size + R'.cells ≤ e.platform.maxCells
      omega
    · show T.slotsUsed + R'.slots ≤ e.platform.maxSlots
      omega
  · rw [State.stackLimits_setFrames]; rfl
  · rw [State.stackBytes_setFrames]; rfl
  · refine ⟨?_, Nat.le_refl _, Nat.le_refl _, ?_, ?_, fun a c9 h9 => ⟨c9, h9, rfl, rfl, fun _ _ => rfl⟩⟩
    · obtain ⟨t, ht, -⟩ := State.frames_cons hr
      show T.setVm s.vm = { ((T.setVm s.vm).setFrames (.invoking m args :: below)).setFrames (T.setVm s.vm).frames with heap := T.heap, slotsUsed := T.slotsUsed }
      rw [State.setFrames_setFrames, State.setFrames_self ht]
      rfl
    · show T.slotsUsed = T.slotsUsed + ((T.heap.toList.drop T.heap.size).map (·.slots.size)).sum
      rw [List.drop_eq_nil_of_le (Nat.le_of_eq Array.length_toList)]
      rfl
    · show ((T.heap.toList.drop T.heap.size).map (·.slots.size)).sum ≤ 0
      rw [List.drop_eq_nil_of_le (Nat.le_of_eq Array.length_toList)]
      exact Nat.le_refl _
/-- 'throw new E()': new; dup; invokespecial; athrow -/
theorem vx_throw0 {cc : ByteArray} {pc : Nat} (hexec : p.tables.exec = Jvm.exec) (hb : c.code = cc) (hl : l.stackTraces = false) {own cls : String} {names : List String} {ik ic mc ms : Nat} {A : Nat → Prop}
    (hown : s.vm.findClass own = some m.cls) (hcls : Bundle.fit cls = true) (hnames : ∀ n ∈ names, Bundle.fit n = true)
    (hk : (Cond.classLink own ik cls).before args s = true) (hini : (Cond.initialized cls).before args s = true) (hat : ∀ w ∈ vx_at0 own ic cls names, w.before args s = true)
    (hgood : ∀ w ∈ Cond.classLink own ik cls :: Cond.initialized cls :: vx_at0 own ic cls names, vx_ot w = true)
    (hU : vx_Zq Bundle.tN "UNASSIGNED_STACK" Bundle.steD A s s.heap) (hN : vx_Zq Bundle.tN "SUPPRESSED_SENTINEL" Bundle.listD A s s.heap) (hS : va_S A s.heap H locs) (hsize : ls.size = c.maxLocals)
    (d0 : decode cc pc = .ok (.new ik, 3)) (d3 : decode cc (pc + 3) = .ok (.dup, 1)) (d4 : decode cc (pc + 4) = .ok (.invokespecial ic, 3)) (d7 : decode cc (pc + 7) = .ok (.athrow, 1))
    (hout : ∀ x ∈ c.exceptionTable.toList, covers x (pc + 7) = false)
    (hRframes : names.length + 3 < R.frames) (hRlocals : (rest.map fun v => v.category).sum + (13 * (names.length + 1) + 42) ≤ R.locals) (hRcells : cells + 1 ≤ R.cells) (hRslots : slots + 6 ≤ R.slots) (hlocks : meth.locks = false)
    (hx : ∀ t : State, s.vm.Alike t.vm → H.size ≤ t.heap.size → (∀ q : Nat, q < H.size → t.heap[q]? = H[q]?) → XC cls s t)
    (hf : ∀ z ∈ locs, free z.base) (hc : cells + 1 ≤ mc) (hs : slots + 6 ≤ ms) :
    W p l e R s m args below meth c H locs cells slots (vx_MQ below Qc XC args s mc ms free) (F0 m pc ls rest) := by
  intro T hT X
  have htr : e.platform.stackTraces = false := (show e.platform.stackTraces = l.stackTraces by rw [X.admits.platform]).trans hl
  have Y := vx_rebase X (R' := { frames := R.frames, locals := R.locals, cells := 1, slots := 6 }) (Nat.le_refl _) (Nat.le_refl _) hRcells hRslots
  obtain ⟨s', hA⟩ : ∃ z, z = (T.setVm s.vm).setFrames (.invoking m args :: below) := ⟨_, rfl⟩
  rw [← hA] at Y
  have hvm : s'.vm = s.vm := by rw [hA]; rfl
  have hhp : s'.heap = H := by rw [hA]; exact hT
  have hW0 : s.WarmedH s'.vm := by rw [hvm]; exact State.WarmedH.refl s
  have hat' : ∀ w ∈ vx_at0 own ic cls names, w.before args s' = true := fun w hw => vx_ot_at hW0 hvm.symm (hgood w (List.mem_cons_of_mem _ (List.mem_cons_of_mem _ hw))) (hat w hw)
  have hk' : (Cond.classLink own ik cls).before args s' = true := vx_ot_at hW0 hvm.symm (hgood _ List.mem_cons_self) hk
  have hini' : (Cond.initialized cls).before args s' = true := vx_ot_at hW0 hvm.symm (hgood _ (List.mem_cons_of_mem _ List.mem_cons_self)) hini
  have hU' : vx_Zq Bundle.tN "UNASSIGNED_STACK" Bundle.steD A s' s'.heap := by rw [hhp]; exact vx_Zq.moved hW0.alike (hU.kept hS.2.1)
  have hN' : vx_Zq Bundle.tN "SUPPRESSED_SENTINEL" Bundle.listD A s' s'.heap := by rw [hhp]; exact vx_Zq.moved hW0.alike (hN.kept hS.2.1)
  have h : ∀ w ∈ Bundle.ownAtoms0 own ic cls names, w.before args s' = true := vx_own hat' (vx_isRefq hU'.1) (vx_isRefq hN'.1) hU'.2.word hN'.2.word
  have hown' : s'.vm.findClass own = some m.cls := by rw [hvm]; exact hown
  have hins : (Cond.instantiable cls 6).before args s' = true := h _ (by simp [Bundle.ownAtoms0])
  obtain ⟨vm₁, cX, kX, hfX, hkX, -, -, X₁, st1⟩ := Y.newCold hexec (own := own) (C := cls) (index := ik) (n := 6) hown' hk' hins hini'
    (g := F0 m pc ls rest) rfl (by rw [hb]; exact d0) (Nat.le_refl _) (Nat.le_refl _)
  generalize hT1 : (T.setVm vm₁).pushCell { cls := cX, slots := kX.instanceTypes.map defaultValue, vm := .none } = T1 at X₁ st1
  have hcat : (Value.ref T.heap.size).category = 1 := rfl
  have hcellA : T1.heap[T.heap.size]? = some (freshCell cX kX) := by rw [← hT1]; exact State.heap_pushCell_size _ _
  have d3' : decode c.code (pc + 3) = .ok (.dup, 1) := by rw [hb]; exact d3
  obtain ⟨U, hsteps, hrun, hend, hW, hsame, ce, hce, hO⟩ := X₁.ctorThrow0 hexec htr (own := own) (cls := cls) (names := names) (ic := ic) hown' hcls hnames h (fun x hx => nomatch hx) hfX hkX hcellA (by rw [hhp, hT]; exact Nat.le_refl _)
    (g := { method := m, pc := pc + 4, locals := ls, stack := .ref T.heap.size :: .ref T.heap.size :: rest, locked := none }) rfl hsize rfl rfl (rest := rest) rfl
    (by rw [hb]; exact d4) (by rw [hb]; exact d7) hout hRframes (by simp only [List.map_cons, List.sum_cons, hcat]; omega) hlocks
  obtain ⟨f1, f2⟩ := vx_frame hsame
  rw [hhp] at f1 f2
  have hWs : s.WarmedH U.vm := State.WarmedH.trans hW0 hW
  have hcl : s.vm.findClass cls = some ce.cls := by
    have h9 := hO.cls
    rw [hvm] at h9
    exact h9
  have hall : s.sameButNew ({ U with vm := s.vm } : State) locs mc ms := by
    subst hA
    obtain ⟨e1, e2⟩ := hsame
    rw [State.setFrames_setFrames] at e1
    have h2 : (T.setVm s.vm).sameButNew ({ U with vm := s.vm } : State) [] (0 + 1) (0 + 6) := ⟨e1, e2⟩
    have h3 := X.same.trans h2
    rw [List.append_nil] at h3
    exact h3.mono hc hs
  refine ⟨U, ?_, .threw T.heap.size, hrun, hend, Or.inr ⟨T.heap.size, rfl, cls, ce, locs, hx U hWs.alike f1 (fun q hq => f2 q hq (fun z hz => nomatch hz)), hce, hO.vm, hcl, hWs, hall, hf⟩⟩
  refine st1 _ ?_
  show Steps p.tables e below (T1.setTop { method := m, pc := pc + 3, locals := ls, stack := .ref T.heap.size :: rest, locked := none }) _
  jvm_step X₁.here [X₁.here.top, hexec, d3', Value.category]
  exact hsteps
/-- 'throw new E("text")': new; dup; ldc; invokespecial; athrow -/
theorem vx_throwS {cc : ByteArray} {pc : Nat} (hexec : p.tables.exec = Jvm.exec) (hb : c.code = cc) (hl : l.stackTraces = false) {own cls text : String} {names : List String} {ik is ic mc ms sa : Nat} {A : Nat → Prop}
    (hown : s.vm.findClass own = some m.cls) (hcls : Bundle.fit cls = true) (hnames : ∀ n ∈ names, Bundle.fit n = true)
    (hk : (Cond.classLink own ik cls).before args s = true) (hini : (Cond.initialized cls).before args s = true) (hstr : vk_R own is text sa s) (hat : ∀ w ∈ vx_atS own ic cls names, w.before args s = true)
    (hgood : ∀ w ∈ Cond.classLink own ik cls :: Cond.initialized cls :: vx_atS own ic cls names, vx_ot w = true)
    (hU : vx_Zq Bundle.tN "UNASSIGNED_STACK" Bundle.steD A s s.heap) (hN : vx_Zq Bundle.tN "SUPPRESSED_SENTINEL" Bundle.listD A s s.heap) (hS : va_S A s.heap H locs) (hsize : ls.size = c.maxLocals)
    (d0 : decode cc pc = .ok (.new ik, 3)) (d3 : decode cc (pc + 3) = .ok (.dup, 1)) (d4 : decode cc (pc + 4) = .ok (.ldc is, 2)) (d6 : decode cc (pc + 6) = .ok (.invokespecial ic, 3)) (d9 : decode cc (pc + 9) = .ok (.athrow, 1))
    (hout : ∀ x ∈ c.exceptionTable.toList, covers x (pc + 9) = false)
    (hRframes : names.length + 3 < R.frames) (hRlocals : (rest.map fun v => v.category).sum + (13 * (names.length + 1) + 43) ≤ R.locals) (hRcells : cells + 1 ≤ R.cells) (hRslots : slots + 6 ≤ R.slots) (hlocks : meth.locks = false)
    (hx : ∀ t : State, s.vm.Alike t.vm → H.size ≤ t.heap.size → (∀ q : Nat, q < H.size → t.heap[q]? = H[q]?) → XC cls s t)
    (hf : ∀ z ∈ locs, free z.base) (hc : cells + 1 ≤ mc) (hs : slots + 6 ≤ ms) :
    W p l e R s m args below meth c H locs cells slots (vx_MQ below Qc XC args s mc ms free) (F0 m pc ls rest) := by
  intro T hT X
  have htr : e.platform.stackTraces = false := (show e.platform.stackTraces = l.stackTraces by rw [X.admits.platform]).trans hl
  have Y := vx_rebase X (R' := { frames := R.frames, locals := R.locals, cells := 1, slots := 6 }) (Nat.le_refl _) (Nat.le_refl _) hRcells hRslots
  obtain ⟨s', hA⟩ : ∃ z, z = (T.setVm s.vm).setFrames (.invoking m args :: below) := ⟨_, rfl⟩
  rw [← hA] at Y
  have hvm : s'.vm = s.vm := by rw [hA]; rfl
  have hhp : s'.heap = H := by rw [hA]; exact hT
  have hW0 : s.WarmedH s'.vm := by rw [hvm]; exact State.WarmedH.refl s
  have hat' : ∀ w ∈ vx_atS own ic cls names, w.before args s' = true := fun w hw => vx_ot_at hW0 hvm.symm (hgood w (List.mem_cons_of_mem _ (List.mem_cons_of_mem _ hw))) (hat w hw)
  have hk' : (Cond.classLink own ik cls).before args s' = true := vx_ot_at hW0 hvm.symm (hgood _ List.mem_cons_self) hk
  have hini' : (Cond.initialized cls).before args s' = true := vx_ot_at hW0 hvm.symm (hgood _ (List.mem_cons_of_mem _ List.mem_cons_self)) hini
  have hU' : vx_Zq Bundle.tN "UNASSIGNED_STACK" Bundle.steD A s' s'.heap := by rw [hhp]; exact vx_Zq.moved hW0.alike (hU.kept hS.2.1)
  have hN' : vx_Zq Bundle.tN "SUPPRESSED_SENTINEL" Bundle.listD A s' s'.heap := by rw [hhp]; exact vx_Zq.moved hW0.alike (hN.kept hS.2.1)
  have h : ∀ w ∈ Bundle.ownAtoms own ic cls names, w.before args s' = true := vx_own hat' (vx_isRefq hU'.1) (vx_isRefq hN'.1) hU'.2.word hN'.2.word
  have hown' : s'.vm.findClass own = some m.cls := by rw [hvm]; exact hown
  have hins : (Cond.instantiable cls 6).before args s' = true := h _ (by simp [Bundle.ownAtoms])
  obtain ⟨vm₁, cX, kX, hfX, hkX, -, -, X₁, st1⟩ := Y.newCold hexec (own := own) (C := cls) (index := ik) (n := 6) hown' hk' hins hini'
    (g := F0 m pc ls rest) rfl (by rw [hb]; exact d0) (Nat.le_refl _) (Nat.le_refl _)
  generalize hT1 : (T.setVm vm₁).pushCell { cls := cX, slots := kX.instanceTypes.map defaultValue, vm := .none } = T1 at X₁ st1
  have hcat : (Value.ref T.heap.size).category = 1 := rfl
  have hcellA : T1.heap[T.heap.size]? = some (freshCell cX kX) := by rw [← hT1]; exact State.heap_pushCell_size _ _
  have d3' : decode c.code (pc + 3) = .ok (.dup, 1) := by rw [hb]; exact d3
  have d4' : decode c.code (pc + 4) = .ok (.ldc is, 2) := by rw [hb]; exact d4
  have hstr' : vk_R own is text sa s' := vk_R.warm hW0 hstr
  obtain ⟨U, hsteps, hrun, hend, hW, hsame, ce, hce, hO⟩ := X₁.ctorThrowS hexec htr (own := own) (cls := cls) (names := names) (ic := ic) hown' hcls hnames h (fun x hx => nomatch hx) hfX hkX hcellA (by rw [hhp, hT]; exact Nat.le_refl _) (msg := .ref sa) rfl
    (g := { method := m, pc := pc + 6, locals := ls, stack := .ref sa :: .ref T.heap.size :: .ref T.heap.size :: rest, locked := none }) rfl hsize rfl rfl (rest := rest) rfl
    (by rw [hb]; exact d6) (by rw [hb]; exact d9) hout hRframes (by simp only [List.map_cons, List.sum_cons, hcat]; omega) hlocks
  obtain ⟨f1, f2⟩ := vx_frame hsame
  rw [hhp] at f1 f2
  have hWs : s.WarmedH U.vm := State.WarmedH.trans hW0 hW
  have hcl : s.vm.findClass cls = some ce.cls := by
    have h9 := hO.cls
    rw [hvm] at h9
    exact h9
  have hall : s.sameButNew ({ U with vm := s.vm } : State) locs mc ms := by
    subst hA
    obtain ⟨e1, e2⟩ := hsame
    rw [State.setFrames_setFrames] at e1
    have h2 : (T.setVm s.vm).sameButNew ({ U with vm := s.vm } : State) [] (0 + 1) (0 + 6) := ⟨e1, e2⟩
    have h3 := X.same.trans h2
    rw [List.append_nil] at h3
    exact h3.mono hc hs
  refine ⟨U, ?_, .threw T.heap.size, hrun, hend, Or.inr ⟨T.heap.size, rfl, cls, ce, locs, hx U hWs.alike f1 (fun q hq => f2 q hq (fun z hz => nomatch hz)), hce, hO.vm, hcl, hWs, hall, hf⟩⟩
  refine st1 _ ?_
  show Steps p.tables e below (T1.setTop { method := m, pc := pc + 3, locals := ls, stack := .ref T.heap.size :: rest, locked := none }) _
  jvm_step X₁.here [X₁.here.top, hexec, d3', Value.category]
  exact X₁.ldcString hexec (own := own) (text := text) (index := is) (a := sa) hown' hstr'.1 hstr'.2
    (g := { method := m, pc := pc + 4, locals := ls, stack := .ref T.heap.size :: .ref T.heap.size :: rest, locked := none }) rfl d4' _ hsteps
/-- 'throw new E("text")', the text by a wide index -/
theorem vx_throwSW {cc : ByteArray} {pc : Nat} (hexec : p.tables.exec = Jvm.exec) (hb : c.code = cc) (hl : l.stackTraces = false) {own cls text : String} {names : List String} {ik is ic mc ms sa : Nat} {A : Nat → Prop}
    (hown : s.vm.findClass own = some m.cls) (hcls : Bundle.fit cls = true) (hnames : ∀ n ∈ names, Bundle.fit n = true)
    (hk : (Cond.classLink own ik cls).before args s = true) (hini : (Cond.initialized cls).before args s = true) (hstr : vk_R own is text sa s) (hat : ∀ w ∈ vx_atS own ic cls names, w.before args s = true)
    (hgood : ∀ w ∈ Cond.classLink own ik cls :: Cond.initialized cls :: vx_atS own ic cls names, vx_ot w = true)
    (hU : vx_Zq Bundle.tN "UNASSIGNED_STACK" Bundle.steD A s s.heap) (hN : vx_Zq Bundle.tN "SUPPRESSED_SENTINEL" Bundle.listD A s s.heap) (hS : va_S A s.heap H locs) (hsize : ls.size = c.maxLocals)
    (d0 : decode cc pc = .ok (.new ik, 3)) (d3 : decode cc (pc + 3) = .ok (.dup, 1)) (d4 : decode cc (pc + 4) = .ok (.ldc_w is, 3)) (d7 : decode cc (pc + 7) = .ok (.invokespecial ic, 3)) (d10 : decode cc (pc + 10) = .ok (.athrow, 1))
    (hout : ∀ x ∈ c.exceptionTable.toList, covers x (pc + 10) = false)
    (hRframes : names.length + 3 < R.frames) (hRlocals : (rest.map fun v => v.category).sum + (13 * (names.length + 1) + 43) ≤ R.locals) (hRcells : cells + 1 ≤ R.cells) (hRslots : slots + 6 ≤ R.slots) (hlocks : meth.locks = false)
    (hx : ∀ t : State, s.vm.Alike t.vm → H.size ≤ t.heap.size → (∀ q : Nat, q < H.size → t.heap[q]? = H[q]?) → XC cls s t)
    (hf : ∀ z ∈ locs, free z.base) (hc : cells + 1 ≤ mc) (hs : slots + 6 ≤ ms) :
    W p l e R s m args below meth c H locs cells slots (vx_MQ below Qc XC args s mc ms free) (F0 m pc ls rest) := by
  intro T hT X
  have htr : e.platform.stackTraces = false := (show e.platform.stackTraces = l.stackTraces by rw [X.admits.platform]).trans hl
  have Y := vx_rebase X (R' := { frames := R.frames, locals := R.locals, cells := 1, slots := 6 }) (Nat.le_refl _) (Nat.le_refl _) hRcells hRslots
  obtain ⟨s', hA⟩ : ∃ z, z = (T.setVm s.vm).setFrames (.invoking m args :: below) := ⟨_, rfl⟩
  rw [← hA] at Y
  have hvm : s'.vm = s.vm := by rw [hA]; rfl
  have hhp : s'.heap = H := by rw [hA]; exact hT
  have hW0 : s.WarmedH s'.vm := by rw [hvm]; exact State.WarmedH.refl s
  have hat' : ∀ w ∈ vx_atS own ic cls names, w.before args s' = true := fun w hw => vx_ot_at hW0 hvm.symm (hgood w (List.mem_cons_of_mem _ (List.mem_cons_of_mem _ hw))) (hat w hw)
  have hk' : (Cond.classLink own ik cls).before args s' = true := vx_ot_at hW0 hvm.symm (hgood _ List.mem_cons_self) hk
  have hini' : (Cond.initialized cls).before args s' = true := vx_ot_at hW0 hvm.symm (hgood _ (List.mem_cons_of_mem _ List.mem_cons_self)) hini
  have hU' : vx_Zq Bundle.tN "UNASSIGNED_STACK" Bundle.steD A s' s'.heap := by rw [hhp]; exact vx_Zq.moved hW0.alike (hU.kept hS.2.1)
  have hN' : vx_Zq Bundle.tN "SUPPRESSED_SENTINEL" Bundle.listD A s' s'.heap := by rw [hhp]; exact vx_Zq.moved hW0.alike (hN.kept hS.2.1)
  have h : ∀ w ∈ Bundle.ownAtoms own ic cls names, w.before args s' = true := vx_own hat' (vx_isRefq hU'.1) (vx_isRefq hN'.1) hU'.2.word hN'.2.word
  have hown' : s'.vm.findClass own = some m.cls := by rw [hvm]; exact hown
  have hins : (Cond.instantiable cls 6).before args s' = true := h _ (by simp [Bundle.ownAtoms])
  obtain ⟨vm₁, cX, kX, hfX, hkX, -, -, X₁, st1⟩ := Y.newCold hexec (own := own) (C := cls) (index := ik) (n := 6) hown' hk' hins hini'
    (g := F0 m pc ls rest) rfl (by rw [hb]; exact d0) (Nat.le_refl _) (Nat.le_refl _)
  generalize hT1 : (T.setVm vm₁).pushCell { cls := cX, slots := kX.instanceTypes.map defaultValue, vm := .none } = T1 at X₁ st1
  have hcat : (Value.ref T.heap.size).category = 1 := rfl
  have hcellA : T1.heap[T.heap.size]? = some (freshCell cX kX) := by rw [← hT1]; exact State.heap_pushCell_size _ _
  have d3' : decode c.code (pc + 3) = .ok (.dup, 1) := by rw [hb]; exact d3
  have d4' : decode c.code (pc + 4) = .ok (.ldc_w is, 3) := by rw [hb]; exact d4
  have hstr' : vk_R own is text sa s' := vk_R.warm hW0 hstr
  obtain ⟨U, hsteps, hrun, hend, hW, hsame, ce, hce, hO⟩ := X₁.ctorThrowS hexec htr (own := own) (cls := cls) (names := names) (ic := ic) hown' hcls hnames h (fun x hx => nomatch hx) hfX hkX hcellA (by rw [hhp, hT]; exact Nat.le_refl _) (msg := .ref sa) rfl
    (g := { method := m, pc := pc + 7, locals := ls, stack := .ref sa :: .ref T.heap.size :: .ref T.heap.size :: rest, locked := none }) rfl hsize rfl rfl (rest := rest) rfl
    (by rw [hb]; exact d7) (by rw [hb]; exact d10) hout hRframes (by simp only [List.map_cons, List.sum_cons, hcat]; omega) hlocks
  obtain ⟨f1, f2⟩ := vx_frame hsame
  rw [hhp] at f1 f2
  have hWs : s.WarmedH U.vm := State.WarmedH.trans hW0 hW
  have hcl : s.vm.findClass cls = some ce.cls := by
    have h9 := hO.cls
    rw [hvm] at h9
    exact h9
  have hall : s.sameButNew ({ U with vm := s.vm } : State) locs mc ms := by
    subst hA
    obtain ⟨e1, e2⟩ := hsame
    rw [State.setFrames_setFrames] at e1
    have h2 : (T.setVm s.vm).sameButNew ({ U with vm := s.vm } : State) [] (0 + 1) (0 + 6) := ⟨e1, e2⟩
    have h3 := X.same.trans h2
    rw [List.append_nil] at h3
    exact h3.mono hc hs
  refine ⟨U, ?_, .threw T.heap.size, hrun, hend, Or.inr ⟨T.heap.size, rfl, cls, ce, locs, hx U hWs.alike f1 (fun q hq => f2 q hq (fun z hz => nomatch hz)), hce, hO.vm, hcl, hWs, hall, hf⟩⟩
  refine st1 _ ?_
  show Steps p.tables e below (T1.setTop { method := m, pc := pc + 3, locals := ls, stack := .ref T.heap.size :: rest, locked := none }) _
  jvm_step X₁.here [X₁.here.top, hexec, d3', Value.category]
  exact X₁.ldcStringW hexec (own := own) (text := text) (index := is) (a := sa) hown' hstr'.1 hstr'.2
    (g := { method := m, pc := pc + 4, locals := ls, stack := .ref T.heap.size :: .ref T.heap.size :: rest, locked := none }) rfl d4' _ hsteps
end Ends
section Bodies
variable {l : Launch}
theorem vx_ofW {y : MethodName} {ws ws' : List Cond} {rm : Room} {Pc : Array Value → State → Prop} {Qc : Array Value → State → Outcome → State → Prop} {XC : String → State → State → Prop} {mc ms : Nat} {free : Addr → Prop} {cc : ByteArray} {maxL : Nat} {ret : Option FieldType}
    (hy : plainName y.cls = true) (hw : ws = Cond.code y cc maxL ret :: ws')
    (body : ∀ p e s m args below meth c s₁, BodyLoose p l y (headSpec ws rm) cc maxL ret e s m args below meth c s₁ → c.maxLocals = maxL → (∀ x ∈ c.exceptionTable.toList, False) → Pc args s →
      W p l e (headSpec ws rm).room s m args below meth c s.heap [] 0 0 (vx_MQ below Qc XC args s mc ms free) (entryFrame m args maxL)) : vx_Met l y ws rm Pc Qc XC mc ms free := by
  refine MetFree.of_bodyS (code := cc) (maxLocals := maxL) (ret := ret) hy ?_ ?_
  · intro args s m h hn
    obtain ⟨meth, c, h1, h2, h3, h4, h5, h6, -, -⟩ := Cond.code_spec hn (atoms_spec (ws := ws) h _ (by rw [hw]; exact List.mem_cons_self))
    exact ⟨meth, c, h1, h2, h3, h4, h5, h6⟩
  · intro p e s m args below meth c s₁ B hml hP _
    have hh0 : s₁.heap = s.heap := by rw [B.state]; rfl
    have ht : ∀ x ∈ c.exceptionTable.toList, False := by
      obtain ⟨meth9, c9, h1, h2, -, -, -, -, h7, -⟩ := Cond.code_spec B.named (atoms_spec (ws := ws) B.pre _ (by rw [hw]; exact List.mem_cons_self))
      cases Option.some.inj (h1.symm.trans B.method)
      cases Option.some.inj (h2.symm.trans (Stand.of_body B).code)
      intro x hx
      rw [Array.isEmpty_iff.mp h7] at hx
      cases hx
    obtain ⟨t, a1, o, b1, b2, b3⟩ := body p e s m args below meth c s₁ B hml ht hP s₁ hh0 (Stand.of_body B)
    exact ⟨t, o, a1, b1, b2, b3⟩
/-- the table of a body with handlers -/
theorem vx_table {p : Program} {x y : MethodName} {S : Spec} {cc bytes : ByteArray} {maxL maxL' : Nat} {ret ret' : Option FieldType} {e : Env} {s s₁ : State} {m : MethodId} {args : Array Value} {below : List Frame} {meth : Method} {c : Code} {hh : List (Nat × Nat × Nat × Nat)}
    (B : BodyLoose p l y S cc maxL ret e s m args below meth c s₁) (h : (Cond.codeWith y bytes maxL' ret' hh).before args s = true) : c.exceptionTable.toList = tableOf hh := by
  obtain ⟨m9, meth9, c9, hn9, h1, h2, -, -, h6, -⟩ := Cond.codeWith_spec h
  cases Option.some.inj (hn9.symm.trans B.named)
  cases Option.some.inj (h1.symm.trans B.method)
  cases Option.some.inj (h2.symm.trans (Stand.of_body B).code)
  rw [← h6, table_eq]
end Bodies
end VXA
/-! ===== END ===== -/
/-! ===== BEGIN a static call of a method with an exception table ===== -/
section VXS
variable {p : Program} {l : Launch} {e : Env} {R : Room} {s : State} {m : MethodId} {args : Array Value} {below : List Frame} {meth : Method} {c : Code} {T : State} {H : Heap} {locs : List Loc} {cells slots : Nat}
abbrev vx_CSW (R : Room) (s : State) (args : Array Value) (own : String) (index : Nat) (y : MethodName) (bytes : ByteArray) (maxL : Nat) (ret : Option FieldType) (hh : List (Nat × Nat × Nat × Nat)) (ws : List Cond) (rm : Room) (mc ms n : Nat) : Prop :=
  (rm.cells = mc ∧ rm.slots = ms ∧ rm.frames + 1 ≤ R.frames ∧ 8 + (maxL + 11) + rm.locals ≤ R.locals ∧ (∀ w ∈ ws, ∀ (a' : Array Value) (U : State), s.WarmedH U.vm → w.before a' U = true) ∧ Cond.codeWith y bytes maxL ret hh ∈ ws) ∧
  (Cond.codeWith y bytes maxL ret hh).before args s = true ∧ (Cond.initialized y.cls).before args s = true ∧ (y.cls ≠ "java/lang/invoke/MethodHandle" ∧ y.cls ≠ "java/lang/invoke/VarHandle") ∧
  (∀ sig, parseMethodDescriptor y.desc = some sig → n = sig.parameters.length) ∧ (Cond.methodLink own index y).before args s = true ∧ (Cond.static y).before args s = true
theorem vx_cwSW {own : String} {index maxL mc ms : Nat} {y : MethodName} {bytes : ByteArray} {ret : Option FieldType} {hh : List (Nat × Nat × Nat × Nat)} {Ts ws ws' : List Cond} {rm : Room} (n : Nat) (ht : ∀ w ∈ Ts, w.before args s = true) (hT : GoodIn Ts (va_wsS own index y ws)) (hw : ws = Cond.codeWith y bytes maxL ret hh :: ws') (hrc : rm.cells = mc) (hrs : rm.slots = ms)
    (hd : y.cls ≠ "java/lang/invoke/MethodHandle" ∧ y.cls ≠ "java/lang/invoke/VarHandle" ∧ (parseMethodDescriptor y.desc).map (fun d => d.parameters.length) = some n) (hR : rm.frames + 1 ≤ R.frames ∧ 8 + (maxL + 11) + rm.locals ≤ R.locals) :
    vx_CSW R s args own index y bytes maxL ret hh ws rm mc ms n := by
  have ok : ∀ w ∈ va_wsS own index y ws, w.before args s = true := fun w h => ht w (hT w h).1
  have hG : GoodIn Ts ws := fun w h => hT w (by unfold va_wsS; exact List.mem_append_right _ h)
  have hc : Cond.codeWith y bytes maxL ret hh ∈ ws := by rw [hw]; exact List.mem_cons_self
  refine ⟨⟨hrc, hrs, hR.1, hR.2, pay_in ht hG, hc⟩, ht _ (hG _ hc).1, ok _ (by simp [va_wsS]), ⟨hd.1, hd.2.1⟩, fun sig h => ?_, ok _ (by simp [va_wsS]), ok _ (by simp [va_wsS])⟩
  have h2 := hd.2.2
  rw [h] at h2
  exact (Option.some.inj h2).symm
theorem vx_callSW (X : Stand p l e R s m args below meth c T locs cells slots) (hexec : p.tables.exec = Jvm.exec) {own : String} {index : Nat} {y : MethodName} {bytes : ByteArray} {maxL : Nat} {ret : Option FieldType} {hh : List (Nat × Nat × Nat × Nat)}
    (hown : s.vm.findClass own = some m.cls) (hlink : (Cond.methodLink own index y).before args s = true) (hstat : (Cond.static y).before args s = true) (hinit : (Cond.initialized y.cls).before args s = true)
    (hcode : (Cond.codeWith y bytes maxL ret hh).before args s = true) (hy : y.cls ≠ "java/lang/invoke/MethodHandle" ∧ y.cls ≠ "java/lang/invoke/VarHandle")
    {W9 : Nat} {Pre : Pt → Array Value → Prop} {Post : Pt → Array Value → Option Value → Pt → Prop} (hK : Back l R p e below s args y 3 W9 Pre Post)
    {g : JFrame} (hg : g.method = m) (hsize : g.locals.size = c.maxLocals) {argsL rest : List Value} (hlen : ∀ sig, parseMethodDescriptor y.desc = some sig → argsL.length = sig.parameters.length)
    (hstack : g.stack = argsL.reverse ++ rest) (hW : 2 * g.monitorRoom + (rest.map fun v => v.category).sum ≤ W9) (hdg : decode c.code g.pc = .ok (.invokestatic index, 3))
    (hpre : ∀ vm₁, s.WarmedH vm₁ → Pre ⟨T.setVm vm₁, locs, cells, slots⟩ argsL.toArray) :
    ∃ (v : Option Value) (vm₁ : Vm) (B : Pt), s.WarmedH vm₁ ∧ Stand p l e R s m args below meth c B.U B.locs B.cells B.slots ∧ Post ⟨T.setVm vm₁, locs, cells, slots⟩ argsL.toArray v B ∧
      ∀ target, Steps p.tables e below (B.U.setTop { g with pc := g.pc + 3, stack := v.toList ++ rest }) target → Steps p.tables e below (T.setTop g) target := by
  obtain ⟨mk, methM, cM, hnamed, hmethM, -, -, -, -, -, -, hsigM⟩ := Cond.codeWith_spec hcode
  have hstatic : methM.isStatic = true := Cond.static_spec hnamed hmethM hstat
  obtain ⟨kP, hkP, -⟩ := className_of_methodNamed hnamed
  have hinitP : kP.init = .initialized := Cond.initialized_spec (findClass_of_methodNamed hnamed) hkP hinit
  obtain ⟨vm₁, X₁, hstep₁⟩ := X.invokestatic hexec hown hlink hnamed hmethM hstatic hkP hinitP hy (g := g) hg (argsL := argsL) (rest := rest) (hlen _ hsigM) hstack hdg
  obtain ⟨v, B, X', hpost, hsteps⟩ := hK m meth c ⟨T.setVm vm₁, locs, cells, slots⟩ { g with stack := rest } (.invokestatic index) mk argsL.toArray X₁ hg hsize hdg hW (X₁.named hnamed) (hpre vm₁ X₁.warmed)
  exact ⟨v, vm₁, B, X₁.warmed, X', hpost, fun target h => hstep₁ _ fun acts => by rw [doInvoke_state]; exact hsteps.trans h⟩
theorem vx_runSW {y : MethodName} {bytes cc : ByteArray} {maxL nL mc ms n index : Nat} {ret : Option FieldType} {hh : List (Nat × Nat × Nat × Nat)} {ws : List Cond} {rm : Room} {Pc : Array Value → State → Prop} {Qc : Array Value → State → Outcome → State → Prop} {free : Addr → Prop} {Ts : List Cond} {own : String} {As rest : List Value} {g : JFrame}
    (S : CallFix p m c cc nL s args Ts own) (hM : Met l y ws rm Pc Qc mc ms free) (cw : vx_CSW R s args own index y bytes maxL ret hh ws rm mc ms n) (hp : PreS s H Pc As)
    (hg : g.method = m) (hn : As.length = n) (hsize : g.locals.size = nL) (hstack : g.stack = As.reverse ++ rest) (hW : 2 * g.monitorRoom + (rest.map fun v => v.category).sum ≤ 8) (hdg : decode cc g.pc = .ok (.invokestatic index, 3)) (hf : cells + mc ≤ R.cells ∧ slots + ms ≤ R.slots) :
    va_Run p l e R s m args below meth c H locs cells slots mc ms g rest (Qc As.toArray) (free) := by
  obtain ⟨⟨hrc, hrs, hfr, hlo, hws, hcw⟩, hcode, hini, hy, hlen, hl, hstt⟩ := cw
  have hK : Back l R p e below s args y 3 8 (PreOf R mc ms Pc) (PostOf Qc mc ms free) := va_backW (hh := hh) (bytes := bytes) (maxL := maxL) (ret := ret) hM hp.1 hrc hrs hfr hlo hws hcw (fun a' U hW => word_at hW (Or.inl (by first | rfl | simp [Cond.onTables, Cond.keeps, Cond.steady])) hini)
  obtain ⟨hx, hb, hml, ho, -⟩ := S
  intro T hT X
  obtain ⟨v, vm₁, ⟨U', l2, c2, s2⟩, hW₁, X', ⟨g', mk, t, L, e1, e2, hq, h1, hL, h2, h3⟩, st⟩ := vx_callSW X hx (hh := hh) (bytes := bytes) (maxL := maxL) (ret := ret) ho hl hstt hini hcode hy hK hg (hsize.trans hml.symm) (argsL := As) (rest := rest) (fun sig h => hn.trans (hlen sig h)) hstack hW (by rw [hb]; exact hdg)
    (fun vm₁ hW₁ => ⟨hf.1, hf.2, hp.2 (T.setVm vm₁) hT hW₁⟩)
  dsimp only [Pt.U, Pt.locs, Pt.cells, Pt.slots] at X' e1 e2 h1 h2 h3 st
  subst h1; subst h2; subst h3
  exact ⟨v, (T.setVm vm₁).calling g' mk As.toArray, t, U', L, hT, X', hL, e1, e2, hq, st⟩
/-- not caught here, past rows that name other classes: it goes on to the caller -/
theorem vx_outP {p : Program} {l : Launch} {e : Env} {R : Room} {s : State} {m : MethodId} {args : Array Value} {below : List Frame} {meth : Method} {c : Code} {H : Heap} {locs : List Loc} {cells slots : Nat} {free : Addr → Prop} {ls : Array Slot} {rest : List Value} {Qc : Array Value → State → Outcome → State → Prop} {XC : String → State → State → Prop}
    {pc : Nat} {own E : String} {ce : Cell} {q : Addr} {mc ms : Nat} (hown : s.vm.findClass own = some m.cls) (hlocks : meth.locks = false)
    (hpass : ∀ z ∈ c.exceptionTable.toList, covers z pc = false ∨ (z.catchType ≠ 0 ∧ ∃ nm : String, (Cond.classLink own z.catchType nm).before args s = true ∧ va_Nc E nm s)) (hcell : H[q]? = some ce) (hv : ce.vm = .none) (hcl : s.vm.findClass E = some ce.cls)
    (hx : ∀ t : State, t.heap = H → s.vm.Alike t.vm → XC E s t) (hf : ∀ z ∈ locs, free z.base) (hc : cells ≤ mc) (hs : slots ≤ ms) :
    vx_W p l e R s m args below meth c H locs cells slots (vx_MQ below Qc XC args s mc ms free) (F0 m pc ls rest) q := by
  intro T hT X
  have hpl : e.platform.magicAccessors = ({} : Platform).magicAccessors := by rw [X.admits.platform]
  obtain ⟨vm', hW', X', st⟩ := X.outThrough hlocks q (g := F0 m pc ls rest) rfl rfl rfl (cell := ce) (by rw [hT]; exact hcell) (by rw [hv]; rfl)
    (by obtain ⟨k9, h9, -⟩ := Vm.findClass_spec hcl; exact ⟨k9, h9⟩) (fun z hz => by
      rcases hpass z hz with h | ⟨hz0, nm, hl1, hn1⟩
      · exact Or.inl h
      · obtain ⟨c6, hc6, hcl6⟩ := Cond.classLink_spec hown hl1 e.platform hpl
        obtain ⟨a8, b8, h1, h2, h3⟩ := hn1
        cases Option.some.inj (h1.symm.trans hcl)
        cases Option.some.inj (h2.symm.trans hc6)
        exact Or.inr ⟨hz0, _, hcl6, h3⟩)
  obtain ⟨g₀, hfr⟩ := X'.frames_eq
  have hcell9 : ((T.setVm vm').setFrames (.throwing q :: below)).heap[q]? = some ce := by
    show T.heap[q]? = some ce
    rw [hT]; exact hcell
  have hend : Ended ((T.setVm vm').setFrames (.throwing q :: below)) below (.threw q) := State.frames_setFrames _ (State.cur_lt_of_frames hfr)
  refine ⟨(T.setVm vm').setFrames (.throwing q :: below), ?_, .threw q, X'.here.running, hend, Or.inr ⟨q, rfl, E, ce, locs, hx _ hT (X'.ends _).1.alike, hcell9, hv, hcl, (X'.ends _).1, (X'.ends _).2.mono hc hs, hf⟩⟩
  rw [X.pushThrowing_eq]
  exact st
/-- a thing of a world lies in the heap -/
theorem vx_lt {D : va_G} {cl : List vw_C} {ws : va_W} {H1 : Heap} (h : va_P D cl ws H1) {k : Nat} {q : Nat × va_E} (hk : ws[k]? = some q) : q.1 < H1.size := (h k q hk).lt
end VXS
/-! ===== END ===== -/
/-! ===== BEGIN methods with a table of their own: called by a name, returning or throwing ===== -/
section VXH
/-! vx_backW, vx_callVX, vx_callSX, vx_callVW, vx_runVW, vx_runVX, vx_runSX, vx_ofWH follow the same proofs as their sisters above (Free/Laws.lean, Shelf42/LK1.lean); vx_outP calls Shelf42/NT130.lean (outThrough). -/
section
variable {l : Launch} {R : Room} {p : Program} {e : Env} {below : List Frame} {s : State} {sargs : Array Value} {y : MethodName} {len W9 : Nat}
theorem vx_backW {ws : List Cond} {rm : Room} {Pc : Array Value → State → Prop} {Qc : Array Value → State → Outcome → State → Prop} {XC : String → State → State → Prop} {mc ms : Nat} {free : Addr → Prop} {bytes : ByteArray} {maxL : Nat} {ret : Option FieldType} {hh : List (Nat × Nat × Nat × Nat)}
    (hM : vx_Met l y ws rm Pc Qc XC mc ms free) (hblind : FrameBlind Pc) (hrc : rm.cells = mc) (hrs : rm.slots = ms)
    (hframes : rm.frames + 1 ≤ R.frames) (hlocals : W9 + (maxL + 11) + rm.locals ≤ R.locals)
    (hws : ∀ w ∈ ws, ∀ a' U, s.WarmedH U.vm → w.before a' U = true) (hcode : Cond.codeWith y bytes maxL ret hh ∈ ws) (hinit : ∀ a' U, s.WarmedH U.vm → (Cond.initialized y.cls).before a' U = true) :
    vx_Back l R p e below s sargs y len W9 (PreOf R mc ms Pc) (PostOf Qc mc ms free) (vx_Post XC mc ms free) := by
  intro m meth c A g ig mk a X hg hsize hdg hW hn hp
  have h1 : (headSpec ws rm).pre.before a A.U = true := atoms_intro fun w hw => hws w hw _ _ X.warmed
  have h2 : (Cond.codeWith y bytes maxL ret hh).before a A.U = true := hws _ hcode _ _ X.warmed
  have h3 : (Cond.initialized y.cls).before a A.U = true := hinit _ _ X.warmed
  have h4 : A.cells + (headSpec ws rm).room.cells ≤ R.cells := by rw [show (headSpec ws rm).room.cells = mc from hrc]; exact hp.1
  have h5 : A.slots + (headSpec ws rm).room.slots ≤ R.slots := by rw [show (headSpec ws rm).room.slots = ms from hrs]; exact hp.2.1
  have hPc : Pc a (A.U.calling g mk a) := hblind _ _ _ _ hp.2.2
  obtain ⟨U, Ls, c0, s0⟩ := A
  dsimp only [Pt.U, Pt.locs, Pt.cells, Pt.slots] at h1 h2 h3 h4 h5 X hn hPc ⊢
  obtain ⟨m9, methY, cY, hn9, hmY, hcY, -, hlY, -⟩ := Cond.codeWith_spec h2
  cases Option.some.inj (hn9.symm.trans hn)
  obtain ⟨kY, hkY, -⟩ := className_of_methodNamed hn
  have hinitY : kY.init = .initialized := Cond.initialized_spec (findClass_of_methodNamed hn) hkY h3
  have h : At U g.method c below := by rw [hg]; exact X.here
  have hlocals9 : W9 + (maxL + 11) + (headSpec ws rm).room.locals ≤ R.locals := hlocals
  have happ : (headSpec ws rm).appliesLoose y e.platform (U.calling g mk a) = true :=
    Spec.appliesLoose_calling (g := g) h hdg hn hkY hinitY
      (X.room_calling (g := g) (R' := (headSpec ws rm).room) hsize hmY hcY hframes (by rw [hlY]; omega) h4 h5) h1
  obtain ⟨mid, hmid⟩ := h.above
  have hfr : (U.setTop g).frames = (.java g :: mid) ++ below := by rw [State.frames_setTop' g h.top, hmid]; rfl
  obtain ⟨o, s₂, hsteps, -, hend, hq⟩ := Steps.callFree hM p X.admits X.cas X.clock (acts := []) hfr happ hPc trivial
  have hq' : vx_Q Qc XC mc ms free a (U.calling g mk a) o s₂ := hq
  rw [State.frames_setTop' g h.top] at hend
  obtain ⟨g₀, hg0⟩ := Option.isSome_iff_exists.mp h.top
  obtain ⟨r, hr⟩ := State.topJava?_eq_some.mp hg0
  have hr' : (({ U with heap := s₂.heap, slotsUsed := s₂.slotsUsed } : State).setVm s₂.vm).frames = .java g₀ :: r := hr
  rcases hq' with ⟨hqc, L, hfe, hL⟩ | ⟨q, rfl, E, ce, L, hx, hce, hcv, hcl, hW₂, hsm, hL⟩
  · obtain ⟨⟨v, rfl⟩, hW₂, e2, q2, q3, q4, q5, q6⟩ := id hfe
    have e3 : s₂ = ({ (U.calling g mk a).setFrames s₂.frames with heap := s₂.heap, slotsUsed := s₂.slotsUsed } : State).setVm s₂.vm := by
      have : s₂ = ({ s₂ with vm := (U.calling g mk a).vm } : State).setVm s₂.vm := rfl
      rw [e2] at this
      exact this
    obtain ⟨c₂, i₂, len₂, hc₂, hd₂, hf₂⟩ := hend
    have hW' : U.WarmedH s₂.vm := hW₂
    have hcc : c₂ = c := by
      have h1 : s₂.code? g.method = U.code? g.method := by
        rw [State.code?_eq, State.code?_eq, hW'.alike.method?]
      exact Option.some.inj (hc₂.symm.trans (h1.trans h.code))
    subst hcc
    have hlen : len₂ = len := by rw [hdg] at hd₂; cases hd₂; rfl
    subst hlen
    have hs₂ : s₂ = (({ U with heap := s₂.heap, slotsUsed := s₂.slotsUsed } : State).setVm s₂.vm).setTop { g with pc := g.pc + len₂, stack := v.toList ++ g.stack } := by
      refine e3.trans ?_
      rw [hf₂, State.calling_eq h.top, State.setFrames_setFrames, State.setTop_of_frames _ hr', hr]
      rfl
    have hsame : U.sameButNew ({ U with heap := s₂.heap, slotsUsed := s₂.slotsUsed } : State) L mc ms := by
      refine ⟨?_, q2, q3, q4, q5, q6⟩
      obtain ⟨t, ht, -⟩ := State.frames_cons hr
      show ({ U with heap := s₂.heap, slotsUsed := s₂.slotsUsed } : State) = { U.setFrames U.frames with heap := s₂.heap, slotsUsed := s₂.slotsUsed }
      rw [State.setFrames_self ht]
    subst hg
    refine Or.inl ⟨v, ⟨(({ U with heap := s₂.heap, slotsUsed := s₂.slotsUsed } : State).setVm s₂.vm), Ls ++ L, c0 + mc, s0 + ms⟩,
      ⟨X.admits, X.cas, X.clock, X.frames, X.room, X.hears, X.method, X.code, (X.here.setHeapUsed s₂.heap s₂.slotsUsed).setVm hW'.alike, X.tail, State.WarmedH.trans X.warmed hW', X.limits, X.bytes, X.same.trans (hsame.setVm s.vm)⟩,
      ⟨g, mk, s₂, L, rfl, rfl, hqc, rfl, hL, rfl, rfl⟩, ?_⟩
    show Steps p.tables e below _ ((({ U with heap := s₂.heap, slotsUsed := s₂.slotsUsed } : State).setVm s₂.vm).setTop { g with pc := g.pc + len₂, stack := v.toList ++ g.stack })
    rw [← hs₂]
    exact hsteps
  · obtain ⟨e2, q2, q3, q4, q5, q6⟩ := id hsm
    have e3 : s₂ = ({ (U.calling g mk a).setFrames s₂.frames with heap := s₂.heap, slotsUsed := s₂.slotsUsed } : State).setVm s₂.vm := by
      have : s₂ = ({ s₂ with vm := (U.calling g mk a).vm } : State).setVm s₂.vm := rfl
      rw [e2] at this
      exact this
    have hf₂ : s₂.frames = .throwing q :: .java g :: U.frames.tail := hend
    have hW' : U.WarmedH s₂.vm := hW₂
    have hs₂ : s₂ = ((({ U with heap := s₂.heap, slotsUsed := s₂.slotsUsed } : State).setVm s₂.vm).setTop g).pushFrame (.throwing q) := by
      refine e3.trans ?_
      rw [hf₂, State.calling_eq h.top, State.setFrames_setFrames, State.pushFrame, State.frames_setTop _ hr', State.setTop_of_frames _ hr', State.setFrames_setFrames, hr]
      rfl
    have hsame : U.sameButNew ({ U with heap := s₂.heap, slotsUsed := s₂.slotsUsed } : State) L mc ms := by
      refine ⟨?_, q2, q3, q4, q5, q6⟩
      obtain ⟨t, ht, -⟩ := State.frames_cons hr
      show ({ U with heap := s₂.heap, slotsUsed := s₂.slotsUsed } : State) = { U.setFrames U.frames with heap := s₂.heap, slotsUsed := s₂.slotsUsed }
      rw [State.setFrames_self ht]
    subst hg
    refine Or.inr ⟨q, ⟨(({ U with heap := s₂.heap, slotsUsed := s₂.slotsUsed } : State).setVm s₂.vm), Ls ++ L, c0 + mc, s0 + ms⟩,
      ⟨X.admits, X.cas, X.clock, X.frames, X.room, X.hears, X.method, X.code, (X.here.setHeapUsed s₂.heap s₂.slotsUsed).setVm hW'.alike, X.tail, State.WarmedH.trans X.warmed hW', X.limits, X.bytes, X.same.trans (hsame.setVm s.vm)⟩,
      ⟨g, mk, s₂, L, E, ce, rfl, rfl, hx, hce, hcv, hcl, rfl, hL, rfl, rfl⟩, ?_⟩
    show Steps p.tables e below _ (((({ U with heap := s₂.heap, slotsUsed := s₂.slotsUsed } : State).setVm s₂.vm).setTop g).pushFrame (.throwing q))
    rw [← hs₂]
    exact hsteps
end
variable {p : Program} {l : Launch} {e : Env} {R : Room} {s : State} {m : MethodId} {args : Array Value} {below : List Frame} {meth : Method} {c : Code} {T : State} {H : Heap} {locs : List Loc} {cells slots : Nat}
theorem vx_callVX (X : Stand p l e R s m args below meth c T locs cells slots) (hexec : p.tables.exec = Jvm.exec) {own C : String} {index : Nat} {y : MethodName} {bytes : ByteArray} {maxL : Nat} {ret : Option FieldType} {hh : List (Nat × Nat × Nat × Nat)}
    (hown : s.vm.findClass own = some m.cls) (hlink : (Cond.methodLink own index y).before args s = true) (hinst : (Cond.instanceMethod y).before args s = true) (hsel : (Cond.selects C y y).before args s = true)
    (hcode : (Cond.codeWith y bytes maxL ret hh).before args s = true) (hy : y.cls ≠ "java/lang/invoke/MethodHandle" ∧ y.cls ≠ "java/lang/invoke/VarHandle")
    {W9 : Nat} {Pre : Pt → Array Value → Prop} {Post : Pt → Array Value → Option Value → Pt → Prop} {PostX : Pt → Array Value → Addr → Pt → Prop} (hK : vx_Back l R p e below s args y 3 W9 Pre Post PostX)
    {b : Addr} {cellB : Cell} (hcell : T.heap[b]? = some cellB) (hobj : cellB.vm.isStatics = false) (hcls : s.vm.findClass C = some cellB.cls)
    {g : JFrame} (hg : g.method = m) (hsize : g.locals.size = c.maxLocals) {argsL rest : List Value} (hlen : ∀ sig, parseMethodDescriptor y.desc = some sig → argsL.length = sig.parameters.length)
    (hstack : g.stack = argsL.reverse ++ .ref b :: rest) (hW : 2 * g.monitorRoom + (rest.map fun v => v.category).sum ≤ W9) (hdg : decode c.code g.pc = .ok (.invokevirtual index, 3))
    (hpre : ∀ vm₁, s.WarmedH vm₁ → Pre ⟨T.setVm vm₁, locs, cells, slots⟩ (Value.ref b :: argsL).toArray) :
    (∃ (v : Option Value) (vm₁ : Vm) (B : Pt), s.WarmedH vm₁ ∧ Stand p l e R s m args below meth c B.U B.locs B.cells B.slots ∧ Post ⟨T.setVm vm₁, locs, cells, slots⟩ (Value.ref b :: argsL).toArray v B ∧
      ∀ target, Steps p.tables e below (B.U.setTop { g with pc := g.pc + 3, stack := v.toList ++ rest }) target → Steps p.tables e below (T.setTop g) target) ∨
    (∃ (q : Addr) (vm₁ : Vm) (B : Pt), s.WarmedH vm₁ ∧ Stand p l e R s m args below meth c B.U B.locs B.cells B.slots ∧ PostX ⟨T.setVm vm₁, locs, cells, slots⟩ (Value.ref b :: argsL).toArray q B ∧
      Steps p.tables e below (T.setTop g) ((B.U.setTop { g with stack := rest }).pushFrame (.throwing q))) := by
  obtain ⟨mk, methM, hnamed, hmethM, hstM, habM⟩ := Cond.instanceMethod_spec hinst
  obtain ⟨m8, methM', cM, hn8, hmethM', -, -, -, -, -, -, hsigM⟩ := Cond.codeWith_spec hcode
  cases Option.some.inj (hn8.symm.trans hnamed)
  cases hmethM.symm.trans hmethM'
  obtain ⟨c2, r2, m2, q1, q2, q3, q4, kP, hkP, hkPi⟩ := Cond.selects_spec hsel
  cases hcls.symm.trans q1
  cases (State.methodFound?_of_named hnamed hy).symm.trans q2
  cases hnamed.symm.trans q3
  have hselP : selectMethod e.platform s.vm cellB.cls mk = .method mk := by rw [Launch.admits_selectMethod X.admits]; exact q4
  obtain ⟨vm₁, X₁, hstep₁⟩ := X.invokevirtual hexec hown hlink hnamed hmethM hstM hkP hkPi hy (a := b) (cell := cellB) hcell
    (fun z h => by rw [h] at hobj; cases hobj) hselP hmethM habM hkP hkPi (g := g) hg (argsL := argsL) (rest := rest) (hlen _ hsigM) hstack hdg
  rcases hK m meth c ⟨T.setVm vm₁, locs, cells, slots⟩ { g with stack := rest } (.invokevirtual index) mk (Value.ref b :: argsL).toArray X₁ hg hsize hdg hW (X₁.named hnamed) (hpre vm₁ X₁.warmed) with ⟨v, B, X', hpost, hsteps⟩ | ⟨q, B, X', hpost, hsteps⟩
  · exact Or.inl ⟨v, vm₁, B, X₁.warmed, X', hpost, fun target h => hstep₁ _ fun acts => by rw [doInvoke_state]; exact hsteps.trans h⟩
  · exact Or.inr ⟨q, vm₁, B, X₁.warmed, X', hpost, hstep₁ _ fun acts => by rw [doInvoke_state]; exact hsteps⟩
theorem vx_callSX (X : Stand p l e R s m args below meth c T locs cells slots) (hexec : p.tables.exec = Jvm.exec) {own : String} {index : Nat} {y : MethodName} {bytes : ByteArray} {maxL : Nat} {ret : Option FieldType} {hh : List (Nat × Nat × Nat × Nat)}
    (hown : s.vm.findClass own = some m.cls) (hlink : (Cond.methodLink own index y).before args s = true) (hstat : (Cond.static y).before args s = true) (hinit : (Cond.initialized y.cls).before args s = true)
    (hcode : (Cond.codeWith y bytes maxL ret hh).before args s = true) (hy : y.cls ≠ "java/lang/invoke/MethodHandle" ∧ y.cls ≠ "java/lang/invoke/VarHandle")
    {W9 : Nat} {Pre : Pt → Array Value → Prop} {Post : Pt → Array Value → Option Value → Pt → Prop} {PostX : Pt → Array Value → Addr → Pt → Prop} (hK : vx_Back l R p e below s args y 3 W9 Pre Post PostX)
    {g : JFrame} (hg : g.method = m) (hsize : g.locals.size = c.maxLocals) {argsL rest : List Value} (hlen : ∀ sig, parseMethodDescriptor y.desc = some sig → argsL.length = sig.parameters.length)
    (hstack : g.stack = argsL.reverse ++ rest) (hW : 2 * g.monitorRoom + (rest.map fun v => v.category).sum ≤ W9) (hdg : decode c.code g.pc = .ok (.invokestatic index, 3))
    (hpre : ∀ vm₁, s.WarmedH vm₁ → Pre ⟨T.setVm vm₁, locs, cells, slots⟩ argsL.toArray) :
    (∃ (v : Option Value) (vm₁ : Vm) (B : Pt), s.WarmedH vm₁ ∧ Stand p l e R s m args below meth c B.U B.locs B.cells B.slots ∧ Post ⟨T.setVm vm₁, locs, cells, slots⟩ argsL.toArray v B ∧
      ∀ target, Steps p.tables e below (B.U.setTop { g with pc := g.pc + 3, stack := v.toList ++ rest }) target → Steps p.tables e below (T.setTop g) target) ∨
    (∃ (q : Addr) (vm₁ : Vm) (B : Pt), s.WarmedH vm₁ ∧ Stand p l e R s m args below meth c B.U B.locs B.cells B.slots ∧ PostX ⟨T.setVm vm₁, locs, cells, slots⟩ argsL.toArray q B ∧
      Steps p.tables e below (T.setTop g) ((B.U.setTop { g with stack := rest }).pushFrame (.throwing q))) := by
  obtain ⟨mk, methM, cM, hnamed, hmethM, -, -, -, -, -, -, hsigM⟩ := Cond.codeWith_spec hcode
  have hstatic : methM.isStatic = true := Cond.static_spec hnamed hmethM hstat
  obtain ⟨kP, hkP, -⟩ := className_of_methodNamed hnamed
  have hinitP : kP.init = .initialized := Cond.initialized_spec (findClass_of_methodNamed hnamed) hkP hinit
  obtain ⟨vm₁, X₁, hstep₁⟩ := X.invokestatic hexec hown hlink hnamed hmethM hstatic hkP hinitP hy (g := g) hg (argsL := argsL) (rest := rest) (hlen _ hsigM) hstack hdg
  rcases hK m meth c ⟨T.setVm vm₁, locs, cells, slots⟩ { g with stack := rest } (.invokestatic index) mk argsL.toArray X₁ hg hsize hdg hW (X₁.named hnamed) (hpre vm₁ X₁.warmed) with ⟨v, B, X', hpost, hsteps⟩ | ⟨q, B, X', hpost, hsteps⟩
  · exact Or.inl ⟨v, vm₁, B, X₁.warmed, X', hpost, fun target h => hstep₁ _ fun acts => by rw [doInvoke_state]; exact hsteps.trans h⟩
  · exact Or.inr ⟨q, vm₁, B, X₁.warmed, X', hpost, hstep₁ _ fun acts => by rw [doInvoke_state]; exact hsteps⟩
theorem vx_callVW (X : Stand p l e R s m args below meth c T locs cells slots) (hexec : p.tables.exec = Jvm.exec) {own C : String} {index : Nat} {y : MethodName} {bytes : ByteArray} {maxL : Nat} {ret : Option FieldType} {hh : List (Nat × Nat × Nat × Nat)}
    (hown : s.vm.findClass own = some m.cls) (hlink : (Cond.methodLink own index y).before args s = true) (hinst : (Cond.instanceMethod y).before args s = true) (hsel : (Cond.selects C y y).before args s = true)
    (hcode : (Cond.codeWith y bytes maxL ret hh).before args s = true) (hy : y.cls ≠ "java/lang/invoke/MethodHandle" ∧ y.cls ≠ "java/lang/invoke/VarHandle")
    {W9 : Nat} {Pre : Pt → Array Value → Prop} {Post : Pt → Array Value → Option Value → Pt → Prop} (hK : Back l R p e below s args y 3 W9 Pre Post)
    {b : Addr} {cellB : Cell} (hcell : T.heap[b]? = some cellB) (hobj : cellB.vm.isStatics = false) (hcls : s.vm.findClass C = some cellB.cls)
    {g : JFrame} (hg : g.method = m) (hsize : g.locals.size = c.maxLocals) {argsL rest : List Value} (hlen : ∀ sig, parseMethodDescriptor y.desc = some sig → argsL.length = sig.parameters.length)
    (hstack : g.stack = argsL.reverse ++ .ref b :: rest) (hW : 2 * g.monitorRoom + (rest.map fun v => v.category).sum ≤ W9) (hdg : decode c.code g.pc = .ok (.invokevirtual index, 3))
    (hpre : ∀ vm₁, s.WarmedH vm₁ → Pre ⟨T.setVm vm₁, locs, cells, slots⟩ (Value.ref b :: argsL).toArray) :
    ∃ (v : Option Value) (vm₁ : Vm) (B : Pt), s.WarmedH vm₁ ∧ Stand p l e R s m args below meth c B.U B.locs B.cells B.slots ∧ Post ⟨T.setVm vm₁, locs, cells, slots⟩ (Value.ref b :: argsL).toArray v B ∧
      ∀ target, Steps p.tables e below (B.U.setTop { g with pc := g.pc + 3, stack := v.toList ++ rest }) target → Steps p.tables e below (T.setTop g) target := by
  obtain ⟨mk, methM, hnamed, hmethM, hstM, habM⟩ := Cond.instanceMethod_spec hinst
  obtain ⟨m8, methM', cM, hn8, hmethM', -, -, -, -, -, -, hsigM⟩ := Cond.codeWith_spec hcode
  cases Option.some.inj (hn8.symm.trans hnamed)
  cases hmethM.symm.trans hmethM'
  obtain ⟨c2, r2, m2, q1, q2, q3, q4, kP, hkP, hkPi⟩ := Cond.selects_spec hsel
  cases hcls.symm.trans q1
  cases (State.methodFound?_of_named hnamed hy).symm.trans q2
  cases hnamed.symm.trans q3
  have hselP : selectMethod e.platform s.vm cellB.cls mk = .method mk := by rw [Launch.admits_selectMethod X.admits]; exact q4
  obtain ⟨vm₁, X₁, hstep₁⟩ := X.invokevirtual hexec hown hlink hnamed hmethM hstM hkP hkPi hy (a := b) (cell := cellB) hcell
    (fun z h => by rw [h] at hobj; cases hobj) hselP hmethM habM hkP hkPi (g := g) hg (argsL := argsL) (rest := rest) (hlen _ hsigM) hstack hdg
  obtain ⟨v, B, X', hpost, hsteps⟩ := hK m meth c ⟨T.setVm vm₁, locs, cells, slots⟩ { g with stack := rest } (.invokevirtual index) mk (Value.ref b :: argsL).toArray X₁ hg hsize hdg hW (X₁.named hnamed) (hpre vm₁ X₁.warmed)
  exact ⟨v, vm₁, B, X₁.warmed, X', hpost, fun target h => hstep₁ _ fun acts => by rw [doInvoke_state]; exact hsteps.trans h⟩
abbrev vx_CVW (R : Room) (s : State) (args : Array Value) (own C : String) (index : Nat) (y : MethodName) (bytes : ByteArray) (maxL : Nat) (ret : Option FieldType) (hh : List (Nat × Nat × Nat × Nat)) (ws : List Cond) (rm : Room) (mc ms n : Nat) : Prop :=
  (rm.cells = mc ∧ rm.slots = ms ∧ rm.frames + 1 ≤ R.frames ∧ 8 + (maxL + 11) + rm.locals ≤ R.locals ∧ (∀ w ∈ ws, ∀ (a' : Array Value) (U : State), s.WarmedH U.vm → w.before a' U = true) ∧ Cond.codeWith y bytes maxL ret hh ∈ ws) ∧
  (Cond.codeWith y bytes maxL ret hh).before args s = true ∧ (Cond.initialized y.cls).before args s = true ∧ (y.cls ≠ "java/lang/invoke/MethodHandle" ∧ y.cls ≠ "java/lang/invoke/VarHandle") ∧
  (∀ sig, parseMethodDescriptor y.desc = some sig → n = sig.parameters.length) ∧ (Cond.methodLink own index y).before args s = true ∧ (Cond.instanceMethod y).before args s = true ∧ (Cond.selects C y y).before args s = true
theorem vx_cwVW {own C : String} {index maxL mc ms : Nat} {y : MethodName} {bytes : ByteArray} {ret : Option FieldType} {hh : List (Nat × Nat × Nat × Nat)} {Ts ws ws' : List Cond} {rm : Room} (n : Nat) (ht : ∀ w ∈ Ts, w.before args s = true) (hT : GoodIn Ts (wsV own index C y ws)) (hw : ws = Cond.codeWith y bytes maxL ret hh :: ws') (hrc : rm.cells = mc) (hrs : rm.slots = ms)
    (hd : y.cls = C ∧ y.cls ≠ "java/lang/invoke/MethodHandle" ∧ y.cls ≠ "java/lang/invoke/VarHandle" ∧ (parseMethodDescriptor y.desc).map (fun d => d.parameters.length) = some n) (hR : rm.frames + 1 ≤ R.frames ∧ 8 + (maxL + 11) + rm.locals ≤ R.locals) :
    vx_CVW R s args own C index y bytes maxL ret hh ws rm mc ms n := by
  obtain ⟨hC, hd⟩ := hd
  subst hC
  have ok : ∀ w ∈ wsV own index y.cls y ws, w.before args s = true := fun w h => ht w (hT w h).1
  have hG : GoodIn Ts ws := fun w h => hT w (by unfold wsV; exact List.mem_append_right _ h)
  have hc : Cond.codeWith y bytes maxL ret hh ∈ ws := by rw [hw]; exact List.mem_cons_self
  refine ⟨⟨hrc, hrs, hR.1, hR.2, pay_in ht hG, hc⟩, ht _ (hG _ hc).1, ok _ (by simp [wsV]), ⟨hd.1, hd.2.1⟩, fun sig h => ?_, ok _ (by simp [wsV]), ok _ (by simp [wsV]), ok _ (by simp [wsV])⟩
  have h2 := hd.2.2
  rw [h] at h2
  exact (Option.some.inj h2).symm
theorem vx_runVW {y : MethodName} {bytes cc : ByteArray} {maxL nL mc ms n index : Nat} {ret : Option FieldType} {hh : List (Nat × Nat × Nat × Nat)} {ws : List Cond} {rm : Room} {Pc : Array Value → State → Prop} {Qc : Array Value → State → Outcome → State → Prop} {free : Addr → Prop} {Ts : List Cond} {own C : String} {b : Addr} {As rest : List Value} {g : JFrame}
    (S : CallFix p m c cc nL s args Ts own) (hM : Met l y ws rm Pc Qc mc ms free) (cw : vx_CVW R s args own C index y bytes maxL ret hh ws rm mc ms n) (hp : PreV s H C b Pc As)
    (hg : g.method = m) (hn : As.length = n) (hsize : g.locals.size = nL) (hstack : g.stack = As.reverse ++ .ref b :: rest) (hW : 2 * g.monitorRoom + (rest.map fun v => v.category).sum ≤ 8) (hdg : decode cc g.pc = .ok (.invokevirtual index, 3)) (hf : cells + mc ≤ R.cells ∧ slots + ms ≤ R.slots) :
    va_Run p l e R s m args below meth c H locs cells slots mc ms g rest (Qc (Value.ref b :: As).toArray) free := by
  obtain ⟨⟨hrc, hrs, hfr, hlo, hws, hcw⟩, hcode, hini, hy, hlen, hl, hin, hse⟩ := cw
  have hK : Back l R p e below s args y 3 8 (PreOf R mc ms Pc) (PostOf Qc mc ms free) := va_backW (hh := hh) (bytes := bytes) (maxL := maxL) (ret := ret) hM hp.1 hrc hrs hfr hlo hws hcw (fun a' U hW => word_at hW (Or.inl (by first | rfl | simp [Cond.onTables, Cond.keeps, Cond.steady])) hini)
  obtain ⟨hx, hb, hml, ho, -⟩ := S
  obtain ⟨-, ⟨cellB, hcB, hoB, hclB⟩, hPc⟩ := hp
  intro T hT X
  obtain ⟨v, vm₁, ⟨U', l2, c2, s2⟩, hW₁, X', ⟨g', mk, t, L, e1, e2, hq, h1, hL, h2, h3⟩, st⟩ := vx_callVW X hx (C := C) (hh := hh) (bytes := bytes) (maxL := maxL) (ret := ret) ho hl hin hse hcode hy hK (by rw [hT]; exact hcB) hoB hclB hg (hsize.trans hml.symm) (argsL := As) (rest := rest) (fun sig h => hn.trans (hlen sig h)) hstack hW (by rw [hb]; exact hdg)
    (fun vm₁ hW₁ => ⟨hf.1, hf.2, hPc (T.setVm vm₁) hT hW₁⟩)
  dsimp only [Pt.U, Pt.locs, Pt.cells, Pt.slots] at X' e1 e2 h1 h2 h3 st
  subst h1; subst h2; subst h3
  exact ⟨v, (T.setVm vm₁).calling g' mk (Value.ref b :: As).toArray, t, U', L, hT, X', hL, e1, e2, hq, st⟩
section
variable {y : MethodName} {bytes cc : ByteArray} {maxL nL mc ms n index : Nat} {ret : Option FieldType} {ws : List Cond} {rm : Room} {Pc : Array Value → State → Prop} {Qc : Array Value → State → Outcome → State → Prop} {XC : String → State → State → Prop} {free : Addr → Prop} {Ts : List Cond} {own C : String} {b : Addr} {As rest : List Value} {g : JFrame}
theorem vx_runVX {hh : List (Nat × Nat × Nat × Nat)} (S : CallFix p m c cc nL s args Ts own) (hM : vx_Met l y ws rm Pc Qc XC mc ms free) (cw : vx_CVW R s args own C index y bytes maxL ret hh ws rm mc ms n) (hp : PreV s H C b Pc As)
    (hg : g.method = m) (hn : As.length = n) (hsize : g.locals.size = nL) (hstack : g.stack = As.reverse ++ .ref b :: rest) (hW : 2 * g.monitorRoom + (rest.map fun v => v.category).sum ≤ 8) (hdg : decode cc g.pc = .ok (.invokevirtual index, 3)) (hf : cells + mc ≤ R.cells ∧ slots + ms ≤ R.slots) :
    vx_Run p l e R s m args below meth c H locs cells slots mc ms g rest (Qc (Value.ref b :: As).toArray) XC free := by
  obtain ⟨⟨hrc, hrs, hfr, hlo, hws, hcw⟩, hcode, hini, hy, hlen, hl, hin, hse⟩ := cw
  have hK : vx_Back l R p e below s args y 3 8 (PreOf R mc ms Pc) (PostOf Qc mc ms free) (vx_Post XC mc ms free) := vx_backW (hh := hh) (bytes := bytes) (maxL := maxL) (ret := ret) hM hp.1 hrc hrs hfr hlo hws hcw (fun a' U hW => word_at hW (Or.inl (by first | rfl | simp [Cond.onTables, Cond.keeps, Cond.steady])) hini)
  obtain ⟨hx, hb, hml, ho, -⟩ := S
  obtain ⟨-, ⟨cellB, hcB, hoB, hclB⟩, hPc⟩ := hp
  intro T hT X
  rcases vx_callVX X hx (C := C) (hh := hh) (bytes := bytes) (maxL := maxL) (ret := ret) ho hl hin hse hcode hy hK (by rw [hT]; exact hcB) hoB hclB hg (hsize.trans hml.symm) (argsL := As) (rest := rest) (fun sig h => hn.trans (hlen sig h)) hstack hW (by rw [hb]; exact hdg)
    (fun vm₁ hW₁ => ⟨hf.1, hf.2, hPc (T.setVm vm₁) hT hW₁⟩) with ⟨v, vm₁, ⟨U', l2, c2, s2⟩, hW₁, X', ⟨g', mk, t, L, e1, e2, hq, h1, hL, h2, h3⟩, st⟩ | ⟨q, vm₁, ⟨U', l2, c2, s2⟩, hW₁, X', ⟨g', mk, t, L, E, ce, e1, e2, hq, hce, hcv, hcl, h1, hL, h2, h3⟩, st⟩
  · dsimp only [Pt.U, Pt.locs, Pt.cells, Pt.slots] at X' e1 e2 h1 h2 h3 st
    subst h1; subst h2; subst h3
    exact Or.inl ⟨v, (T.setVm vm₁).calling g' mk (Value.ref b :: As).toArray, t, U', L, hT, X', hL, e1, e2, hq, st⟩
  · dsimp only [Pt.U, Pt.locs, Pt.cells, Pt.slots] at X' e1 e2 h1 h2 h3 st hcl
    subst h1; subst h2; subst h3
    exact Or.inr ⟨q, (T.setVm vm₁).calling g' mk (Value.ref b :: As).toArray, t, U', L, E, ce, hT, X', hL, e1, e2, hq, hce, hcv, vx_cls hW₁ hcl, st⟩
theorem vx_runSX {hh : List (Nat × Nat × Nat × Nat)} (S : CallFix p m c cc nL s args Ts own) (hM : vx_Met l y ws rm Pc Qc XC mc ms free) (cw : vx_CSW R s args own index y bytes maxL ret hh ws rm mc ms n) (hp : PreS s H Pc As)
    (hg : g.method = m) (hn : As.length = n) (hsize : g.locals.size = nL) (hstack : g.stack = As.reverse ++ rest) (hW : 2 * g.monitorRoom + (rest.map fun v => v.category).sum ≤ 8) (hdg : decode cc g.pc = .ok (.invokestatic index, 3)) (hf : cells + mc ≤ R.cells ∧ slots + ms ≤ R.slots) :
    vx_Run p l e R s m args below meth c H locs cells slots mc ms g rest (Qc As.toArray) XC free := by
  obtain ⟨⟨hrc, hrs, hfr, hlo, hws, hcw⟩, hcode, hini, hy, hlen, hl, hstt⟩ := cw
  have hK : vx_Back l R p e below s args y 3 8 (PreOf R mc ms Pc) (PostOf Qc mc ms free) (vx_Post XC mc ms free) := vx_backW (hh := hh) (bytes := bytes) (maxL := maxL) (ret := ret) hM hp.1 hrc hrs hfr hlo hws hcw (fun a' U hW => word_at hW (Or.inl (by first | rfl | simp [Cond.onTables, Cond.keeps, Cond.steady])) hini)
  obtain ⟨hx, hb, hml, ho, -⟩ := S
  intro T hT X
  rcases vx_callSX X hx (hh := hh) (bytes := bytes) (maxL := maxL) (ret := ret) ho hl hstt hini hcode hy hK hg (hsize.trans hml.symm) (argsL := As) (rest := rest) (fun sig h => hn.trans (hlen sig h)) hstack hW (by rw [hb]; exact hdg)
    (fun vm₁ hW₁ => ⟨hf.1, hf.2, hp.2 (T.setVm vm₁) hT hW₁⟩) with ⟨v, vm₁, ⟨U', l2, c2, s2⟩, hW₁, X', ⟨g', mk, t, L, e1, e2, hq, h1, hL, h2, h3⟩, st⟩ | ⟨q, vm₁, ⟨U', l2, c2, s2⟩, hW₁, X', ⟨g', mk, t, L, E, ce, e1, e2, hq, hce, hcv, hcl, h1, hL, h2, h3⟩, st⟩
  · dsimp only [Pt.U, Pt.locs, Pt.cells, Pt.slots] at X' e1 e2 h1 h2 h3 st
    subst h1; subst h2; subst h3
    exact Or.inl ⟨v, (T.setVm vm₁).calling g' mk As.toArray, t, U', L, hT, X', hL, e1, e2, hq, st⟩
  · dsimp only [Pt.U, Pt.locs, Pt.cells, Pt.slots] at X' e1 e2 h1 h2 h3 st hcl
    subst h1; subst h2; subst h3
    exact Or.inr ⟨q, (T.setVm vm₁).calling g' mk As.toArray, t, U', L, E, ce, hT, X', hL, e1, e2, hq, hce, hcv, vx_cls hW₁ hcl, st⟩
end
end VXH
theorem vx_ofWH {l : Launch} {y : MethodName} {ws ws' : List Cond} {rm : Room} {Pc : Array Value → State → Prop} {Qc : Array Value → State → Outcome → State → Prop} {XC : String → State → State → Prop} {mc ms : Nat} {free : Addr → Prop} {cc : ByteArray} {maxL : Nat} {ret : Option FieldType} {hh : List (Nat × Nat × Nat × Nat)}
    (hy : plainName y.cls = true) (hw : ws = Cond.codeWith y cc maxL ret hh :: ws')
    (body : ∀ p e s m args below meth c s₁, BodyLoose p l y (headSpec ws rm) cc maxL ret e s m args below meth c s₁ → c.maxLocals = maxL → Pc args s →
      W p l e (headSpec ws rm).room s m args below meth c s.heap [] 0 0 (vx_MQ below Qc XC args s mc ms free) (entryFrame m args maxL)) : vx_Met l y ws rm Pc Qc XC mc ms free := by
  refine MetFree.of_bodyS (code := cc) (maxLocals := maxL) (ret := ret) hy ?_ ?_
  · intro args s m h hn
    obtain ⟨m9, meth, c, hn9, h1, h2, h3, h4, -, h5, h6, -⟩ := Cond.codeWith_spec (atoms_spec (ws := ws) h _ (by rw [hw]; exact List.mem_cons_self))
    cases hn.symm.trans hn9
    exact ⟨meth, c, h1, h2, h3, h4, h5, h6⟩
  · intro p e s m args below meth c s₁ B hml hP _
    have hh0 : s₁.heap = s.heap := by rw [B.state]; rfl
    obtain ⟨t, a1, o, b1, b2, b3⟩ := body p e s m args below meth c s₁ B hml hP s₁ hh0 (Stand.of_body B)
    exact ⟨t, o, a1, b1, b2, b3⟩
/-! ===== END ===== -/
/-! names, fields, methods; the words of the table, by their places -/
def RP : String := "CurveRaster$Piece"
def RL : String := "CurveRaster$Place"
def RC : String := "CurveRaster"
def RM : String := "CurveRasterModel"
def RW : String := "CurveRasterLaw"
def RJL : String := "java/lang/Long"
def RJM : String := "java/lang/Math"
def RJA : String := "java/util/Arrays"
def TP : u_T := fun k => match k with
  | 0 => ("CurveRaster$Piece", "line", "Z", true)
  | 1 => ("CurveRaster$Piece", "squareX", "I", true)
  | 2 => ("CurveRaster$Piece", "onceX", "I", true)
  | 3 => ("CurveRaster$Piece", "squareY", "I", true)
  | 4 => ("CurveRaster$Piece", "onceY", "I", true)
  | 5 => ("CurveRaster$Piece", "px", "I", false)
  | 6 => ("CurveRaster$Piece", "py", "I", false)
  | 7 => ("CurveRaster$Piece", "qx", "I", false)
  | 8 => ("CurveRaster$Piece", "qy", "I", false)
  | 9 => ("CurveRaster$Piece", "rx", "I", false)
  | _ => ("CurveRaster$Piece", "ry", "I", false)
def tyP : Nat → FieldType := fun k => match k with
  | 0 => .boolean
  | 1 => .int
  | 2 => .int
  | 3 => .int
  | 4 => .int
  | 5 => .int
  | 6 => .int
  | 7 => .int
  | 8 => .int
  | 9 => .int
  | _ => .int
theorem nmP : ∀ a, a < 11 → ∀ b, b < 11 → a ≠ b → (TP a).2.1 ≠ (TP b).2.1 := by decide +kernel
theorem tyP_ok : ∀ k, k < 11 → parseFieldDescriptor (TP k).2.2.1 = some (tyP k) := by decide +kernel
def TL : u_T := fun k => match k with
  | 0 => ("CurveRaster$Place", "whole", "J", false)
  | 1 => ("CurveRaster$Place", "factor", "J", false)
  | 2 => ("CurveRaster$Place", "under", "J", false)
  | _ => ("CurveRaster$Place", "scale", "J", false)
def tyL : Nat → FieldType := fun k => match k with
  | 0 => .long
  | 1 => .long
  | 2 => .long
  | _ => .long
theorem nmL : ∀ a, a < 4 → ∀ b, b < 4 → a ≠ b → (TL a).2.1 ≠ (TL b).2.1 := by decide +kernel
theorem tyL_ok : ∀ k, k < 4 → parseFieldDescriptor (TL k).2.2.1 = some (tyL k) := by decide +kernel
def TC : u_T := fun k => match k with
  | 0 => ("CurveRaster", "xs", "[I", true)
  | 1 => ("CurveRaster", "ys", "[I", true)
  | 2 => ("CurveRaster", "ons", "[Z", true)
  | 3 => ("CurveRaster", "pieces", "[LCurveRaster$Piece;", true)
  | 4 => ("CurveRaster", "windings", "[I", true)
  | 5 => ("CurveRaster", "place", "LCurveRaster$Place;", true)
  | 6 => ("CurveRaster", "contourCount", "I", false)
  | 7 => ("CurveRaster", "pointCount", "I", false)
  | 8 => ("CurveRaster", "openFrom", "I", false)
  | _ => ("CurveRaster", "byParity", "Z", false)
def tyC : Nat → FieldType := fun k => match k with
  | 0 => .array .int
  | 1 => .array .int
  | 2 => .array .boolean
  | 3 => .array (.object "CurveRaster$Piece")
  | 4 => .array .int
  | 5 => .object "CurveRaster$Place"
  | 6 => .int
  | 7 => .int
  | 8 => .int
  | _ => .boolean
theorem nmC : ∀ a, a < 10 → ∀ b, b < 10 → a ≠ b → (TC a).2.1 ≠ (TC b).2.1 := by decide +kernel
theorem tyC_ok : ∀ k, k < 10 → parseFieldDescriptor (TC k).2.2.1 = some (tyC k) := by decide +kernel
def TM : u_T := fun k => match k with
  | 0 => ("CurveRasterModel", "fault", "I", false)
  | 1 => ("CurveRasterModel", "byParity", "Z", false)
  | 2 => ("CurveRasterModel", "points", "I", false)
  | 3 => ("CurveRasterModel", "xs", "[I", true)
  | 4 => ("CurveRasterModel", "ys", "[I", true)
  | 5 => ("CurveRasterModel", "on", "[Z", true)
  | 6 => ("CurveRasterModel", "contours", "I", false)
  | 7 => ("CurveRasterModel", "ends", "[I", true)
  | 8 => ("CurveRasterModel", "ringSize", "I", false)
  | 9 => ("CurveRasterModel", "ringX", "[I", true)
  | 10 => ("CurveRasterModel", "ringY", "[I", true)
  | 11 => ("CurveRasterModel", "ringOn", "[Z", true)
  | 12 => ("CurveRasterModel", "pieces", "I", false)
  | 13 => ("CurveRasterModel", "piece", "[I", true)
  | 14 => ("CurveRasterModel", "isCurve", "[Z", true)
  | 15 => ("CurveRasterModel", "high", "J", false)
  | _ => ("CurveRasterModel", "low", "J", false)
def tyM : Nat → FieldType := fun k => match k with
  | 0 => .int
  | 1 => .boolean
  | 2 => .int
  | 3 => .array .int
  | 4 => .array .int
  | 5 => .array .boolean
  | 6 => .int
  | 7 => .array .int
  | 8 => .int
  | 9 => .array .int
  | 10 => .array .int
  | 11 => .array .boolean
  | 12 => .int
  | 13 => .array .int
  | 14 => .array .boolean
  | 15 => .long
  | _ => .long
theorem nmM : ∀ a, a < 17 → ∀ b, b < 17 → a ≠ b → (TM a).2.1 ≠ (TM b).2.1 := by decide +kernel
theorem tyM_ok : ∀ k, k < 17 → parseFieldDescriptor (TM k).2.2.1 = some (tyM k) := by decide +kernel
abbrev vwCl : List vw_C := [(RP, TP, 11), (RL, TL, 4), (RC, TC, 10), (RM, TM, 17)]
abbrev cC_init : ByteArray := prog_1_method_1_code
def yC_init : MethodName := ⟨RC, "<init>", "()V"⟩
abbrev cL_init : ByteArray := prog_3_method_1_code
def yL_init : MethodName := ⟨RL, "<init>", "()V"⟩
abbrev cC_drop : ByteArray := prog_1_method_4_code
def yC_drop : MethodName := ⟨RC, "drop", "()I"⟩
abbrev cC_clear : ByteArray := prog_1_method_5_code
def yC_clear : MethodName := ⟨RC, "clear", "()I"⟩
abbrev cC_parity : ByteArray := prog_1_method_7_code
def yC_parity : MethodName := ⟨RC, "parity", "(Z)Z"⟩
abbrev cC_count : ByteArray := prog_1_method_8_code
def yC_count : MethodName := ⟨RC, "count", "(I)I"⟩
abbrev cC_countPieces : ByteArray := prog_1_method_21_code
def yC_countPieces : MethodName := ⟨RC, "countPieces", "(Z)I"⟩
abbrev cC_countSet : ByteArray := prog_1_method_22_code
def yC_countSet : MethodName := ⟨RC, "countSet", "()I"⟩
abbrev cC_rowBits : ByteArray := prog_1_method_24_code
def yC_rowBits : MethodName := ⟨RC, "rowBits", "(I)J"⟩
abbrev cC_bottomOf : ByteArray := prog_1_method_18_code
def yC_bottomOf : MethodName := ⟨RC, "bottomOf", "(I)I"⟩
abbrev cC_wind : ByteArray := prog_1_method_28_code
def yC_wind : MethodName := ⟨RC, "wind", "(IIII)V"⟩
abbrev cJA_fill : ByteArray := prog_15_method_103_code
def yJA_fill : MethodName := ⟨RJA, "fill", "([II)V"⟩
abbrev cP_crosses : ByteArray := prog_2_method_3_code
def yP_crosses : MethodName := ⟨RP, "crosses", "(IZ)Z"⟩
abbrev cP_underRoot : ByteArray := prog_2_method_4_code
def yP_underRoot : MethodName := ⟨RP, "underRoot", "(I)J"⟩
abbrev cL_take : ByteArray := prog_3_method_2_code
def yL_take : MethodName := ⟨RL, "take", "(LCurveRaster$Piece;IZ)V"⟩
abbrev cL_pointsLeft : ByteArray := prog_3_method_3_code
def yL_pointsLeft : MethodName := ⟨RL, "pointsLeft", "(III)I"⟩
abbrev cL_isRightOf : ByteArray := prog_3_method_4_code
def yL_isRightOf : MethodName := ⟨RL, "isRightOf", "(I)Z"⟩
abbrev cL_compareToRoot : ByteArray := prog_3_method_5_code
def yL_compareToRoot : MethodName := ⟨RL, "compareToRoot", "(JJ)J"⟩
abbrev cC_isIn : ByteArray := prog_1_method_23_code
def yC_isIn : MethodName := ⟨RC, "isIn", "(I)Z"⟩
abbrev cJL_bitCount : ByteArray := prog_10_method_50_code
def yJL_bitCount : MethodName := ⟨RJL, "bitCount", "(J)I"⟩
abbrev cW_add : ByteArray := method_3_code
def yW_add : MethodName := ⟨RW, "add", "(LCurveRaster;IIZ[J)I"⟩
abbrev cC_add : ByteArray := prog_1_method_2_code
def yC_add : MethodName := ⟨RC, "add", "(IIZ)I"⟩
abbrev cC_canBeTold : ByteArray := prog_1_method_15_code
def yC_canBeTold : MethodName := ⟨RC, "canBeTold", "(J)Z"⟩
abbrev cW_close : ByteArray := method_4_code
def yW_close : MethodName := ⟨RW, "close", "(LCurveRaster;[J)I"⟩
abbrev cC_close : ByteArray := prog_1_method_3_code
def yC_close : MethodName := ⟨RC, "close", "()I"⟩
abbrev cC_pieceOf : ByteArray := prog_1_method_19_code
def yC_pieceOf : MethodName := ⟨RC, "pieceOf", "(I)LCurveRaster$Piece;"⟩
abbrev cC_curveEnd : ByteArray := prog_1_method_20_code
def yC_curveEnd : MethodName := ⟨RC, "curveEnd", "([III)I"⟩
abbrev cJM_floorDiv : ByteArray := prog_11_method_47_code
def yJM_floorDiv : MethodName := ⟨RJM, "floorDiv", "(II)I"⟩
abbrev cP_init : ByteArray := prog_2_method_1_code
def yP_init : MethodName := ⟨RP, "<init>", "(IIIIIIZ)V"⟩
abbrev cW_move : ByteArray := method_5_code
def yW_move : MethodName := ⟨RW, "move", "(LCurveRaster;II)I"⟩
abbrev cC_move : ByteArray := prog_1_method_6_code
def yC_move : MethodName := ⟨RC, "move", "(II)V"⟩
abbrev cP_shift : ByteArray := prog_2_method_2_code
def yP_shift : MethodName := ⟨RP, "shift", "(II)V"⟩
abbrev cW_winding : ByteArray := method_6_code
def yW_winding : MethodName := ⟨RW, "winding", "(LCurveRaster;II[J)I"⟩
abbrev cC_winding : ByteArray := prog_1_method_9_code
def yC_winding : MethodName := ⟨RC, "winding", "(II)I"⟩
abbrev cC_canBeAsked : ByteArray := prog_1_method_16_code
def yC_canBeAsked : MethodName := ⟨RC, "canBeAsked", "(I)Z"⟩
abbrev cW_row : ByteArray := method_7_code
def yW_row : MethodName := ⟨RW, "row", "(LCurveRaster;I[J)I"⟩
abbrev cC_row : ByteArray := prog_1_method_10_code
def yC_row : MethodName := ⟨RC, "row", "(I)J"⟩
abbrev cC_isInPicture : ByteArray := prog_1_method_17_code
def yC_isInPicture : MethodName := ⟨RC, "isInPicture", "(I)Z"⟩
abbrev cW_share : ByteArray := method_8_code
def yW_share : MethodName := ⟨RW, "share", "(LCurveRaster;II[J)I"⟩
abbrev cC_share : ByteArray := prog_1_method_11_code
def yC_share : MethodName := ⟨RC, "share", "(II)I"⟩
abbrev cW_spans : ByteArray := method_9_code
def yW_spans : MethodName := ⟨RW, "spans", "(LCurveRaster;I[J)I"⟩
abbrev cC_spans : ByteArray := prog_1_method_12_code
def yC_spans : MethodName := ⟨RC, "spans", "(I)I"⟩
abbrev cC_firstsOf : ByteArray := prog_1_method_25_code
def yC_firstsOf : MethodName := ⟨RC, "firstsOf", "(J)J"⟩
abbrev cW_span : ByteArray := method_10_code
def yW_span : MethodName := ⟨RW, "span", "(LCurveRaster;IIZ[J)I"⟩
abbrev cC_span : ByteArray := prog_1_method_13_code
def yC_span : MethodName := ⟨RC, "span", "(IIZ)I"⟩
abbrev cC_lastsOf : ByteArray := prog_1_method_26_code
def yC_lastsOf : MethodName := ⟨RC, "lastsOf", "(J)J"⟩
abbrev cC_bitNumber : ByteArray := prog_1_method_27_code
def yC_bitNumber : MethodName := ⟨RC, "bitNumber", "(JI)I"⟩
abbrev cW_extent : ByteArray := method_11_code
def yW_extent : MethodName := ⟨RW, "extent", "(LCurveRaster;I[J)I"⟩
abbrev cC_extent : ByteArray := prog_1_method_14_code
def yC_extent : MethodName := ⟨RC, "extent", "(I)I"⟩
abbrev cP_bound : ByteArray := prog_2_method_5_code
def yP_bound : MethodName := ⟨RP, "bound", "(I)I"⟩
abbrev cP_floorOfLeast : ByteArray := prog_2_method_6_code
def yP_floorOfLeast : MethodName := ⟨RP, "floorOfLeast", "(III)I"⟩
abbrev cJM_min : ByteArray := prog_11_method_69_code
def yJM_min : MethodName := ⟨RJM, "min", "(II)I"⟩
abbrev cJM_max : ByteArray := prog_11_method_65_code
def yJM_max : MethodName := ⟨RJM, "max", "(II)I"⟩
abbrev cM_init : ByteArray := prog_5_method_1_code
def yM_init : MethodName := ⟨RM, "<init>", "()V"⟩
abbrev cM_thrown : ByteArray := prog_5_method_2_code
def yM_thrown : MethodName := ⟨RM, "thrown", "()I"⟩
abbrev cM_add : ByteArray := prog_5_method_7_code
def yM_add : MethodName := ⟨RM, "add", "(IIZ)I"⟩
abbrev cM_isCoordinate : ByteArray := prog_5_method_4_code
def yM_isCoordinate : MethodName := ⟨RM, "isCoordinate", "(J)Z"⟩
abbrev cM_refused : ByteArray := prog_5_method_3_code
def yM_refused : MethodName := ⟨RM, "refused", "(I)Z"⟩
abbrev cM_open : ByteArray := prog_5_method_5_code
def yM_open : MethodName := ⟨RM, "open", "()I"⟩
abbrev cM_closed : ByteArray := prog_5_method_6_code
def yM_closed : MethodName := ⟨RM, "closed", "()I"⟩
abbrev cM_close : ByteArray := prog_5_method_8_code
def yM_close : MethodName := ⟨RM, "close", "()I"⟩
abbrev cM_drop : ByteArray := prog_5_method_9_code
def yM_drop : MethodName := ⟨RM, "drop", "()I"⟩
abbrev cM_clear : ByteArray := prog_5_method_10_code
def yM_clear : MethodName := ⟨RM, "clear", "()I"⟩
abbrev cM_move : ByteArray := prog_5_method_11_code
def yM_move : MethodName := ⟨RM, "move", "(II)V"⟩
abbrev cM_parity : ByteArray := prog_5_method_12_code
def yM_parity : MethodName := ⟨RM, "parity", "(Z)Z"⟩
abbrev cM_count : ByteArray := prog_5_method_29_code
def yM_count : MethodName := ⟨RM, "count", "(I)I"⟩
abbrev cM_countOf : ByteArray := prog_5_method_27_code
def yM_countOf : MethodName := ⟨RM, "countOf", "(Z)I"⟩
abbrev cM_makePieces : ByteArray := prog_5_method_16_code
def yM_makePieces : MethodName := ⟨RM, "makePieces", "()V"⟩
abbrev cM_makeRing : ByteArray := prog_5_method_14_code
def yM_makeRing : MethodName := ⟨RM, "makeRing", "(II)V"⟩
abbrev cM_putRing : ByteArray := prog_5_method_13_code
def yM_putRing : MethodName := ⟨RM, "putRing", "(IIZ)V"⟩
abbrev cM_putPiece : ByteArray := prog_5_method_15_code
def yM_putPiece : MethodName := ⟨RM, "putPiece", "(IIIZ)V"⟩
abbrev cM_setPixels : ByteArray := prog_5_method_28_code
def yM_setPixels : MethodName := ⟨RM, "setPixels", "()I"⟩
abbrev cM_isSet : ByteArray := prog_5_method_26_code
def yM_isSet : MethodName := ⟨RM, "isSet", "(II)Z"⟩
abbrev cM_isIn : ByteArray := prog_5_method_25_code
def yM_isIn : MethodName := ⟨RM, "isIn", "(II)Z"⟩
abbrev cM_windingOf : ByteArray := prog_5_method_24_code
def yM_windingOf : MethodName := ⟨RM, "windingOf", "(II)I"⟩
abbrev cM_curveCount : ByteArray := prog_5_method_23_code
def yM_curveCount : MethodName := ⟨RM, "curveCount", "(III)I"⟩
abbrev cM_isLeft : ByteArray := prog_5_method_21_code
def yM_isLeft : MethodName := ⟨RM, "isLeft", "(JJJZJJJ)Z"⟩
abbrev cM_signOf : ByteArray := prog_5_method_17_code
def yM_signOf : MethodName := ⟨RM, "signOf", "(J)I"⟩
abbrev cM_compareRoot : ByteArray := prog_5_method_20_code
def yM_compareRoot : MethodName := ⟨RM, "compareRoot", "(JJJZJJ)I"⟩
abbrev cM_signAt : ByteArray := prog_5_method_19_code
def yM_signAt : MethodName := ⟨RM, "signAt", "(JJJJJ)I"⟩
abbrev cM_addProduct : ByteArray := prog_5_method_18_code
def yM_addProduct : MethodName := ⟨RM, "addProduct", "(JJ)V"⟩
abbrev cM_lineCount : ByteArray := prog_5_method_22_code
def yM_lineCount : MethodName := ⟨RM, "lineCount", "(III)I"⟩
abbrev cM_winding : ByteArray := prog_5_method_31_code
def yM_winding : MethodName := ⟨RM, "winding", "(II)I"⟩
abbrev cM_isFar : ByteArray := prog_5_method_30_code
def yM_isFar : MethodName := ⟨RM, "isFar", "(I)Z"⟩
abbrev cM_row : ByteArray := prog_5_method_33_code
def yM_row : MethodName := ⟨RM, "row", "(I)J"⟩
abbrev cM_isPlace : ByteArray := prog_5_method_32_code
def yM_isPlace : MethodName := ⟨RM, "isPlace", "(I)Z"⟩
abbrev cM_share : ByteArray := prog_5_method_34_code
def yM_share : MethodName := ⟨RM, "share", "(II)I"⟩
abbrev cM_spans : ByteArray := prog_5_method_35_code
def yM_spans : MethodName := ⟨RM, "spans", "(I)I"⟩
abbrev cM_span : ByteArray := prog_5_method_36_code
def yM_span : MethodName := ⟨RM, "span", "(IIZ)I"⟩
abbrev cM_extent : ByteArray := prog_5_method_39_code
def yM_extent : MethodName := ⟨RM, "extent", "(I)I"⟩
abbrev cM_bound : ByteArray := prog_5_method_38_code
def yM_bound : MethodName := ⟨RM, "bound", "(IZZ)J"⟩
abbrev cM_ceiling : ByteArray := prog_5_method_37_code
def yM_ceiling : MethodName := ⟨RM, "ceiling", "(JJ)J"⟩
abbrev cW_law : ByteArray := code
def yW_law : MethodName := ⟨RW, "law", "([I)Z"⟩
/-- the good words of the table -/
def TB : List Cond := lw_tbl.filter goodWord
theorem tb_in {w : Cond} (i : Nat) (h : lw_tbl[i]? = some w) (hg : goodWord w = true) : w ∈ TB := List.mem_filter.mpr ⟨List.mem_of_getElem? h, hg⟩
theorem iniW : (.initialized RW : Cond) ∈ TB := tb_in 29 (by decide +kernel) (by decide +kernel)
theorem iniC : (.initialized RC : Cond) ∈ TB := tb_in 30 (by decide +kernel) (by decide +kernel)
theorem iniL : (.initialized RL : Cond) ∈ TB := tb_in 31 (by decide +kernel) (by decide +kernel)
theorem iniM : (.initialized RM : Cond) ∈ TB := tb_in 32 (by decide +kernel) (by decide +kernel)
theorem iniThrowable : (.initialized "java/lang/Throwable" : Cond) ∈ TB := tb_in 33 (by decide +kernel) (by decide +kernel)
theorem iniException : (.initialized "java/lang/Exception" : Cond) ∈ TB := tb_in 34 (by decide +kernel) (by decide +kernel)
theorem iniRuntimeException : (.initialized "java/lang/RuntimeException" : Cond) ∈ TB := tb_in 35 (by decide +kernel) (by decide +kernel)
theorem iniIllegalArgumentException : (.initialized "java/lang/IllegalArgumentException" : Cond) ∈ TB := tb_in 36 (by decide +kernel) (by decide +kernel)
theorem iniIllegalStateException : (.initialized "java/lang/IllegalStateException" : Cond) ∈ TB := tb_in 37 (by decide +kernel) (by decide +kernel)
theorem iniP : (.initialized RP : Cond) ∈ TB := tb_in 38 (by decide +kernel) (by decide +kernel)
theorem iniJM : (.initialized RJM : Cond) ∈ TB := tb_in 39 (by decide +kernel) (by decide +kernel)
theorem iniJA : (.initialized RJA : Cond) ∈ TB := tb_in 40 (by decide +kernel) (by decide +kernel)
theorem iniJL : (.initialized RJL : Cond) ∈ TB := tb_in 41 (by decide +kernel) (by decide +kernel)
theorem iniIndexOutOfBoundsException : (.initialized "java/lang/IndexOutOfBoundsException" : Cond) ∈ TB := tb_in 42 (by decide +kernel) (by decide +kernel)
theorem clW_8 : (.classLink RW 8 RC : Cond) ∈ TB := tb_in 43 (by decide +kernel) (by decide +kernel)
theorem insC : (.instantiable RC 10 : Cond) ∈ TB := tb_in 44 (by decide +kernel) (by decide +kernel)
theorem mlW_48 : (.methodLink RW 48 yC_init : Cond) ∈ TB := tb_in 45 (by decide +kernel) (by decide +kernel)
theorem imC_init : (.instanceMethod yC_init : Cond) ∈ TB := tb_in 46 (by decide +kernel) (by decide +kernel)
theorem coC_init : (.code yC_init cC_init 1 none : Cond) ∈ TB := tb_in 47 (by decide +kernel) (by decide +kernel)
theorem mlC_1 : (.methodLink RC 1 objectInit : Cond) ∈ TB := tb_in 48 (by decide +kernel) (by decide +kernel)
theorem imO : (.instanceMethod objectInit : Cond) ∈ TB := tb_in 49 (by decide +kernel) (by decide +kernel)
theorem coO : (.code objectInit ⟨#[0xb1]⟩ 1 none : Cond) ∈ TB := tb_in 50 (by decide +kernel) (by decide +kernel)
theorem clC_20 : (.classLink RC 20 RP : Cond) ∈ TB := tb_in 51 (by decide +kernel) (by decide +kernel)
theorem clC_29 : (.classLink RC 29 RL : Cond) ∈ TB := tb_in 53 (by decide +kernel) (by decide +kernel)
theorem insL : (.instantiable RL 4 : Cond) ∈ TB := tb_in 54 (by decide +kernel) (by decide +kernel)
theorem imL_init : (.instanceMethod yL_init : Cond) ∈ TB := tb_in 56 (by decide +kernel) (by decide +kernel)
theorem coL_init : (.code yL_init cL_init 1 none : Cond) ∈ TB := tb_in 57 (by decide +kernel) (by decide +kernel)
theorem mlL_3 : (.methodLink RL 3 objectInit : Cond) ∈ TB := tb_in 58 (by decide +kernel) (by decide +kernel)
theorem flL_42 : (.fieldLink RL 42 "CurveRaster$Place" "whole" "J" : Cond) ∈ TB := tb_in 59 (by decide +kernel) (by decide +kernel)
theorem flL_27 : (.fieldLink RL 27 "CurveRaster$Place" "factor" "J" : Cond) ∈ TB := tb_in 60 (by decide +kernel) (by decide +kernel)
theorem flL_33 : (.fieldLink RL 33 "CurveRaster$Place" "under" "J" : Cond) ∈ TB := tb_in 61 (by decide +kernel) (by decide +kernel)
theorem flL_36 : (.fieldLink RL 36 "CurveRaster$Place" "scale" "J" : Cond) ∈ TB := tb_in 62 (by decide +kernel) (by decide +kernel)
theorem ac_int : (.arrayClass .int : Cond) ∈ TB := tb_in 72 (by decide +kernel) (by decide +kernel)
theorem ac_boolean : (.arrayClass .boolean : Cond) ∈ TB := tb_in 73 (by decide +kernel) (by decide +kernel)
theorem flC_9 : (.fieldLink RC 9 "CurveRaster" "xs" "[I" : Cond) ∈ TB := tb_in 74 (by decide +kernel) (by decide +kernel)
theorem flC_13 : (.fieldLink RC 13 "CurveRaster" "ys" "[I" : Cond) ∈ TB := tb_in 75 (by decide +kernel) (by decide +kernel)
theorem flC_16 : (.fieldLink RC 16 "CurveRaster" "ons" "[Z" : Cond) ∈ TB := tb_in 76 (by decide +kernel) (by decide +kernel)
theorem flC_22 : (.fieldLink RC 22 "CurveRaster" "pieces" "[LCurveRaster$Piece;" : Cond) ∈ TB := tb_in 77 (by decide +kernel) (by decide +kernel)
theorem flC_26 : (.fieldLink RC 26 "CurveRaster" "windings" "[I" : Cond) ∈ TB := tb_in 78 (by decide +kernel) (by decide +kernel)
theorem flC_32 : (.fieldLink RC 32 "CurveRaster" "place" "LCurveRaster$Place;" : Cond) ∈ TB := tb_in 79 (by decide +kernel) (by decide +kernel)
theorem flC_36 : (.fieldLink RC 36 "CurveRaster" "contourCount" "I" : Cond) ∈ TB := tb_in 80 (by decide +kernel) (by decide +kernel)
theorem flC_40 : (.fieldLink RC 40 "CurveRaster" "pointCount" "I" : Cond) ∈ TB := tb_in 81 (by decide +kernel) (by decide +kernel)
theorem flC_43 : (.fieldLink RC 43 "CurveRaster" "openFrom" "I" : Cond) ∈ TB := tb_in 82 (by decide +kernel) (by decide +kernel)
theorem flC_46 : (.fieldLink RC 46 "CurveRaster" "byParity" "Z" : Cond) ∈ TB := tb_in 83 (by decide +kernel) (by decide +kernel)
theorem mlW_65 : (.methodLink RW 65 yC_drop : Cond) ∈ TB := tb_in 105 (by decide +kernel) (by decide +kernel)
theorem imC_drop : (.instanceMethod yC_drop : Cond) ∈ TB := tb_in 106 (by decide +kernel) (by decide +kernel)
theorem seC_drop : (.selects RC yC_drop yC_drop : Cond) ∈ TB := tb_in 107 (by decide +kernel) (by decide +kernel)
theorem coC_drop : (.code yC_drop cC_drop 2 (some .int) : Cond) ∈ TB := tb_in 108 (by decide +kernel) (by decide +kernel)
theorem mlW_69 : (.methodLink RW 69 yC_clear : Cond) ∈ TB := tb_in 109 (by decide +kernel) (by decide +kernel)
theorem imC_clear : (.instanceMethod yC_clear : Cond) ∈ TB := tb_in 110 (by decide +kernel) (by decide +kernel)
theorem seC_clear : (.selects RC yC_clear yC_clear : Cond) ∈ TB := tb_in 111 (by decide +kernel) (by decide +kernel)
theorem coC_clear : (.code yC_clear cC_clear 2 (some .int) : Cond) ∈ TB := tb_in 112 (by decide +kernel) (by decide +kernel)
theorem mlW_77 : (.methodLink RW 77 yC_parity : Cond) ∈ TB := tb_in 113 (by decide +kernel) (by decide +kernel)
theorem imC_parity : (.instanceMethod yC_parity : Cond) ∈ TB := tb_in 114 (by decide +kernel) (by decide +kernel)
theorem seC_parity : (.selects RC yC_parity yC_parity : Cond) ∈ TB := tb_in 115 (by decide +kernel) (by decide +kernel)
theorem coC_parity : (.code yC_parity cC_parity 3 (some .boolean) : Cond) ∈ TB := tb_in 116 (by decide +kernel) (by decide +kernel)
theorem mlW_82 : (.methodLink RW 82 yC_count : Cond) ∈ TB := tb_in 117 (by decide +kernel) (by decide +kernel)
theorem imC_count : (.instanceMethod yC_count : Cond) ∈ TB := tb_in 118 (by decide +kernel) (by decide +kernel)
theorem seC_count : (.selects RC yC_count yC_count : Cond) ∈ TB := tb_in 119 (by decide +kernel) (by decide +kernel)
theorem coC_count : (.code yC_count cC_count 2 (some .int) : Cond) ∈ TB := tb_in 120 (by decide +kernel) (by decide +kernel)
theorem mlC_80 : (.methodLink RC 80 yC_countPieces : Cond) ∈ TB := tb_in 121 (by decide +kernel) (by decide +kernel)
theorem imC_countPieces : (.instanceMethod yC_countPieces : Cond) ∈ TB := tb_in 123 (by decide +kernel) (by decide +kernel)
theorem coC_countPieces : (.code yC_countPieces cC_countPieces 5 (some .int) : Cond) ∈ TB := tb_in 124 (by decide +kernel) (by decide +kernel)
theorem mlC_84 : (.methodLink RC 84 yC_countSet : Cond) ∈ TB := tb_in 125 (by decide +kernel) (by decide +kernel)
theorem imC_countSet : (.instanceMethod yC_countSet : Cond) ∈ TB := tb_in 127 (by decide +kernel) (by decide +kernel)
theorem coC_countSet : (.code yC_countSet cC_countSet 3 (some .int) : Cond) ∈ TB := tb_in 128 (by decide +kernel) (by decide +kernel)
theorem mlC_106 : (.methodLink RC 106 yC_rowBits : Cond) ∈ TB := tb_in 129 (by decide +kernel) (by decide +kernel)
theorem imC_rowBits : (.instanceMethod yC_rowBits : Cond) ∈ TB := tb_in 131 (by decide +kernel) (by decide +kernel)
theorem coC_rowBits : (.code yC_rowBits cC_rowBits 5 (some .long) : Cond) ∈ TB := tb_in 132 (by decide +kernel) (by decide +kernel)
theorem mlC_112 : (.methodLink RC 112 yC_bottomOf : Cond) ∈ TB := tb_in 133 (by decide +kernel) (by decide +kernel)
theorem smC_bottomOf : (.static yC_bottomOf : Cond) ∈ TB := tb_in 134 (by decide +kernel) (by decide +kernel)
theorem coC_bottomOf : (.code yC_bottomOf cC_bottomOf 1 (some .int) : Cond) ∈ TB := tb_in 135 (by decide +kernel) (by decide +kernel)
theorem mlC_94 : (.methodLink RC 94 yC_wind : Cond) ∈ TB := tb_in 136 (by decide +kernel) (by decide +kernel)
theorem imC_wind : (.instanceMethod yC_wind : Cond) ∈ TB := tb_in 138 (by decide +kernel) (by decide +kernel)
theorem coC_wind : (.code yC_wind cC_wind 7 none : Cond) ∈ TB := tb_in 139 (by decide +kernel) (by decide +kernel)
theorem mlC_171 : (.methodLink RC 171 yJA_fill : Cond) ∈ TB := tb_in 140 (by decide +kernel) (by decide +kernel)
theorem smJA_fill : (.static yJA_fill : Cond) ∈ TB := tb_in 141 (by decide +kernel) (by decide +kernel)
theorem coJA_fill : (.code yJA_fill cJA_fill 4 none : Cond) ∈ TB := tb_in 142 (by decide +kernel) (by decide +kernel)
theorem mlC_177 : (.methodLink RC 177 yP_crosses : Cond) ∈ TB := tb_in 143 (by decide +kernel) (by decide +kernel)
theorem imP_crosses : (.instanceMethod yP_crosses : Cond) ∈ TB := tb_in 144 (by decide +kernel) (by decide +kernel)
theorem seP_crosses : (.selects RP yP_crosses yP_crosses : Cond) ∈ TB := tb_in 145 (by decide +kernel) (by decide +kernel)
theorem coP_crosses : (.code yP_crosses cP_crosses 5 (some .boolean) : Cond) ∈ TB := tb_in 146 (by decide +kernel) (by decide +kernel)
theorem mlP_44 : (.methodLink RP 44 yP_underRoot : Cond) ∈ TB := tb_in 147 (by decide +kernel) (by decide +kernel)
theorem imP_underRoot : (.instanceMethod yP_underRoot : Cond) ∈ TB := tb_in 148 (by decide +kernel) (by decide +kernel)
theorem seP_underRoot : (.selects RP yP_underRoot yP_underRoot : Cond) ∈ TB := tb_in 149 (by decide +kernel) (by decide +kernel)
theorem coP_underRoot : (.code yP_underRoot cP_underRoot 2 (some .long) : Cond) ∈ TB := tb_in 150 (by decide +kernel) (by decide +kernel)
theorem klP_48 : (.constantLong RP 48 (4) : Cond) ∈ TB := tb_in 151 (by decide +kernel) (by decide +kernel)
theorem mlC_181 : (.methodLink RC 181 yL_take : Cond) ∈ TB := tb_in 152 (by decide +kernel) (by decide +kernel)
theorem imL_take : (.instanceMethod yL_take : Cond) ∈ TB := tb_in 153 (by decide +kernel) (by decide +kernel)
theorem seL_take : (.selects RL yL_take yL_take : Cond) ∈ TB := tb_in 154 (by decide +kernel) (by decide +kernel)
theorem coL_take : (.code yL_take cL_take 16 none : Cond) ∈ TB := tb_in 155 (by decide +kernel) (by decide +kernel)
theorem mlL_45 : (.methodLink RL 45 yP_underRoot : Cond) ∈ TB := tb_in 156 (by decide +kernel) (by decide +kernel)
theorem klL_49 : (.constantLong RL 49 (2) : Cond) ∈ TB := tb_in 157 (by decide +kernel) (by decide +kernel)
theorem mlC_185 : (.methodLink RC 185 yL_pointsLeft : Cond) ∈ TB := tb_in 158 (by decide +kernel) (by decide +kernel)
theorem imL_pointsLeft : (.instanceMethod yL_pointsLeft : Cond) ∈ TB := tb_in 159 (by decide +kernel) (by decide +kernel)
theorem seL_pointsLeft : (.selects RL yL_pointsLeft yL_pointsLeft : Cond) ∈ TB := tb_in 160 (by decide +kernel) (by decide +kernel)
theorem coL_pointsLeft : (.code yL_pointsLeft cL_pointsLeft 6 (some .int) : Cond) ∈ TB := tb_in 161 (by decide +kernel) (by decide +kernel)
theorem mlL_51 : (.methodLink RL 51 yL_isRightOf : Cond) ∈ TB := tb_in 162 (by decide +kernel) (by decide +kernel)
theorem imL_isRightOf : (.instanceMethod yL_isRightOf : Cond) ∈ TB := tb_in 164 (by decide +kernel) (by decide +kernel)
theorem coL_isRightOf : (.code yL_isRightOf cL_isRightOf 4 (some .boolean) : Cond) ∈ TB := tb_in 165 (by decide +kernel) (by decide +kernel)
theorem mlL_55 : (.methodLink RL 55 yL_compareToRoot : Cond) ∈ TB := tb_in 166 (by decide +kernel) (by decide +kernel)
theorem imL_compareToRoot : (.instanceMethod yL_compareToRoot : Cond) ∈ TB := tb_in 168 (by decide +kernel) (by decide +kernel)
theorem coL_compareToRoot : (.code yL_compareToRoot cL_compareToRoot 11 (some .long) : Cond) ∈ TB := tb_in 169 (by decide +kernel) (by decide +kernel)
theorem klL_59 : (.constantLong RL 59 (32768) : Cond) ∈ TB := tb_in 170 (by decide +kernel) (by decide +kernel)
theorem klL_61 : (.constantLong RL 61 (-1) : Cond) ∈ TB := tb_in 171 (by decide +kernel) (by decide +kernel)
theorem mlC_116 : (.methodLink RC 116 yC_isIn : Cond) ∈ TB := tb_in 172 (by decide +kernel) (by decide +kernel)
theorem imC_isIn : (.instanceMethod yC_isIn : Cond) ∈ TB := tb_in 174 (by decide +kernel) (by decide +kernel)
theorem coC_isIn : (.code yC_isIn cC_isIn 2 (some .boolean) : Cond) ∈ TB := tb_in 175 (by decide +kernel) (by decide +kernel)
theorem mlC_123 : (.methodLink RC 123 yJL_bitCount : Cond) ∈ TB := tb_in 176 (by decide +kernel) (by decide +kernel)
theorem smJL_bitCount : (.static yJL_bitCount : Cond) ∈ TB := tb_in 177 (by decide +kernel) (by decide +kernel)
theorem coJL_bitCount : (.code yJL_bitCount cJL_bitCount 2 (some .int) : Cond) ∈ TB := tb_in 178 (by decide +kernel) (by decide +kernel)
theorem klJL_314 : (.constantLong RJL 314 (6148914691236517205) : Cond) ∈ TB := tb_in 179 (by decide +kernel) (by decide +kernel)
theorem klJL_316 : (.constantLong RJL 316 (3689348814741910323) : Cond) ∈ TB := tb_in 180 (by decide +kernel) (by decide +kernel)
theorem klJL_318 : (.constantLong RJL 318 (1085102592571150095) : Cond) ∈ TB := tb_in 181 (by decide +kernel) (by decide +kernel)
theorem mlW_52 : (.methodLink RW 52 yW_add : Cond) ∈ TB := tb_in 182 (by decide +kernel) (by decide +kernel)
theorem smW_add : (.static yW_add : Cond) ∈ TB := tb_in 183 (by decide +kernel) (by decide +kernel)
theorem coW_add : (.codeWith yW_add cW_add 6 (some .int) [(0, 12, 15, 13), (0, 12, 19, 15)] : Cond) ∈ TB := tb_in 184 (by decide +kernel) (by decide +kernel)
theorem clW_13 : (.classLink RW 13 "java/lang/IllegalArgumentException" : Cond) ∈ TB := tb_in 185 (by decide +kernel) (by decide +kernel)
theorem clW_15 : (.classLink RW 15 "java/lang/IllegalStateException" : Cond) ∈ TB := tb_in 186 (by decide +kernel) (by decide +kernel)
theorem mlW_7 : (.methodLink RW 7 yC_add : Cond) ∈ TB := tb_in 187 (by decide +kernel) (by decide +kernel)
theorem imC_add : (.instanceMethod yC_add : Cond) ∈ TB := tb_in 188 (by decide +kernel) (by decide +kernel)
theorem seC_add : (.selects RC yC_add yC_add : Cond) ∈ TB := tb_in 189 (by decide +kernel) (by decide +kernel)
theorem coC_add : (.code yC_add cC_add 4 (some .int) : Cond) ∈ TB := tb_in 190 (by decide +kernel) (by decide +kernel)
theorem mlC_50 : (.methodLink RC 50 yC_canBeTold : Cond) ∈ TB := tb_in 191 (by decide +kernel) (by decide +kernel)
theorem smC_canBeTold : (.static yC_canBeTold : Cond) ∈ TB := tb_in 192 (by decide +kernel) (by decide +kernel)
theorem coC_canBeTold : (.code yC_canBeTold cC_canBeTold 2 (some .boolean) : Cond) ∈ TB := tb_in 193 (by decide +kernel) (by decide +kernel)
theorem klC_152 : (.constantLong RC 152 (-8192) : Cond) ∈ TB := tb_in 194 (by decide +kernel) (by decide +kernel)
theorem klC_154 : (.constantLong RC 154 (8191) : Cond) ∈ TB := tb_in 195 (by decide +kernel) (by decide +kernel)
theorem clC_54 : (.classLink RC 54 "java/lang/IllegalArgumentException" : Cond) ∈ TB := tb_in 196 (by decide +kernel) (by decide +kernel)
theorem mlC_58 : (.methodLink RC 58 ⟨"java/lang/IllegalArgumentException", "<init>", "(Ljava/lang/String;)V"⟩ : Cond) ∈ TB := tb_in 238 (by decide +kernel) (by decide +kernel)
theorem ac_byte : (.arrayClass .byte : Cond) ∈ TB := tb_in 263 (by decide +kernel) (by decide +kernel)
theorem clC_61 : (.classLink RC 61 "java/lang/IllegalStateException" : Cond) ∈ TB := tb_in 264 (by decide +kernel) (by decide +kernel)
theorem mlC_65 : (.methodLink RC 65 ⟨"java/lang/IllegalStateException", "<init>", "(Ljava/lang/String;)V"⟩ : Cond) ∈ TB := tb_in 274 (by decide +kernel) (by decide +kernel)
theorem mlW_61 : (.methodLink RW 61 yW_close : Cond) ∈ TB := tb_in 280 (by decide +kernel) (by decide +kernel)
theorem smW_close : (.static yW_close : Cond) ∈ TB := tb_in 281 (by decide +kernel) (by decide +kernel)
theorem coW_close : (.codeWith yW_close cW_close 3 (some .int) [(0, 8, 11, 15)] : Cond) ∈ TB := tb_in 282 (by decide +kernel) (by decide +kernel)
theorem mlW_17 : (.methodLink RW 17 yC_close : Cond) ∈ TB := tb_in 283 (by decide +kernel) (by decide +kernel)
theorem imC_close : (.instanceMethod yC_close : Cond) ∈ TB := tb_in 284 (by decide +kernel) (by decide +kernel)
theorem seC_close : (.selects RC yC_close yC_close : Cond) ∈ TB := tb_in 285 (by decide +kernel) (by decide +kernel)
theorem coC_close : (.code yC_close cC_close 2 (some .int) : Cond) ∈ TB := tb_in 286 (by decide +kernel) (by decide +kernel)
theorem mlC_70 : (.methodLink RC 70 yC_pieceOf : Cond) ∈ TB := tb_in 289 (by decide +kernel) (by decide +kernel)
theorem imC_pieceOf : (.instanceMethod yC_pieceOf : Cond) ∈ TB := tb_in 291 (by decide +kernel) (by decide +kernel)
theorem coC_pieceOf : (.code yC_pieceOf cC_pieceOf 6 (some (.object "CurveRaster$Piece")) : Cond) ∈ TB := tb_in 292 (by decide +kernel) (by decide +kernel)
theorem insP : (.instantiable RP 11 : Cond) ∈ TB := tb_in 293 (by decide +kernel) (by decide +kernel)
theorem mlC_156 : (.methodLink RC 156 yC_curveEnd : Cond) ∈ TB := tb_in 294 (by decide +kernel) (by decide +kernel)
theorem imC_curveEnd : (.instanceMethod yC_curveEnd : Cond) ∈ TB := tb_in 296 (by decide +kernel) (by decide +kernel)
theorem coC_curveEnd : (.code yC_curveEnd cC_curveEnd 4 (some .int) : Cond) ∈ TB := tb_in 297 (by decide +kernel) (by decide +kernel)
theorem mlC_163 : (.methodLink RC 163 yJM_floorDiv : Cond) ∈ TB := tb_in 298 (by decide +kernel) (by decide +kernel)
theorem smJM_floorDiv : (.static yJM_floorDiv : Cond) ∈ TB := tb_in 299 (by decide +kernel) (by decide +kernel)
theorem coJM_floorDiv : (.code yJM_floorDiv cJM_floorDiv 3 (some .int) : Cond) ∈ TB := tb_in 300 (by decide +kernel) (by decide +kernel)
theorem mlC_160 : (.methodLink RC 160 yP_init : Cond) ∈ TB := tb_in 301 (by decide +kernel) (by decide +kernel)
theorem imP_init : (.instanceMethod yP_init : Cond) ∈ TB := tb_in 302 (by decide +kernel) (by decide +kernel)
theorem coP_init : (.code yP_init cP_init 8 none : Cond) ∈ TB := tb_in 303 (by decide +kernel) (by decide +kernel)
theorem mlP_1 : (.methodLink RP 1 objectInit : Cond) ∈ TB := tb_in 304 (by decide +kernel) (by decide +kernel)
theorem flP_7 : (.fieldLink RP 7 "CurveRaster$Piece" "line" "Z" : Cond) ∈ TB := tb_in 305 (by decide +kernel) (by decide +kernel)
theorem flC_166 : (.fieldLink RC 166 "CurveRaster$Piece" "line" "Z" : Cond) ∈ TB := tb_in 306 (by decide +kernel) (by decide +kernel)
theorem flP_32 : (.fieldLink RP 32 "CurveRaster$Piece" "squareX" "I" : Cond) ∈ TB := tb_in 307 (by decide +kernel) (by decide +kernel)
theorem flL_9 : (.fieldLink RL 9 "CurveRaster$Piece" "squareX" "I" : Cond) ∈ TB := tb_in 308 (by decide +kernel) (by decide +kernel)
theorem flP_38 : (.fieldLink RP 38 "CurveRaster$Piece" "onceX" "I" : Cond) ∈ TB := tb_in 309 (by decide +kernel) (by decide +kernel)
theorem flL_15 : (.fieldLink RL 15 "CurveRaster$Piece" "onceX" "I" : Cond) ∈ TB := tb_in 310 (by decide +kernel) (by decide +kernel)
theorem flP_35 : (.fieldLink RP 35 "CurveRaster$Piece" "squareY" "I" : Cond) ∈ TB := tb_in 311 (by decide +kernel) (by decide +kernel)
theorem flL_18 : (.fieldLink RL 18 "CurveRaster$Piece" "squareY" "I" : Cond) ∈ TB := tb_in 312 (by decide +kernel) (by decide +kernel)
theorem flP_41 : (.fieldLink RP 41 "CurveRaster$Piece" "onceY" "I" : Cond) ∈ TB := tb_in 313 (by decide +kernel) (by decide +kernel)
theorem flL_21 : (.fieldLink RL 21 "CurveRaster$Piece" "onceY" "I" : Cond) ∈ TB := tb_in 314 (by decide +kernel) (by decide +kernel)
theorem flP_13 : (.fieldLink RP 13 "CurveRaster$Piece" "px" "I" : Cond) ∈ TB := tb_in 315 (by decide +kernel) (by decide +kernel)
theorem flL_39 : (.fieldLink RL 39 "CurveRaster$Piece" "px" "I" : Cond) ∈ TB := tb_in 316 (by decide +kernel) (by decide +kernel)
theorem flP_17 : (.fieldLink RP 17 "CurveRaster$Piece" "py" "I" : Cond) ∈ TB := tb_in 317 (by decide +kernel) (by decide +kernel)
theorem flL_24 : (.fieldLink RL 24 "CurveRaster$Piece" "py" "I" : Cond) ∈ TB := tb_in 318 (by decide +kernel) (by decide +kernel)
theorem flP_20 : (.fieldLink RP 20 "CurveRaster$Piece" "qx" "I" : Cond) ∈ TB := tb_in 319 (by decide +kernel) (by decide +kernel)
theorem flP_23 : (.fieldLink RP 23 "CurveRaster$Piece" "qy" "I" : Cond) ∈ TB := tb_in 320 (by decide +kernel) (by decide +kernel)
theorem flP_26 : (.fieldLink RP 26 "CurveRaster$Piece" "rx" "I" : Cond) ∈ TB := tb_in 321 (by decide +kernel) (by decide +kernel)
theorem flP_29 : (.fieldLink RP 29 "CurveRaster$Piece" "ry" "I" : Cond) ∈ TB := tb_in 322 (by decide +kernel) (by decide +kernel)
theorem mlW_73 : (.methodLink RW 73 yW_move : Cond) ∈ TB := tb_in 346 (by decide +kernel) (by decide +kernel)
theorem smW_move : (.static yW_move : Cond) ∈ TB := tb_in 347 (by decide +kernel) (by decide +kernel)
theorem coW_move : (.codeWith yW_move cW_move 4 (some .int) [(0, 6, 9, 13)] : Cond) ∈ TB := tb_in 348 (by decide +kernel) (by decide +kernel)
theorem mlW_21 : (.methodLink RW 21 yC_move : Cond) ∈ TB := tb_in 349 (by decide +kernel) (by decide +kernel)
theorem imC_move : (.instanceMethod yC_move : Cond) ∈ TB := tb_in 350 (by decide +kernel) (by decide +kernel)
theorem seC_move : (.selects RC yC_move yC_move : Cond) ∈ TB := tb_in 351 (by decide +kernel) (by decide +kernel)
theorem coC_move : (.code yC_move cC_move 5 none : Cond) ∈ TB := tb_in 352 (by decide +kernel) (by decide +kernel)
theorem mlC_76 : (.methodLink RC 76 yP_shift : Cond) ∈ TB := tb_in 354 (by decide +kernel) (by decide +kernel)
theorem imP_shift : (.instanceMethod yP_shift : Cond) ∈ TB := tb_in 355 (by decide +kernel) (by decide +kernel)
theorem seP_shift : (.selects RP yP_shift yP_shift : Cond) ∈ TB := tb_in 356 (by decide +kernel) (by decide +kernel)
theorem coP_shift : (.code yP_shift cP_shift 3 none : Cond) ∈ TB := tb_in 357 (by decide +kernel) (by decide +kernel)
theorem mlW_86 : (.methodLink RW 86 yW_winding : Cond) ∈ TB := tb_in 358 (by decide +kernel) (by decide +kernel)
theorem smW_winding : (.static yW_winding : Cond) ∈ TB := tb_in 359 (by decide +kernel) (by decide +kernel)
theorem coW_winding : (.codeWith yW_winding cW_winding 5 (some .int) [(0, 10, 13, 13)] : Cond) ∈ TB := tb_in 360 (by decide +kernel) (by decide +kernel)
theorem mlW_25 : (.methodLink RW 25 yC_winding : Cond) ∈ TB := tb_in 361 (by decide +kernel) (by decide +kernel)
theorem imC_winding : (.instanceMethod yC_winding : Cond) ∈ TB := tb_in 362 (by decide +kernel) (by decide +kernel)
theorem seC_winding : (.selects RC yC_winding yC_winding : Cond) ∈ TB := tb_in 363 (by decide +kernel) (by decide +kernel)
theorem coC_winding : (.code yC_winding cC_winding 3 (some .int) : Cond) ∈ TB := tb_in 364 (by decide +kernel) (by decide +kernel)
theorem mlC_88 : (.methodLink RC 88 yC_canBeAsked : Cond) ∈ TB := tb_in 365 (by decide +kernel) (by decide +kernel)
theorem smC_canBeAsked : (.static yC_canBeAsked : Cond) ∈ TB := tb_in 366 (by decide +kernel) (by decide +kernel)
theorem coC_canBeAsked : (.code yC_canBeAsked cC_canBeAsked 1 (some .boolean) : Cond) ∈ TB := tb_in 367 (by decide +kernel) (by decide +kernel)
theorem mlW_90 : (.methodLink RW 90 yW_row : Cond) ∈ TB := tb_in 369 (by decide +kernel) (by decide +kernel)
theorem smW_row : (.static yW_row : Cond) ∈ TB := tb_in 370 (by decide +kernel) (by decide +kernel)
theorem coW_row : (.codeWith yW_row cW_row 4 (some .int) [(0, 8, 11, 33)] : Cond) ∈ TB := tb_in 371 (by decide +kernel) (by decide +kernel)
theorem clW_33 : (.classLink RW 33 "java/lang/IndexOutOfBoundsException" : Cond) ∈ TB := tb_in 372 (by decide +kernel) (by decide +kernel)
theorem mlW_29 : (.methodLink RW 29 yC_row : Cond) ∈ TB := tb_in 373 (by decide +kernel) (by decide +kernel)
theorem imC_row : (.instanceMethod yC_row : Cond) ∈ TB := tb_in 374 (by decide +kernel) (by decide +kernel)
theorem seC_row : (.selects RC yC_row yC_row : Cond) ∈ TB := tb_in 375 (by decide +kernel) (by decide +kernel)
theorem coC_row : (.code yC_row cC_row 2 (some .long) : Cond) ∈ TB := tb_in 376 (by decide +kernel) (by decide +kernel)
theorem mlC_98 : (.methodLink RC 98 yC_isInPicture : Cond) ∈ TB := tb_in 377 (by decide +kernel) (by decide +kernel)
theorem smC_isInPicture : (.static yC_isInPicture : Cond) ∈ TB := tb_in 378 (by decide +kernel) (by decide +kernel)
theorem coC_isInPicture : (.code yC_isInPicture cC_isInPicture 1 (some .boolean) : Cond) ∈ TB := tb_in 379 (by decide +kernel) (by decide +kernel)
theorem clC_101 : (.classLink RC 101 "java/lang/IndexOutOfBoundsException" : Cond) ∈ TB := tb_in 380 (by decide +kernel) (by decide +kernel)
theorem mlC_105 : (.methodLink RC 105 ⟨"java/lang/IndexOutOfBoundsException", "<init>", "(Ljava/lang/String;)V"⟩ : Cond) ∈ TB := tb_in 390 (by decide +kernel) (by decide +kernel)
theorem mlW_94 : (.methodLink RW 94 yW_share : Cond) ∈ TB := tb_in 396 (by decide +kernel) (by decide +kernel)
theorem smW_share : (.static yW_share : Cond) ∈ TB := tb_in 397 (by decide +kernel) (by decide +kernel)
theorem coW_share : (.codeWith yW_share cW_share 5 (some .int) [(0, 10, 13, 33)] : Cond) ∈ TB := tb_in 398 (by decide +kernel) (by decide +kernel)
theorem mlW_35 : (.methodLink RW 35 yC_share : Cond) ∈ TB := tb_in 399 (by decide +kernel) (by decide +kernel)
theorem imC_share : (.instanceMethod yC_share : Cond) ∈ TB := tb_in 400 (by decide +kernel) (by decide +kernel)
theorem seC_share : (.selects RC yC_share yC_share : Cond) ∈ TB := tb_in 401 (by decide +kernel) (by decide +kernel)
theorem coC_share : (.code yC_share cC_share 6 (some .int) : Cond) ∈ TB := tb_in 402 (by decide +kernel) (by decide +kernel)
theorem mlW_97 : (.methodLink RW 97 yW_spans : Cond) ∈ TB := tb_in 404 (by decide +kernel) (by decide +kernel)
theorem smW_spans : (.static yW_spans : Cond) ∈ TB := tb_in 405 (by decide +kernel) (by decide +kernel)
theorem coW_spans : (.codeWith yW_spans cW_spans 4 (some .int) [(0, 9, 12, 33)] : Cond) ∈ TB := tb_in 406 (by decide +kernel) (by decide +kernel)
theorem mlW_38 : (.methodLink RW 38 yC_spans : Cond) ∈ TB := tb_in 407 (by decide +kernel) (by decide +kernel)
theorem imC_spans : (.instanceMethod yC_spans : Cond) ∈ TB := tb_in 408 (by decide +kernel) (by decide +kernel)
theorem seC_spans : (.selects RC yC_spans yC_spans : Cond) ∈ TB := tb_in 409 (by decide +kernel) (by decide +kernel)
theorem coC_spans : (.code yC_spans cC_spans 2 (some .int) : Cond) ∈ TB := tb_in 410 (by decide +kernel) (by decide +kernel)
theorem mlC_119 : (.methodLink RC 119 yC_firstsOf : Cond) ∈ TB := tb_in 411 (by decide +kernel) (by decide +kernel)
theorem smC_firstsOf : (.static yC_firstsOf : Cond) ∈ TB := tb_in 412 (by decide +kernel) (by decide +kernel)
theorem coC_firstsOf : (.code yC_firstsOf cC_firstsOf 2 (some .long) : Cond) ∈ TB := tb_in 413 (by decide +kernel) (by decide +kernel)
theorem klC_169 : (.constantLong RC 169 (-1) : Cond) ∈ TB := tb_in 414 (by decide +kernel) (by decide +kernel)
theorem mlW_100 : (.methodLink RW 100 yW_span : Cond) ∈ TB := tb_in 415 (by decide +kernel) (by decide +kernel)
theorem smW_span : (.static yW_span : Cond) ∈ TB := tb_in 416 (by decide +kernel) (by decide +kernel)
theorem coW_span : (.codeWith yW_span cW_span 6 (some .int) [(0, 12, 15, 33)] : Cond) ∈ TB := tb_in 417 (by decide +kernel) (by decide +kernel)
theorem mlW_42 : (.methodLink RW 42 yC_span : Cond) ∈ TB := tb_in 418 (by decide +kernel) (by decide +kernel)
theorem imC_span : (.instanceMethod yC_span : Cond) ∈ TB := tb_in 419 (by decide +kernel) (by decide +kernel)
theorem seC_span : (.selects RC yC_span yC_span : Cond) ∈ TB := tb_in 420 (by decide +kernel) (by decide +kernel)
theorem coC_span : (.code yC_span cC_span 7 (some .int) : Cond) ∈ TB := tb_in 421 (by decide +kernel) (by decide +kernel)
theorem mlC_129 : (.methodLink RC 129 yC_lastsOf : Cond) ∈ TB := tb_in 422 (by decide +kernel) (by decide +kernel)
theorem smC_lastsOf : (.static yC_lastsOf : Cond) ∈ TB := tb_in 423 (by decide +kernel) (by decide +kernel)
theorem coC_lastsOf : (.code yC_lastsOf cC_lastsOf 2 (some .long) : Cond) ∈ TB := tb_in 424 (by decide +kernel) (by decide +kernel)
theorem mlC_132 : (.methodLink RC 132 yC_bitNumber : Cond) ∈ TB := tb_in 425 (by decide +kernel) (by decide +kernel)
theorem smC_bitNumber : (.static yC_bitNumber : Cond) ∈ TB := tb_in 426 (by decide +kernel) (by decide +kernel)
theorem coC_bitNumber : (.code yC_bitNumber cC_bitNumber 5 (some .int) : Cond) ∈ TB := tb_in 427 (by decide +kernel) (by decide +kernel)
theorem mlW_103 : (.methodLink RW 103 yW_extent : Cond) ∈ TB := tb_in 428 (by decide +kernel) (by decide +kernel)
theorem smW_extent : (.static yW_extent : Cond) ∈ TB := tb_in 429 (by decide +kernel) (by decide +kernel)
theorem coW_extent : (.codeWith yW_extent cW_extent 4 (some .int) [(0, 9, 12, 33), (0, 9, 15, 15)] : Cond) ∈ TB := tb_in 430 (by decide +kernel) (by decide +kernel)
theorem mlW_45 : (.methodLink RW 45 yC_extent : Cond) ∈ TB := tb_in 431 (by decide +kernel) (by decide +kernel)
theorem imC_extent : (.instanceMethod yC_extent : Cond) ∈ TB := tb_in 432 (by decide +kernel) (by decide +kernel)
theorem seC_extent : (.selects RC yC_extent yC_extent : Cond) ∈ TB := tb_in 433 (by decide +kernel) (by decide +kernel)
theorem coC_extent : (.code yC_extent cC_extent 7 (some .int) : Cond) ∈ TB := tb_in 434 (by decide +kernel) (by decide +kernel)
theorem mlC_140 : (.methodLink RC 140 yP_bound : Cond) ∈ TB := tb_in 437 (by decide +kernel) (by decide +kernel)
theorem imP_bound : (.instanceMethod yP_bound : Cond) ∈ TB := tb_in 438 (by decide +kernel) (by decide +kernel)
theorem seP_bound : (.selects RP yP_bound yP_bound : Cond) ∈ TB := tb_in 439 (by decide +kernel) (by decide +kernel)
theorem coP_bound : (.code yP_bound cP_bound 2 (some .int) : Cond) ∈ TB := tb_in 440 (by decide +kernel) (by decide +kernel)
theorem mlP_50 : (.methodLink RP 50 yP_floorOfLeast : Cond) ∈ TB := tb_in 441 (by decide +kernel) (by decide +kernel)
theorem smP_floorOfLeast : (.static yP_floorOfLeast : Cond) ∈ TB := tb_in 442 (by decide +kernel) (by decide +kernel)
theorem coP_floorOfLeast : (.code yP_floorOfLeast cP_floorOfLeast 4 (some .int) : Cond) ∈ TB := tb_in 443 (by decide +kernel) (by decide +kernel)
theorem mlP_54 : (.methodLink RP 54 yJM_floorDiv : Cond) ∈ TB := tb_in 444 (by decide +kernel) (by decide +kernel)
theorem mlP_60 : (.methodLink RP 60 yJM_min : Cond) ∈ TB := tb_in 445 (by decide +kernel) (by decide +kernel)
theorem smJM_min : (.static yJM_min : Cond) ∈ TB := tb_in 446 (by decide +kernel) (by decide +kernel)
theorem coJM_min : (.code yJM_min cJM_min 2 (some .int) : Cond) ∈ TB := tb_in 447 (by decide +kernel) (by decide +kernel)
theorem mlC_143 : (.methodLink RC 143 yJM_min : Cond) ∈ TB := tb_in 448 (by decide +kernel) (by decide +kernel)
theorem mlC_149 : (.methodLink RC 149 yJM_max : Cond) ∈ TB := tb_in 449 (by decide +kernel) (by decide +kernel)
theorem smJM_max : (.static yJM_max : Cond) ∈ TB := tb_in 450 (by decide +kernel) (by decide +kernel)
theorem coJM_max : (.code yJM_max cJM_max 2 (some .int) : Cond) ∈ TB := tb_in 451 (by decide +kernel) (by decide +kernel)
theorem clW_49 : (.classLink RW 49 RM : Cond) ∈ TB := tb_in 452 (by decide +kernel) (by decide +kernel)
theorem insM : (.instantiable RM 17 : Cond) ∈ TB := tb_in 453 (by decide +kernel) (by decide +kernel)
theorem mlW_51 : (.methodLink RW 51 yM_init : Cond) ∈ TB := tb_in 454 (by decide +kernel) (by decide +kernel)
theorem imM_init : (.instanceMethod yM_init : Cond) ∈ TB := tb_in 455 (by decide +kernel) (by decide +kernel)
theorem coM_init : (.code yM_init cM_init 1 none : Cond) ∈ TB := tb_in 456 (by decide +kernel) (by decide +kernel)
theorem mlM_1 : (.methodLink RM 1 objectInit : Cond) ∈ TB := tb_in 457 (by decide +kernel) (by decide +kernel)
theorem flM_38 : (.fieldLink RM 38 "CurveRasterModel" "fault" "I" : Cond) ∈ TB := tb_in 458 (by decide +kernel) (by decide +kernel)
theorem flM_67 : (.fieldLink RM 67 "CurveRasterModel" "byParity" "Z" : Cond) ∈ TB := tb_in 459 (by decide +kernel) (by decide +kernel)
theorem flM_46 : (.fieldLink RM 46 "CurveRasterModel" "points" "I" : Cond) ∈ TB := tb_in 460 (by decide +kernel) (by decide +kernel)
theorem flM_7 : (.fieldLink RM 7 "CurveRasterModel" "xs" "[I" : Cond) ∈ TB := tb_in 461 (by decide +kernel) (by decide +kernel)
theorem flM_13 : (.fieldLink RM 13 "CurveRasterModel" "ys" "[I" : Cond) ∈ TB := tb_in 462 (by decide +kernel) (by decide +kernel)
theorem flM_16 : (.fieldLink RM 16 "CurveRasterModel" "on" "[Z" : Cond) ∈ TB := tb_in 463 (by decide +kernel) (by decide +kernel)
theorem flM_53 : (.fieldLink RM 53 "CurveRasterModel" "contours" "I" : Cond) ∈ TB := tb_in 464 (by decide +kernel) (by decide +kernel)
theorem flM_20 : (.fieldLink RM 20 "CurveRasterModel" "ends" "[I" : Cond) ∈ TB := tb_in 465 (by decide +kernel) (by decide +kernel)
theorem flM_71 : (.fieldLink RM 71 "CurveRasterModel" "ringSize" "I" : Cond) ∈ TB := tb_in 466 (by decide +kernel) (by decide +kernel)
theorem flM_23 : (.fieldLink RM 23 "CurveRasterModel" "ringX" "[I" : Cond) ∈ TB := tb_in 467 (by decide +kernel) (by decide +kernel)
theorem flM_26 : (.fieldLink RM 26 "CurveRasterModel" "ringY" "[I" : Cond) ∈ TB := tb_in 468 (by decide +kernel) (by decide +kernel)
theorem flM_29 : (.fieldLink RM 29 "CurveRasterModel" "ringOn" "[Z" : Cond) ∈ TB := tb_in 469 (by decide +kernel) (by decide +kernel)
theorem flM_78 : (.fieldLink RM 78 "CurveRasterModel" "pieces" "I" : Cond) ∈ TB := tb_in 470 (by decide +kernel) (by decide +kernel)
theorem flM_32 : (.fieldLink RM 32 "CurveRasterModel" "piece" "[I" : Cond) ∈ TB := tb_in 471 (by decide +kernel) (by decide +kernel)
theorem flM_35 : (.fieldLink RM 35 "CurveRasterModel" "isCurve" "[Z" : Cond) ∈ TB := tb_in 472 (by decide +kernel) (by decide +kernel)
theorem flM_91 : (.fieldLink RM 91 "CurveRasterModel" "high" "J" : Cond) ∈ TB := tb_in 473 (by decide +kernel) (by decide +kernel)
theorem flM_95 : (.fieldLink RM 95 "CurveRasterModel" "low" "J" : Cond) ∈ TB := tb_in 474 (by decide +kernel) (by decide +kernel)
theorem mlW_58 : (.methodLink RW 58 yM_thrown : Cond) ∈ TB := tb_in 510 (by decide +kernel) (by decide +kernel)
theorem imM_thrown : (.instanceMethod yM_thrown : Cond) ∈ TB := tb_in 511 (by decide +kernel) (by decide +kernel)
theorem seM_thrown : (.selects RM yM_thrown yM_thrown : Cond) ∈ TB := tb_in 512 (by decide +kernel) (by decide +kernel)
theorem coM_thrown : (.code yM_thrown cM_thrown 1 (some .int) : Cond) ∈ TB := tb_in 513 (by decide +kernel) (by decide +kernel)
theorem mlW_57 : (.methodLink RW 57 yM_add : Cond) ∈ TB := tb_in 514 (by decide +kernel) (by decide +kernel)
theorem imM_add : (.instanceMethod yM_add : Cond) ∈ TB := tb_in 515 (by decide +kernel) (by decide +kernel)
theorem seM_add : (.selects RM yM_add yM_add : Cond) ∈ TB := tb_in 516 (by decide +kernel) (by decide +kernel)
theorem coM_add : (.code yM_add cM_add 4 (some .int) : Cond) ∈ TB := tb_in 517 (by decide +kernel) (by decide +kernel)
theorem mlM_56 : (.methodLink RM 56 yM_isCoordinate : Cond) ∈ TB := tb_in 518 (by decide +kernel) (by decide +kernel)
theorem smM_isCoordinate : (.static yM_isCoordinate : Cond) ∈ TB := tb_in 519 (by decide +kernel) (by decide +kernel)
theorem coM_isCoordinate : (.code yM_isCoordinate cM_isCoordinate 2 (some .boolean) : Cond) ∈ TB := tb_in 520 (by decide +kernel) (by decide +kernel)
theorem klM_42 : (.constantLong RM 42 (-8192) : Cond) ∈ TB := tb_in 521 (by decide +kernel) (by decide +kernel)
theorem klM_44 : (.constantLong RM 44 (8191) : Cond) ∈ TB := tb_in 522 (by decide +kernel) (by decide +kernel)
theorem mlM_60 : (.methodLink RM 60 yM_refused : Cond) ∈ TB := tb_in 523 (by decide +kernel) (by decide +kernel)
theorem imM_refused : (.instanceMethod yM_refused : Cond) ∈ TB := tb_in 525 (by decide +kernel) (by decide +kernel)
theorem coM_refused : (.code yM_refused cM_refused 2 (some .boolean) : Cond) ∈ TB := tb_in 526 (by decide +kernel) (by decide +kernel)
theorem mlM_64 : (.methodLink RM 64 yM_open : Cond) ∈ TB := tb_in 527 (by decide +kernel) (by decide +kernel)
theorem imM_open : (.instanceMethod yM_open : Cond) ∈ TB := tb_in 529 (by decide +kernel) (by decide +kernel)
theorem coM_open : (.code yM_open cM_open 1 (some .int) : Cond) ∈ TB := tb_in 530 (by decide +kernel) (by decide +kernel)
theorem mlM_49 : (.methodLink RM 49 yM_closed : Cond) ∈ TB := tb_in 531 (by decide +kernel) (by decide +kernel)
theorem imM_closed : (.instanceMethod yM_closed : Cond) ∈ TB := tb_in 533 (by decide +kernel) (by decide +kernel)
theorem coM_closed : (.code yM_closed cM_closed 1 (some .int) : Cond) ∈ TB := tb_in 534 (by decide +kernel) (by decide +kernel)
theorem mlW_64 : (.methodLink RW 64 yM_close : Cond) ∈ TB := tb_in 535 (by decide +kernel) (by decide +kernel)
theorem imM_close : (.instanceMethod yM_close : Cond) ∈ TB := tb_in 536 (by decide +kernel) (by decide +kernel)
theorem seM_close : (.selects RM yM_close yM_close : Cond) ∈ TB := tb_in 537 (by decide +kernel) (by decide +kernel)
theorem coM_close : (.code yM_close cM_close 1 (some .int) : Cond) ∈ TB := tb_in 538 (by decide +kernel) (by decide +kernel)
theorem mlW_68 : (.methodLink RW 68 yM_drop : Cond) ∈ TB := tb_in 539 (by decide +kernel) (by decide +kernel)
theorem imM_drop : (.instanceMethod yM_drop : Cond) ∈ TB := tb_in 540 (by decide +kernel) (by decide +kernel)
theorem seM_drop : (.selects RM yM_drop yM_drop : Cond) ∈ TB := tb_in 541 (by decide +kernel) (by decide +kernel)
theorem coM_drop : (.code yM_drop cM_drop 2 (some .int) : Cond) ∈ TB := tb_in 542 (by decide +kernel) (by decide +kernel)
theorem mlW_72 : (.methodLink RW 72 yM_clear : Cond) ∈ TB := tb_in 543 (by decide +kernel) (by decide +kernel)
theorem imM_clear : (.instanceMethod yM_clear : Cond) ∈ TB := tb_in 544 (by decide +kernel) (by decide +kernel)
theorem seM_clear : (.selects RM yM_clear yM_clear : Cond) ∈ TB := tb_in 545 (by decide +kernel) (by decide +kernel)
theorem coM_clear : (.code yM_clear cM_clear 2 (some .int) : Cond) ∈ TB := tb_in 546 (by decide +kernel) (by decide +kernel)
theorem mlW_76 : (.methodLink RW 76 yM_move : Cond) ∈ TB := tb_in 547 (by decide +kernel) (by decide +kernel)
theorem imM_move : (.instanceMethod yM_move : Cond) ∈ TB := tb_in 548 (by decide +kernel) (by decide +kernel)
theorem seM_move : (.selects RM yM_move yM_move : Cond) ∈ TB := tb_in 549 (by decide +kernel) (by decide +kernel)
theorem coM_move : (.code yM_move cM_move 5 none : Cond) ∈ TB := tb_in 550 (by decide +kernel) (by decide +kernel)
theorem mlW_81 : (.methodLink RW 81 yM_parity : Cond) ∈ TB := tb_in 551 (by decide +kernel) (by decide +kernel)
theorem imM_parity : (.instanceMethod yM_parity : Cond) ∈ TB := tb_in 552 (by decide +kernel) (by decide +kernel)
theorem seM_parity : (.selects RM yM_parity yM_parity : Cond) ∈ TB := tb_in 553 (by decide +kernel) (by decide +kernel)
theorem coM_parity : (.code yM_parity cM_parity 3 (some .boolean) : Cond) ∈ TB := tb_in 554 (by decide +kernel) (by decide +kernel)
theorem mlW_85 : (.methodLink RW 85 yM_count : Cond) ∈ TB := tb_in 555 (by decide +kernel) (by decide +kernel)
theorem imM_count : (.instanceMethod yM_count : Cond) ∈ TB := tb_in 556 (by decide +kernel) (by decide +kernel)
theorem seM_count : (.selects RM yM_count yM_count : Cond) ∈ TB := tb_in 557 (by decide +kernel) (by decide +kernel)
theorem coM_count : (.code yM_count cM_count 2 (some .int) : Cond) ∈ TB := tb_in 558 (by decide +kernel) (by decide +kernel)
theorem mlM_145 : (.methodLink RM 145 yM_countOf : Cond) ∈ TB := tb_in 559 (by decide +kernel) (by decide +kernel)
theorem imM_countOf : (.instanceMethod yM_countOf : Cond) ∈ TB := tb_in 561 (by decide +kernel) (by decide +kernel)
theorem coM_countOf : (.code yM_countOf cM_countOf 4 (some .int) : Cond) ∈ TB := tb_in 562 (by decide +kernel) (by decide +kernel)
theorem mlM_139 : (.methodLink RM 139 yM_makePieces : Cond) ∈ TB := tb_in 563 (by decide +kernel) (by decide +kernel)
theorem imM_makePieces : (.instanceMethod yM_makePieces : Cond) ∈ TB := tb_in 565 (by decide +kernel) (by decide +kernel)
theorem coM_makePieces : (.code yM_makePieces cM_makePieces 4 none : Cond) ∈ TB := tb_in 566 (by decide +kernel) (by decide +kernel)
theorem mlM_81 : (.methodLink RM 81 yM_makeRing : Cond) ∈ TB := tb_in 567 (by decide +kernel) (by decide +kernel)
theorem imM_makeRing : (.instanceMethod yM_makeRing : Cond) ∈ TB := tb_in 569 (by decide +kernel) (by decide +kernel)
theorem coM_makeRing : (.code yM_makeRing cM_makeRing 5 none : Cond) ∈ TB := tb_in 570 (by decide +kernel) (by decide +kernel)
theorem mlM_74 : (.methodLink RM 74 yM_putRing : Cond) ∈ TB := tb_in 571 (by decide +kernel) (by decide +kernel)
theorem imM_putRing : (.instanceMethod yM_putRing : Cond) ∈ TB := tb_in 573 (by decide +kernel) (by decide +kernel)
theorem coM_putRing : (.code yM_putRing cM_putRing 4 none : Cond) ∈ TB := tb_in 574 (by decide +kernel) (by decide +kernel)
theorem mlM_85 : (.methodLink RM 85 yM_putPiece : Cond) ∈ TB := tb_in 575 (by decide +kernel) (by decide +kernel)
theorem imM_putPiece : (.instanceMethod yM_putPiece : Cond) ∈ TB := tb_in 577 (by decide +kernel) (by decide +kernel)
theorem coM_putPiece : (.code yM_putPiece cM_putPiece 6 none : Cond) ∈ TB := tb_in 578 (by decide +kernel) (by decide +kernel)
theorem mlM_149 : (.methodLink RM 149 yM_setPixels : Cond) ∈ TB := tb_in 579 (by decide +kernel) (by decide +kernel)
theorem imM_setPixels : (.instanceMethod yM_setPixels : Cond) ∈ TB := tb_in 581 (by decide +kernel) (by decide +kernel)
theorem coM_setPixels : (.code yM_setPixels cM_setPixels 3 (some .int) : Cond) ∈ TB := tb_in 582 (by decide +kernel) (by decide +kernel)
theorem mlM_142 : (.methodLink RM 142 yM_isSet : Cond) ∈ TB := tb_in 583 (by decide +kernel) (by decide +kernel)
theorem imM_isSet : (.instanceMethod yM_isSet : Cond) ∈ TB := tb_in 585 (by decide +kernel) (by decide +kernel)
theorem coM_isSet : (.code yM_isSet cM_isSet 3 (some .boolean) : Cond) ∈ TB := tb_in 586 (by decide +kernel) (by decide +kernel)
theorem mlM_135 : (.methodLink RM 135 yM_isIn : Cond) ∈ TB := tb_in 587 (by decide +kernel) (by decide +kernel)
theorem imM_isIn : (.instanceMethod yM_isIn : Cond) ∈ TB := tb_in 589 (by decide +kernel) (by decide +kernel)
theorem coM_isIn : (.code yM_isIn cM_isIn 4 (some .boolean) : Cond) ∈ TB := tb_in 590 (by decide +kernel) (by decide +kernel)
theorem mlM_131 : (.methodLink RM 131 yM_windingOf : Cond) ∈ TB := tb_in 591 (by decide +kernel) (by decide +kernel)
theorem imM_windingOf : (.instanceMethod yM_windingOf : Cond) ∈ TB := tb_in 593 (by decide +kernel) (by decide +kernel)
theorem coM_windingOf : (.code yM_windingOf cM_windingOf 5 (some .int) : Cond) ∈ TB := tb_in 594 (by decide +kernel) (by decide +kernel)
theorem mlM_124 : (.methodLink RM 124 yM_curveCount : Cond) ∈ TB := tb_in 595 (by decide +kernel) (by decide +kernel)
theorem imM_curveCount : (.instanceMethod yM_curveCount : Cond) ∈ TB := tb_in 597 (by decide +kernel) (by decide +kernel)
theorem coM_curveCount : (.code yM_curveCount cM_curveCount 22 (some .int) : Cond) ∈ TB := tb_in 598 (by decide +kernel) (by decide +kernel)
theorem klM_110 : (.constantLong RM 110 (2) : Cond) ∈ TB := tb_in 599 (by decide +kernel) (by decide +kernel)
theorem mlM_116 : (.methodLink RM 116 yM_isLeft : Cond) ∈ TB := tb_in 600 (by decide +kernel) (by decide +kernel)
theorem imM_isLeft : (.instanceMethod yM_isLeft : Cond) ∈ TB := tb_in 602 (by decide +kernel) (by decide +kernel)
theorem coM_isLeft : (.code yM_isLeft cM_isLeft 23 (some .boolean) : Cond) ∈ TB := tb_in 603 (by decide +kernel) (by decide +kernel)
theorem mlM_102 : (.methodLink RM 102 yM_signOf : Cond) ∈ TB := tb_in 604 (by decide +kernel) (by decide +kernel)
theorem smM_signOf : (.static yM_signOf : Cond) ∈ TB := tb_in 605 (by decide +kernel) (by decide +kernel)
theorem coM_signOf : (.code yM_signOf cM_signOf 2 (some .int) : Cond) ∈ TB := tb_in 606 (by decide +kernel) (by decide +kernel)
theorem mlM_112 : (.methodLink RM 112 yM_compareRoot : Cond) ∈ TB := tb_in 607 (by decide +kernel) (by decide +kernel)
theorem imM_compareRoot : (.instanceMethod yM_compareRoot : Cond) ∈ TB := tb_in 609 (by decide +kernel) (by decide +kernel)
theorem coM_compareRoot : (.code yM_compareRoot cM_compareRoot 14 (some .int) : Cond) ∈ TB := tb_in 610 (by decide +kernel) (by decide +kernel)
theorem mlM_106 : (.methodLink RM 106 yM_signAt : Cond) ∈ TB := tb_in 611 (by decide +kernel) (by decide +kernel)
theorem imM_signAt : (.instanceMethod yM_signAt : Cond) ∈ TB := tb_in 613 (by decide +kernel) (by decide +kernel)
theorem coM_signAt : (.code yM_signAt cM_signAt 11 (some .int) : Cond) ∈ TB := tb_in 614 (by decide +kernel) (by decide +kernel)
theorem mlM_98 : (.methodLink RM 98 yM_addProduct : Cond) ∈ TB := tb_in 615 (by decide +kernel) (by decide +kernel)
theorem imM_addProduct : (.instanceMethod yM_addProduct : Cond) ∈ TB := tb_in 617 (by decide +kernel) (by decide +kernel)
theorem coM_addProduct : (.code yM_addProduct cM_addProduct 9 none : Cond) ∈ TB := tb_in 618 (by decide +kernel) (by decide +kernel)
theorem klM_89 : (.constantLong RM 89 (16777215) : Cond) ∈ TB := tb_in 619 (by decide +kernel) (by decide +kernel)
theorem klM_120 : (.constantLong RM 120 (-2) : Cond) ∈ TB := tb_in 620 (by decide +kernel) (by decide +kernel)
theorem klM_122 : (.constantLong RM 122 (4) : Cond) ∈ TB := tb_in 621 (by decide +kernel) (by decide +kernel)
theorem mlM_128 : (.methodLink RM 128 yM_lineCount : Cond) ∈ TB := tb_in 622 (by decide +kernel) (by decide +kernel)
theorem imM_lineCount : (.instanceMethod yM_lineCount : Cond) ∈ TB := tb_in 624 (by decide +kernel) (by decide +kernel)
theorem coM_lineCount : (.code yM_lineCount cM_lineCount 15 (some .int) : Cond) ∈ TB := tb_in 625 (by decide +kernel) (by decide +kernel)
theorem mlW_89 : (.methodLink RW 89 yM_winding : Cond) ∈ TB := tb_in 626 (by decide +kernel) (by decide +kernel)
theorem imM_winding : (.instanceMethod yM_winding : Cond) ∈ TB := tb_in 627 (by decide +kernel) (by decide +kernel)
theorem seM_winding : (.selects RM yM_winding yM_winding : Cond) ∈ TB := tb_in 628 (by decide +kernel) (by decide +kernel)
theorem coM_winding : (.code yM_winding cM_winding 3 (some .int) : Cond) ∈ TB := tb_in 629 (by decide +kernel) (by decide +kernel)
theorem mlM_152 : (.methodLink RM 152 yM_isFar : Cond) ∈ TB := tb_in 630 (by decide +kernel) (by decide +kernel)
theorem smM_isFar : (.static yM_isFar : Cond) ∈ TB := tb_in 631 (by decide +kernel) (by decide +kernel)
theorem coM_isFar : (.code yM_isFar cM_isFar 1 (some .boolean) : Cond) ∈ TB := tb_in 632 (by decide +kernel) (by decide +kernel)
theorem mlW_93 : (.methodLink RW 93 yM_row : Cond) ∈ TB := tb_in 633 (by decide +kernel) (by decide +kernel)
theorem imM_row : (.instanceMethod yM_row : Cond) ∈ TB := tb_in 634 (by decide +kernel) (by decide +kernel)
theorem seM_row : (.selects RM yM_row yM_row : Cond) ∈ TB := tb_in 635 (by decide +kernel) (by decide +kernel)
theorem coM_row : (.code yM_row cM_row 5 (some .long) : Cond) ∈ TB := tb_in 636 (by decide +kernel) (by decide +kernel)
theorem mlM_155 : (.methodLink RM 155 yM_isPlace : Cond) ∈ TB := tb_in 637 (by decide +kernel) (by decide +kernel)
theorem smM_isPlace : (.static yM_isPlace : Cond) ∈ TB := tb_in 638 (by decide +kernel) (by decide +kernel)
theorem coM_isPlace : (.code yM_isPlace cM_isPlace 1 (some .boolean) : Cond) ∈ TB := tb_in 639 (by decide +kernel) (by decide +kernel)
theorem mlW_96 : (.methodLink RW 96 yM_share : Cond) ∈ TB := tb_in 640 (by decide +kernel) (by decide +kernel)
theorem imM_share : (.instanceMethod yM_share : Cond) ∈ TB := tb_in 641 (by decide +kernel) (by decide +kernel)
theorem seM_share : (.selects RM yM_share yM_share : Cond) ∈ TB := tb_in 642 (by decide +kernel) (by decide +kernel)
theorem coM_share : (.code yM_share cM_share 5 (some .int) : Cond) ∈ TB := tb_in 643 (by decide +kernel) (by decide +kernel)
theorem mlW_99 : (.methodLink RW 99 yM_spans : Cond) ∈ TB := tb_in 644 (by decide +kernel) (by decide +kernel)
theorem imM_spans : (.instanceMethod yM_spans : Cond) ∈ TB := tb_in 645 (by decide +kernel) (by decide +kernel)
theorem seM_spans : (.selects RM yM_spans yM_spans : Cond) ∈ TB := tb_in 646 (by decide +kernel) (by decide +kernel)
theorem coM_spans : (.code yM_spans cM_spans 6 (some .int) : Cond) ∈ TB := tb_in 647 (by decide +kernel) (by decide +kernel)
theorem mlW_102 : (.methodLink RW 102 yM_span : Cond) ∈ TB := tb_in 648 (by decide +kernel) (by decide +kernel)
theorem imM_span : (.instanceMethod yM_span : Cond) ∈ TB := tb_in 649 (by decide +kernel) (by decide +kernel)
theorem seM_span : (.selects RM yM_span yM_span : Cond) ∈ TB := tb_in 650 (by decide +kernel) (by decide +kernel)
theorem coM_span : (.code yM_span cM_span 10 (some .int) : Cond) ∈ TB := tb_in 651 (by decide +kernel) (by decide +kernel)
theorem mlW_105 : (.methodLink RW 105 yM_extent : Cond) ∈ TB := tb_in 652 (by decide +kernel) (by decide +kernel)
theorem imM_extent : (.instanceMethod yM_extent : Cond) ∈ TB := tb_in 653 (by decide +kernel) (by decide +kernel)
theorem seM_extent : (.selects RM yM_extent yM_extent : Cond) ∈ TB := tb_in 654 (by decide +kernel) (by decide +kernel)
theorem coM_extent : (.code yM_extent cM_extent 8 (some .int) : Cond) ∈ TB := tb_in 655 (by decide +kernel) (by decide +kernel)
theorem mlM_162 : (.methodLink RM 162 yM_bound : Cond) ∈ TB := tb_in 656 (by decide +kernel) (by decide +kernel)
theorem imM_bound : (.instanceMethod yM_bound : Cond) ∈ TB := tb_in 658 (by decide +kernel) (by decide +kernel)
theorem coM_bound : (.code yM_bound cM_bound 17 (some .long) : Cond) ∈ TB := tb_in 659 (by decide +kernel) (by decide +kernel)
theorem mlM_158 : (.methodLink RM 158 yM_ceiling : Cond) ∈ TB := tb_in 660 (by decide +kernel) (by decide +kernel)
theorem smM_ceiling : (.static yM_ceiling : Cond) ∈ TB := tb_in 661 (by decide +kernel) (by decide +kernel)
theorem coM_ceiling : (.code yM_ceiling cM_ceiling 4 (some .long) : Cond) ∈ TB := tb_in 662 (by decide +kernel) (by decide +kernel)
theorem ac_long : (.arrayClass .long : Cond) ∈ TB := tb_in 663 (by decide +kernel) (by decide +kernel)
theorem seC_countPieces : (.selects RC yC_countPieces yC_countPieces : Cond) ∈ TB := tb_in 0 (by decide +kernel) (by decide +kernel)
theorem seC_countSet : (.selects RC yC_countSet yC_countSet : Cond) ∈ TB := tb_in 1 (by decide +kernel) (by decide +kernel)
theorem seC_rowBits : (.selects RC yC_rowBits yC_rowBits : Cond) ∈ TB := tb_in 2 (by decide +kernel) (by decide +kernel)
theorem seC_wind : (.selects RC yC_wind yC_wind : Cond) ∈ TB := tb_in 3 (by decide +kernel) (by decide +kernel)
theorem seL_isRightOf : (.selects RL yL_isRightOf yL_isRightOf : Cond) ∈ TB := tb_in 4 (by decide +kernel) (by decide +kernel)
theorem seL_compareToRoot : (.selects RL yL_compareToRoot yL_compareToRoot : Cond) ∈ TB := tb_in 5 (by decide +kernel) (by decide +kernel)
theorem seC_isIn : (.selects RC yC_isIn yC_isIn : Cond) ∈ TB := tb_in 6 (by decide +kernel) (by decide +kernel)
theorem seC_pieceOf : (.selects RC yC_pieceOf yC_pieceOf : Cond) ∈ TB := tb_in 8 (by decide +kernel) (by decide +kernel)
theorem seC_curveEnd : (.selects RC yC_curveEnd yC_curveEnd : Cond) ∈ TB := tb_in 9 (by decide +kernel) (by decide +kernel)
theorem seM_refused : (.selects RM yM_refused yM_refused : Cond) ∈ TB := tb_in 10 (by decide +kernel) (by decide +kernel)
theorem seM_open : (.selects RM yM_open yM_open : Cond) ∈ TB := tb_in 11 (by decide +kernel) (by decide +kernel)
theorem seM_closed : (.selects RM yM_closed yM_closed : Cond) ∈ TB := tb_in 12 (by decide +kernel) (by decide +kernel)
theorem seM_countOf : (.selects RM yM_countOf yM_countOf : Cond) ∈ TB := tb_in 13 (by decide +kernel) (by decide +kernel)
theorem seM_makePieces : (.selects RM yM_makePieces yM_makePieces : Cond) ∈ TB := tb_in 14 (by decide +kernel) (by decide +kernel)
theorem seM_makeRing : (.selects RM yM_makeRing yM_makeRing : Cond) ∈ TB := tb_in 15 (by decide +kernel) (by decide +kernel)
theorem seM_putRing : (.selects RM yM_putRing yM_putRing : Cond) ∈ TB := tb_in 16 (by decide +kernel) (by decide +kernel)
theorem seM_putPiece : (.selects RM yM_putPiece yM_putPiece : Cond) ∈ TB := tb_in 17 (by decide +kernel) (by decide +kernel)
theorem seM_setPixels : (.selects RM yM_setPixels yM_setPixels : Cond) ∈ TB := tb_in 18 (by decide +kernel) (by decide +kernel)
theorem seM_isSet : (.selects RM yM_isSet yM_isSet : Cond) ∈ TB := tb_in 19 (by decide +kernel) (by decide +kernel)
theorem seM_isIn : (.selects RM yM_isIn yM_isIn : Cond) ∈ TB := tb_in 20 (by decide +kernel) (by decide +kernel)
theorem seM_windingOf : (.selects RM yM_windingOf yM_windingOf : Cond) ∈ TB := tb_in 21 (by decide +kernel) (by decide +kernel)
theorem seM_curveCount : (.selects RM yM_curveCount yM_curveCount : Cond) ∈ TB := tb_in 22 (by decide +kernel) (by decide +kernel)
theorem seM_isLeft : (.selects RM yM_isLeft yM_isLeft : Cond) ∈ TB := tb_in 23 (by decide +kernel) (by decide +kernel)
theorem seM_compareRoot : (.selects RM yM_compareRoot yM_compareRoot : Cond) ∈ TB := tb_in 24 (by decide +kernel) (by decide +kernel)
theorem seM_signAt : (.selects RM yM_signAt yM_signAt : Cond) ∈ TB := tb_in 25 (by decide +kernel) (by decide +kernel)
theorem seM_addProduct : (.selects RM yM_addProduct yM_addProduct : Cond) ∈ TB := tb_in 26 (by decide +kernel) (by decide +kernel)
theorem seM_lineCount : (.selects RM yM_lineCount yM_lineCount : Cond) ∈ TB := tb_in 27 (by decide +kernel) (by decide +kernel)
theorem seM_bound : (.selects RM yM_bound yM_bound : Cond) ∈ TB := tb_in 28 (by decide +kernel) (by decide +kernel)
theorem inP : ∀ w ∈ u_ws RP TP 11, w ∈ TB := by
  intro w hw
  have h1 : u_ws RP TP 11 = [323, 325, 327, 329, 331, 333, 335, 337, 339, 341, 343].filterMap (fun i => lw_tbl[i]?) := by decide +kernel
  have h2 : (u_ws RP TP 11).all goodWord = true := by decide +kernel
  have h3 := List.all_eq_true.mp h2 w hw
  rw [h1] at hw
  obtain ⟨i, -, hi⟩ := List.mem_filterMap.mp hw
  exact tb_in i hi h3
theorem inL : ∀ w ∈ u_ws RL TL 4, w ∈ TB := by
  intro w hw
  have h1 : u_ws RL TL 4 = [63, 65, 67, 69].filterMap (fun i => lw_tbl[i]?) := by decide +kernel
  have h2 : (u_ws RL TL 4).all goodWord = true := by decide +kernel
  have h3 := List.all_eq_true.mp h2 w hw
  rw [h1] at hw
  obtain ⟨i, -, hi⟩ := List.mem_filterMap.mp hw
  exact tb_in i hi h3
theorem inC : ∀ w ∈ u_ws RC TC 10, w ∈ TB := by
  intro w hw
  have h1 : u_ws RC TC 10 = [84, 86, 88, 90, 92, 94, 96, 98, 100, 102].filterMap (fun i => lw_tbl[i]?) := by decide +kernel
  have h2 : (u_ws RC TC 10).all goodWord = true := by decide +kernel
  have h3 := List.all_eq_true.mp h2 w hw
  rw [h1] at hw
  obtain ⟨i, -, hi⟩ := List.mem_filterMap.mp hw
  exact tb_in i hi h3
theorem inM : ∀ w ∈ u_ws RM TM 17, w ∈ TB := by
  intro w hw
  have h1 : u_ws RM TM 17 = [475, 477, 479, 481, 483, 485, 487, 489, 491, 493, 495, 497, 499, 501, 503, 505, 507].filterMap (fun i => lw_tbl[i]?) := by decide +kernel
  have h2 : (u_ws RM TM 17).all goodWord = true := by decide +kernel
  have h3 := List.all_eq_true.mp h2 w hw
  rw [h1] at hw
  obtain ⟨i, -, hi⟩ := List.mem_filterMap.mp hw
  exact tb_in i hi h3
def wC_init : List Cond := .code yC_init cC_init 1 none :: TB
def wL_init : List Cond := .code yL_init cL_init 1 none :: TB
def wC_drop : List Cond := .code yC_drop cC_drop 2 (some .int) :: TB
def wC_clear : List Cond := .code yC_clear cC_clear 2 (some .int) :: TB
def wC_parity : List Cond := .code yC_parity cC_parity 3 (some .boolean) :: TB
def wC_count : List Cond := .code yC_count cC_count 2 (some .int) :: TB
def wC_countPieces : List Cond := .code yC_countPieces cC_countPieces 5 (some .int) :: TB
def wC_countSet : List Cond := .code yC_countSet cC_countSet 3 (some .int) :: TB
def wC_rowBits : List Cond := .code yC_rowBits cC_rowBits 5 (some .long) :: TB
def wC_bottomOf : List Cond := .code yC_bottomOf cC_bottomOf 1 (some .int) :: TB
def wC_wind : List Cond := .code yC_wind cC_wind 7 none :: TB
def wJA_fill : List Cond := .code yJA_fill cJA_fill 4 none :: TB
def wP_crosses : List Cond := .code yP_crosses cP_crosses 5 (some .boolean) :: TB
def wP_underRoot : List Cond := .code yP_underRoot cP_underRoot 2 (some .long) :: TB
def wL_take : List Cond := .code yL_take cL_take 16 none :: TB
def wL_pointsLeft : List Cond := .code yL_pointsLeft cL_pointsLeft 6 (some .int) :: TB
def wL_isRightOf : List Cond := .code yL_isRightOf cL_isRightOf 4 (some .boolean) :: TB
def wL_compareToRoot : List Cond := .code yL_compareToRoot cL_compareToRoot 11 (some .long) :: TB
def wC_isIn : List Cond := .code yC_isIn cC_isIn 2 (some .boolean) :: TB
def wJL_bitCount : List Cond := .code yJL_bitCount cJL_bitCount 2 (some .int) :: TB
def wW_add : List Cond := .codeWith yW_add cW_add 6 (some .int) [(0, 12, 15, 13), (0, 12, 19, 15)] :: TB
def wC_add : List Cond := .code yC_add cC_add 4 (some .int) :: TB
def wC_canBeTold : List Cond := .code yC_canBeTold cC_canBeTold 2 (some .boolean) :: TB
def wW_close : List Cond := .codeWith yW_close cW_close 3 (some .int) [(0, 8, 11, 15)] :: TB
def wC_close : List Cond := .code yC_close cC_close 2 (some .int) :: TB
def wC_pieceOf : List Cond := .code yC_pieceOf cC_pieceOf 6 (some (.object "CurveRaster$Piece")) :: TB
def wC_curveEnd : List Cond := .code yC_curveEnd cC_curveEnd 4 (some .int) :: TB
def wJM_floorDiv : List Cond := .code yJM_floorDiv cJM_floorDiv 3 (some .int) :: TB
def wP_init : List Cond := .code yP_init cP_init 8 none :: TB
def wW_move : List Cond := .codeWith yW_move cW_move 4 (some .int) [(0, 6, 9, 13)] :: TB
def wC_move : List Cond := .code yC_move cC_move 5 none :: TB
def wP_shift : List Cond := .code yP_shift cP_shift 3 none :: TB
def wW_winding : List Cond := .codeWith yW_winding cW_winding 5 (some .int) [(0, 10, 13, 13)] :: TB
def wC_winding : List Cond := .code yC_winding cC_winding 3 (some .int) :: TB
def wC_canBeAsked : List Cond := .code yC_canBeAsked cC_canBeAsked 1 (some .boolean) :: TB
def wW_row : List Cond := .codeWith yW_row cW_row 4 (some .int) [(0, 8, 11, 33)] :: TB
def wC_row : List Cond := .code yC_row cC_row 2 (some .long) :: TB
def wC_isInPicture : List Cond := .code yC_isInPicture cC_isInPicture 1 (some .boolean) :: TB
def wW_share : List Cond := .codeWith yW_share cW_share 5 (some .int) [(0, 10, 13, 33)] :: TB
def wC_share : List Cond := .code yC_share cC_share 6 (some .int) :: TB
def wW_spans : List Cond := .codeWith yW_spans cW_spans 4 (some .int) [(0, 9, 12, 33)] :: TB
def wC_spans : List Cond := .code yC_spans cC_spans 2 (some .int) :: TB
def wC_firstsOf : List Cond := .code yC_firstsOf cC_firstsOf 2 (some .long) :: TB
def wW_span : List Cond := .codeWith yW_span cW_span 6 (some .int) [(0, 12, 15, 33)] :: TB
def wC_span : List Cond := .code yC_span cC_span 7 (some .int) :: TB
def wC_lastsOf : List Cond := .code yC_lastsOf cC_lastsOf 2 (some .long) :: TB
def wC_bitNumber : List Cond := .code yC_bitNumber cC_bitNumber 5 (some .int) :: TB
def wW_extent : List Cond := .codeWith yW_extent cW_extent 4 (some .int) [(0, 9, 12, 33), (0, 9, 15, 15)] :: TB
def wC_extent : List Cond := .code yC_extent cC_extent 7 (some .int) :: TB
def wP_bound : List Cond := .code yP_bound cP_bound 2 (some .int) :: TB
def wP_floorOfLeast : List Cond := .code yP_floorOfLeast cP_floorOfLeast 4 (some .int) :: TB
def wJM_min : List Cond := .code yJM_min cJM_min 2 (some .int) :: TB
def wJM_max : List Cond := .code yJM_max cJM_max 2 (some .int) :: TB
def wM_init : List Cond := .code yM_init cM_init 1 none :: TB
def wM_thrown : List Cond := .code yM_thrown cM_thrown 1 (some .int) :: TB
def wM_add : List Cond := .code yM_add cM_add 4 (some .int) :: TB
def wM_isCoordinate : List Cond := .code yM_isCoordinate cM_isCoordinate 2 (some .boolean) :: TB
def wM_refused : List Cond := .code yM_refused cM_refused 2 (some .boolean) :: TB
def wM_open : List Cond := .code yM_open cM_open 1 (some .int) :: TB
def wM_closed : List Cond := .code yM_closed cM_closed 1 (some .int) :: TB
def wM_close : List Cond := .code yM_close cM_close 1 (some .int) :: TB
def wM_drop : List Cond := .code yM_drop cM_drop 2 (some .int) :: TB
def wM_clear : List Cond := .code yM_clear cM_clear 2 (some .int) :: TB
def wM_move : List Cond := .code yM_move cM_move 5 none :: TB
def wM_parity : List Cond := .code yM_parity cM_parity 3 (some .boolean) :: TB
def wM_count : List Cond := .code yM_count cM_count 2 (some .int) :: TB
def wM_countOf : List Cond := .code yM_countOf cM_countOf 4 (some .int) :: TB
def wM_makePieces : List Cond := .code yM_makePieces cM_makePieces 4 none :: TB
def wM_makeRing : List Cond := .code yM_makeRing cM_makeRing 5 none :: TB
def wM_putRing : List Cond := .code yM_putRing cM_putRing 4 none :: TB
def wM_putPiece : List Cond := .code yM_putPiece cM_putPiece 6 none :: TB
def wM_setPixels : List Cond := .code yM_setPixels cM_setPixels 3 (some .int) :: TB
def wM_isSet : List Cond := .code yM_isSet cM_isSet 3 (some .boolean) :: TB
def wM_isIn : List Cond := .code yM_isIn cM_isIn 4 (some .boolean) :: TB
def wM_windingOf : List Cond := .code yM_windingOf cM_windingOf 5 (some .int) :: TB
def wM_curveCount : List Cond := .code yM_curveCount cM_curveCount 22 (some .int) :: TB
def wM_isLeft : List Cond := .code yM_isLeft cM_isLeft 23 (some .boolean) :: TB
def wM_signOf : List Cond := .code yM_signOf cM_signOf 2 (some .int) :: TB
def wM_compareRoot : List Cond := .code yM_compareRoot cM_compareRoot 14 (some .int) :: TB
def wM_signAt : List Cond := .code yM_signAt cM_signAt 11 (some .int) :: TB
def wM_addProduct : List Cond := .code yM_addProduct cM_addProduct 9 none :: TB
def wM_lineCount : List Cond := .code yM_lineCount cM_lineCount 15 (some .int) :: TB
def wM_winding : List Cond := .code yM_winding cM_winding 3 (some .int) :: TB
def wM_isFar : List Cond := .code yM_isFar cM_isFar 1 (some .boolean) :: TB
def wM_row : List Cond := .code yM_row cM_row 5 (some .long) :: TB
def wM_isPlace : List Cond := .code yM_isPlace cM_isPlace 1 (some .boolean) :: TB
def wM_share : List Cond := .code yM_share cM_share 5 (some .int) :: TB
def wM_spans : List Cond := .code yM_spans cM_spans 6 (some .int) :: TB
def wM_span : List Cond := .code yM_span cM_span 10 (some .int) :: TB
def wM_extent : List Cond := .code yM_extent cM_extent 8 (some .int) :: TB
def wM_bound : List Cond := .code yM_bound cM_bound 17 (some .long) :: TB
def wM_ceiling : List Cond := .code yM_ceiling cM_ceiling 4 (some .long) :: TB
theorem tb_good : GoodIn TB TB := fun w h => ⟨h, good_of_word (List.mem_filter.mp h).2⟩
/-- a callee's words among a caller's -/
theorem tb_call {a b : Cond} (hb : b ∈ TB) : GoodIn (a :: TB) (b :: TB) := fun w h => by
  have h1 : w ∈ TB := (List.mem_cons.mp h).elim (fun e => by rw [e]; exact hb) id
  exact ⟨List.mem_cons_of_mem _ h1, good_of_word (List.mem_filter.mp h1).2⟩
theorem tb_app {a : Cond} {xs ws : List Cond} (hx : ∀ w ∈ xs, w ∈ TB) (hw : GoodIn (a :: TB) ws) : GoodIn (a :: TB) (xs ++ ws) := fun w h => (List.mem_append.mp h).elim (fun h => ⟨List.mem_cons_of_mem _ (hx w h), good_of_word (List.mem_filter.mp (hx w h)).2⟩) (hw w)
theorem tb_V {a b : Cond} {own C : String} {idx : Nat} {y : MethodName} (h1 : Cond.methodLink own idx y ∈ TB) (h2 : Cond.instanceMethod y ∈ TB) (h3 : Cond.selects C y y ∈ TB) (h4 : Cond.initialized C ∈ TB) (hb : b ∈ TB) : GoodIn (a :: TB) (wsV own idx C y (b :: TB)) := tb_app (fun w h => by rcases List.mem_cons.mp h with rfl | h; exact h1; rcases List.mem_cons.mp h with rfl | h; exact h2; rcases List.mem_cons.mp h with rfl | h; exact h3; rcases List.mem_cons.mp h with rfl | h; exact h4; cases h) (tb_call hb)
theorem tb_S {a b : Cond} {own : String} {idx : Nat} {y : MethodName} (h1 : Cond.methodLink own idx y ∈ TB) (h2 : Cond.static y ∈ TB) (h3 : Cond.initialized y.cls ∈ TB) (hb : b ∈ TB) : GoodIn (a :: TB) (va_wsS own idx y (b :: TB)) := tb_app (fun w h => by rcases List.mem_cons.mp h with rfl | h; exact h1; rcases List.mem_cons.mp h with rfl | h; exact h2; rcases List.mem_cons.mp h with rfl | h; exact h3; cases h) (tb_call hb)
