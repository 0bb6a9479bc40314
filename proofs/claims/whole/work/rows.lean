section
-- ===== PART A: goes FIRST, ahead of the names: the tables' words, and 'selects' of the private methods out of them =====
/-- a private method of a class that the tables say can be made, by its rows of tables_1 -/
def lw_okq (q : MethodName × Nat) : Prop := (q.1.cls ≠ "java/lang/invoke/MethodHandle" ∧ q.1.cls ≠ "java/lang/invoke/VarHandle") ∧ Cond.instantiable q.1.cls q.2 ∈ tables_1 ∧ Cond.privateMethod q.1 ∈ tables_1 ∧ Cond.instanceMethod q.1 ∈ tables_1
theorem lw_p0 : lw_okq (⟨"PrivateCounts$Natural", "append", "(J)V"⟩, 2) := ⟨⟨by decide +kernel, by decide +kernel⟩, List.mem_of_getElem? (i := 64) (by decide +kernel), List.mem_of_getElem? (i := 97) (by decide +kernel), List.mem_of_getElem? (i := 98) (by decide +kernel)⟩
theorem lw_p1 : lw_okq (⟨"java/lang/Throwable", "fillInStackTrace", "(I)Ljava/lang/Throwable;"⟩, 6) := ⟨⟨by decide +kernel, by decide +kernel⟩, List.mem_of_getElem? (i := 219) (by decide +kernel), List.mem_of_getElem? (i := 217) (by decide +kernel), List.mem_of_getElem? (i := 218) (by decide +kernel)⟩
theorem lw_p2 : lw_okq (⟨"PrivateCounts$Natural", "trim", "()V"⟩, 2) := ⟨⟨by decide +kernel, by decide +kernel⟩, List.mem_of_getElem? (i := 64) (by decide +kernel), List.mem_of_getElem? (i := 331) (by decide +kernel), List.mem_of_getElem? (i := 332) (by decide +kernel)⟩
theorem lw_p3 : lw_okq (⟨"PrivateCounts$Fraction", "change", "(III)V"⟩, 2) := ⟨⟨by decide +kernel, by decide +kernel⟩, List.mem_of_getElem? (i := 85) (by decide +kernel), List.mem_of_getElem? (i := 350) (by decide +kernel), List.mem_of_getElem? (i := 351) (by decide +kernel)⟩
theorem lw_p4 : lw_okq (⟨"PrivateCountsModel", "put", "(IJ)V"⟩, 16) := ⟨⟨by decide +kernel, by decide +kernel⟩, List.mem_of_getElem? (i := 439) (by decide +kernel), List.mem_of_getElem? (i := 445) (by decide +kernel), List.mem_of_getElem? (i := 446) (by decide +kernel)⟩
theorem lw_p5 : lw_okq (⟨"PrivateCountsModel", "trim", "(II)V"⟩, 16) := ⟨⟨by decide +kernel, by decide +kernel⟩, List.mem_of_getElem? (i := 439) (by decide +kernel), List.mem_of_getElem? (i := 450) (by decide +kernel), List.mem_of_getElem? (i := 451) (by decide +kernel)⟩
theorem lw_p6 : lw_okq (⟨"PrivateCountsModel", "countRows", "(II)I"⟩, 16) := ⟨⟨by decide +kernel, by decide +kernel⟩, List.mem_of_getElem? (i := 439) (by decide +kernel), List.mem_of_getElem? (i := 520) (by decide +kernel), List.mem_of_getElem? (i := 521) (by decide +kernel)⟩
theorem lw_p7 : lw_okq (⟨"PrivateCountsModel", "allOf", "()J"⟩, 16) := ⟨⟨by decide +kernel, by decide +kernel⟩, List.mem_of_getElem? (i := 439) (by decide +kernel), List.mem_of_getElem? (i := 528) (by decide +kernel), List.mem_of_getElem? (i := 529) (by decide +kernel)⟩
theorem lw_p8 : lw_okq (⟨"PrivateCountsModel", "weightOf", "(II)J"⟩, 16) := ⟨⟨by decide +kernel, by decide +kernel⟩, List.mem_of_getElem? (i := 439) (by decide +kernel), List.mem_of_getElem? (i := 543) (by decide +kernel), List.mem_of_getElem? (i := 544) (by decide +kernel)⟩
theorem lw_p9 : lw_okq (⟨"PrivateCountsModel", "isOut", "(I)Z"⟩, 16) := ⟨⟨by decide +kernel, by decide +kernel⟩, List.mem_of_getElem? (i := 439) (by decide +kernel), List.mem_of_getElem? (i := 547) (by decide +kernel), List.mem_of_getElem? (i := 548) (by decide +kernel)⟩
theorem lw_p10 : lw_okq (⟨"PrivateCountsModel", "noCoin", "(J)Z"⟩, 16) := ⟨⟨by decide +kernel, by decide +kernel⟩, List.mem_of_getElem? (i := 439) (by decide +kernel), List.mem_of_getElem? (i := 559) (by decide +kernel), List.mem_of_getElem? (i := 560) (by decide +kernel)⟩
theorem lw_p11 : lw_okq (⟨"PrivateCountsModel", "drawn", "(IJ)I"⟩, 16) := ⟨⟨by decide +kernel, by decide +kernel⟩, List.mem_of_getElem? (i := 439) (by decide +kernel), List.mem_of_getElem? (i := 563) (by decide +kernel), List.mem_of_getElem? (i := 564) (by decide +kernel)⟩
theorem lw_p12 : lw_okq (⟨"PrivateCountsModel", "enough", "(II)Z"⟩, 16) := ⟨⟨by decide +kernel, by decide +kernel⟩, List.mem_of_getElem? (i := 439) (by decide +kernel), List.mem_of_getElem? (i := 578) (by decide +kernel), List.mem_of_getElem? (i := 579) (by decide +kernel)⟩
theorem lw_p13 : lw_okq (⟨"PrivateCountsModel", "reaches", "()Z"⟩, 16) := ⟨⟨by decide +kernel, by decide +kernel⟩, List.mem_of_getElem? (i := 439) (by decide +kernel), List.mem_of_getElem? (i := 585) (by decide +kernel), List.mem_of_getElem? (i := 586) (by decide +kernel)⟩
theorem lw_p14 : lw_okq (⟨"PrivateCountsModel", "set", "(III)V"⟩, 16) := ⟨⟨by decide +kernel, by decide +kernel⟩, List.mem_of_getElem? (i := 439) (by decide +kernel), List.mem_of_getElem? (i := 600) (by decide +kernel), List.mem_of_getElem? (i := 601) (by decide +kernel)⟩
theorem lw_p15 : lw_okq (⟨"PrivateCountsModel", "lowest", "(III)V"⟩, 16) := ⟨⟨by decide +kernel, by decide +kernel⟩, List.mem_of_getElem? (i := 439) (by decide +kernel), List.mem_of_getElem? (i := 604) (by decide +kernel), List.mem_of_getElem? (i := 605) (by decide +kernel)⟩
def lw_privs_1 : List (MethodName × Nat) := [(⟨"PrivateCounts$Natural", "append", "(J)V"⟩, 2), (⟨"java/lang/Throwable", "fillInStackTrace", "(I)Ljava/lang/Throwable;"⟩, 6), (⟨"PrivateCounts$Natural", "trim", "()V"⟩, 2), (⟨"PrivateCounts$Fraction", "change", "(III)V"⟩, 2), (⟨"PrivateCountsModel", "put", "(IJ)V"⟩, 16), (⟨"PrivateCountsModel", "trim", "(II)V"⟩, 16), (⟨"PrivateCountsModel", "countRows", "(II)I"⟩, 16), (⟨"PrivateCountsModel", "allOf", "()J"⟩, 16), (⟨"PrivateCountsModel", "weightOf", "(II)J"⟩, 16), (⟨"PrivateCountsModel", "isOut", "(I)Z"⟩, 16), (⟨"PrivateCountsModel", "noCoin", "(J)Z"⟩, 16), (⟨"PrivateCountsModel", "drawn", "(IJ)I"⟩, 16), (⟨"PrivateCountsModel", "enough", "(II)Z"⟩, 16), (⟨"PrivateCountsModel", "reaches", "()Z"⟩, 16), (⟨"PrivateCountsModel", "set", "(III)V"⟩, 16), (⟨"PrivateCountsModel", "lowest", "(III)V"⟩, 16)]
theorem lw_r1 : ∀ q ∈ lw_privs_1, lw_okq q := List.forall_mem_cons.mpr ⟨lw_p0, List.forall_mem_cons.mpr ⟨lw_p1, List.forall_mem_cons.mpr ⟨lw_p2, List.forall_mem_cons.mpr ⟨lw_p3, List.forall_mem_cons.mpr ⟨lw_p4, List.forall_mem_cons.mpr ⟨lw_p5, List.forall_mem_cons.mpr ⟨lw_p6, List.forall_mem_cons.mpr ⟨lw_p7, List.forall_mem_cons.mpr ⟨lw_p8, List.forall_mem_cons.mpr ⟨lw_p9, List.forall_mem_cons.mpr ⟨lw_p10, List.forall_mem_cons.mpr ⟨lw_p11, List.forall_mem_cons.mpr ⟨lw_p12, List.forall_mem_cons.mpr ⟨lw_p13, List.forall_mem_cons.mpr ⟨lw_p14, List.forall_mem_cons.mpr ⟨lw_p15, fun _ h => absurd h List.not_mem_nil⟩⟩⟩⟩⟩⟩⟩⟩⟩⟩⟩⟩⟩⟩⟩⟩
theorem lw_p16 : lw_okq (⟨"PrivateCountsModel", "divisor", "(II)V"⟩, 16) := ⟨⟨by decide +kernel, by decide +kernel⟩, List.mem_of_getElem? (i := 439) (by decide +kernel), List.mem_of_getElem? (i := 608) (by decide +kernel), List.mem_of_getElem? (i := 609) (by decide +kernel)⟩
theorem lw_p17 : lw_okq (⟨"PrivateCountsModel", "copy", "(II)V"⟩, 16) := ⟨⟨by decide +kernel, by decide +kernel⟩, List.mem_of_getElem? (i := 439) (by decide +kernel), List.mem_of_getElem? (i := 612) (by decide +kernel), List.mem_of_getElem? (i := 613) (by decide +kernel)⟩
theorem lw_p18 : lw_okq (⟨"PrivateCountsModel", "halve", "(I)V"⟩, 16) := ⟨⟨by decide +kernel, by decide +kernel⟩, List.mem_of_getElem? (i := 439) (by decide +kernel), List.mem_of_getElem? (i := 617) (by decide +kernel), List.mem_of_getElem? (i := 618) (by decide +kernel)⟩
theorem lw_p19 : lw_okq (⟨"PrivateCountsModel", "compare", "(II)I"⟩, 16) := ⟨⟨by decide +kernel, by decide +kernel⟩, List.mem_of_getElem? (i := 439) (by decide +kernel), List.mem_of_getElem? (i := 621) (by decide +kernel), List.mem_of_getElem? (i := 622) (by decide +kernel)⟩
theorem lw_p20 : lw_okq (⟨"PrivateCountsModel", "figureOf", "(II)J"⟩, 16) := ⟨⟨by decide +kernel, by decide +kernel⟩, List.mem_of_getElem? (i := 439) (by decide +kernel), List.mem_of_getElem? (i := 625) (by decide +kernel), List.mem_of_getElem? (i := 626) (by decide +kernel)⟩
theorem lw_p21 : lw_okq (⟨"PrivateCountsModel", "minus", "(III)V"⟩, 16) := ⟨⟨by decide +kernel, by decide +kernel⟩, List.mem_of_getElem? (i := 439) (by decide +kernel), List.mem_of_getElem? (i := 629) (by decide +kernel), List.mem_of_getElem? (i := 630) (by decide +kernel)⟩
theorem lw_p22 : lw_okq (⟨"PrivateCountsModel", "take", "(II)V"⟩, 16) := ⟨⟨by decide +kernel, by decide +kernel⟩, List.mem_of_getElem? (i := 439) (by decide +kernel), List.mem_of_getElem? (i := 633) (by decide +kernel), List.mem_of_getElem? (i := 634) (by decide +kernel)⟩
theorem lw_p23 : lw_okq (⟨"PrivateCountsModel", "plus", "(III)V"⟩, 16) := ⟨⟨by decide +kernel, by decide +kernel⟩, List.mem_of_getElem? (i := 439) (by decide +kernel), List.mem_of_getElem? (i := 637) (by decide +kernel), List.mem_of_getElem? (i := 638) (by decide +kernel)⟩
theorem lw_p24 : lw_okq (⟨"PrivateCountsModel", "divide", "(IIII)V"⟩, 16) := ⟨⟨by decide +kernel, by decide +kernel⟩, List.mem_of_getElem? (i := 439) (by decide +kernel), List.mem_of_getElem? (i := 641) (by decide +kernel), List.mem_of_getElem? (i := 642) (by decide +kernel)⟩
theorem lw_p25 : lw_okq (⟨"PrivateCountsModel", "add0", "(III)V"⟩, 16) := ⟨⟨by decide +kernel, by decide +kernel⟩, List.mem_of_getElem? (i := 439) (by decide +kernel), List.mem_of_getElem? (i := 649) (by decide +kernel), List.mem_of_getElem? (i := 650) (by decide +kernel)⟩
theorem lw_p26 : lw_okq (⟨"PrivateCountsModel", "cross", "(II)V"⟩, 16) := ⟨⟨by decide +kernel, by decide +kernel⟩, List.mem_of_getElem? (i := 439) (by decide +kernel), List.mem_of_getElem? (i := 653) (by decide +kernel), List.mem_of_getElem? (i := 654) (by decide +kernel)⟩
theorem lw_p27 : lw_okq (⟨"PrivateCountsModel", "times", "(III)V"⟩, 16) := ⟨⟨by decide +kernel, by decide +kernel⟩, List.mem_of_getElem? (i := 439) (by decide +kernel), List.mem_of_getElem? (i := 657) (by decide +kernel), List.mem_of_getElem? (i := 658) (by decide +kernel)⟩
theorem lw_p28 : lw_okq (⟨"PrivateCountsModel", "isMore", "(II)Z"⟩, 16) := ⟨⟨by decide +kernel, by decide +kernel⟩, List.mem_of_getElem? (i := 439) (by decide +kernel), List.mem_of_getElem? (i := 666) (by decide +kernel), List.mem_of_getElem? (i := 667) (by decide +kernel)⟩
theorem lw_p29 : lw_okq (⟨"PrivateCountsModel", "subtract", "(III)V"⟩, 16) := ⟨⟨by decide +kernel, by decide +kernel⟩, List.mem_of_getElem? (i := 439) (by decide +kernel), List.mem_of_getElem? (i := 674) (by decide +kernel), List.mem_of_getElem? (i := 675) (by decide +kernel)⟩
def lw_privs_2 : List (MethodName × Nat) := [(⟨"PrivateCountsModel", "divisor", "(II)V"⟩, 16), (⟨"PrivateCountsModel", "copy", "(II)V"⟩, 16), (⟨"PrivateCountsModel", "halve", "(I)V"⟩, 16), (⟨"PrivateCountsModel", "compare", "(II)I"⟩, 16), (⟨"PrivateCountsModel", "figureOf", "(II)J"⟩, 16), (⟨"PrivateCountsModel", "minus", "(III)V"⟩, 16), (⟨"PrivateCountsModel", "take", "(II)V"⟩, 16), (⟨"PrivateCountsModel", "plus", "(III)V"⟩, 16), (⟨"PrivateCountsModel", "divide", "(IIII)V"⟩, 16), (⟨"PrivateCountsModel", "add0", "(III)V"⟩, 16), (⟨"PrivateCountsModel", "cross", "(II)V"⟩, 16), (⟨"PrivateCountsModel", "times", "(III)V"⟩, 16), (⟨"PrivateCountsModel", "isMore", "(II)Z"⟩, 16), (⟨"PrivateCountsModel", "subtract", "(III)V"⟩, 16)]
theorem lw_r2 : ∀ q ∈ lw_privs_2, lw_okq q := List.forall_mem_cons.mpr ⟨lw_p16, List.forall_mem_cons.mpr ⟨lw_p17, List.forall_mem_cons.mpr ⟨lw_p18, List.forall_mem_cons.mpr ⟨lw_p19, List.forall_mem_cons.mpr ⟨lw_p20, List.forall_mem_cons.mpr ⟨lw_p21, List.forall_mem_cons.mpr ⟨lw_p22, List.forall_mem_cons.mpr ⟨lw_p23, List.forall_mem_cons.mpr ⟨lw_p24, List.forall_mem_cons.mpr ⟨lw_p25, List.forall_mem_cons.mpr ⟨lw_p26, List.forall_mem_cons.mpr ⟨lw_p27, List.forall_mem_cons.mpr ⟨lw_p28, List.forall_mem_cons.mpr ⟨lw_p29, fun _ h => absurd h List.not_mem_nil⟩⟩⟩⟩⟩⟩⟩⟩⟩⟩⟩⟩⟩⟩
def lw_privs : List (MethodName × Nat) := lw_privs_1 ++ (lw_privs_2)
def lw_tbl : List Cond := k2_sels lw_privs ++ tables_1
theorem lw_privs_ok : ∀ q ∈ lw_privs, lw_okq q := by
  show ∀ q ∈ lw_privs_1 ++ (lw_privs_2), lw_okq q
  exact List.forall_mem_append.mpr ⟨lw_r1, lw_r2⟩
-- ===== end of PART A; then your names; then what follows =====
/-! ===== BEGIN words of one list among another's, by their places ===== -/
theorem goodIn_r {big : List Cond} (ws : List Cond) (ps : List Nat) (hp : ws = ps.filterMap (fun i => big[i]?)) (h : ws.all goodWord = true) : GoodIn big ws := by
  intro w hw
  have h1 := List.all_eq_true.mp h w hw
  rw [hp] at hw
  obtain ⟨i, -, hi⟩ := List.mem_filterMap.mp hw
  have hm : w ∈ big := by first | exact List.mem_of_getElem? hi | exact List.getElem?_mem hi
  exact ⟨hm, good_of_word h1⟩
theorem goodIn_app {big a b : List Cond} (ha : GoodIn big a) (hb : GoodIn big b) : GoodIn big (a ++ b) := fun w h => (List.mem_append.mp h).elim (ha w) (hb w)
theorem goodIn_ca {big a b : List Cond} {c : Cond} (ha : GoodIn big (c :: a)) (hb : GoodIn big b) : GoodIn big (c :: (a ++ b)) := fun w h => (List.mem_cons.mp h).elim (fun e => ha w (List.mem_cons.mpr (Or.inl e))) (fun h => (List.mem_append.mp h).elim (fun h => ha w (List.mem_cons.mpr (Or.inr h))) (hb w))
theorem goodIn_sub {big ws : List Cond} (hm : ∀ w ∈ ws, w ∈ big) (h : ws.all goodWord = true) : GoodIn big ws := fun w hw => ⟨hm w hw, good_of_word (List.all_eq_true.mp h w hw)⟩
/-! ===== END ===== -/

/-! ===== BEGIN exceptions that leave a method, and their catching by the caller (launches without stack traces) ===== -/
section VXA
/-! The laws vx_back, vx_callV, vx_callS, vx_callSW, vx_throw0, vx_throwS follow proofs of the library, with one case more: JvmDerived/Free/Laws.lean (Back.of_free), Shelf42/LK1.lean (callV, callS), Shelf/KitTraced.lean (throwNew0V, throwNewS). -/
/-- where a method has thrown q: the class by its name, the cell, what was written, the world -/
def vx_T (XC : String → State → State → Prop) (st : State) (q : Addr) (t : State) (mc ms : Nat) (free : Addr → Prop) : Prop :=
  ∃ (E : String) (ce : Cell) (L : List Loc), XC E st t ∧ t.heap[q]? = some ce ∧ ce.vm = .none ∧ st.vm.findClass E = some ce.cls ∧ st.WarmedH t.vm ∧ st.sameButNew ({ t with vm := st.vm } : State) L mc ms ∧ ∀ z ∈ L, free z.base
def vx_Q (Qc : Array Value → State → Outcome → State → Prop) (XC : String → State → State → Prop) (mc ms : Nat) (free : Addr → Prop) : Array Value → State → Outcome → State → Prop := fun a st o t =>
  (Qc a st o t ∧ ∃ L, FrameEnd st o t L mc ms ∧ ∀ q ∈ L, free q.base) ∨ ∃ q, o = .threw q ∧ vx_T XC st q t mc ms free
/-- a callee that returns or throws -/
def vx_Met (l : Launch) (y : MethodName) (ws : List Cond) (rm : Room) (Pc : Array Value → State → Prop) (Qc : Array Value → State → Outcome → State → Prop) (XC : String → State → State → Prop) (mc ms : Nat) (free : Addr → Prop) : Prop :=
  MetFree l y (headSpec ws rm) Pc (fun _ _ _ _ _ => True) (vx_Q Qc XC mc ms free)
def vx_Post (XC : String → State → State → Prop) (mc ms : Nat) (free : Addr → Prop) : Pt → Array Value → Addr → Pt → Prop := fun A a q B =>
  ∃ (g : JFrame) (mk : MethodId) (t : State) (L : List Loc) (E : String) (ce : Cell), B.U.heap = t.heap ∧ B.U.vm = t.vm ∧ XC E (A.U.calling g mk a) t ∧ t.heap[q]? = some ce ∧ ce.vm = .none ∧ A.U.vm.findClass E = some ce.cls ∧ B.locs = A.locs ++ L ∧ (∀ z ∈ L, free z.base) ∧ B.cells = A.cells + mc ∧ B.slots = A.slots + ms
def vx_Back (l : Launch) (R : Room) (p : Program) (e : Env) (below : List Frame) (s : State) (sargs : Array Value) (y : MethodName) (len W9 : Nat)
    (Pre : Pt → Array Value → Prop) (Post : Pt → Array Value → Option Value → Pt → Prop) (PostX : Pt → Array Value → Addr → Pt → Prop) : Prop :=
  ∀ (m : MethodId) (meth : Method) (c : Code) (A : Pt) (g : JFrame) (ig : Instr) (mk : MethodId) (a : Array Value),
    Stand p l e R s m sargs below meth c A.U A.locs A.cells A.slots → g.method = m → g.locals.size = c.maxLocals → decode c.code g.pc = .ok (ig, len) →
    2 * g.monitorRoom + (g.stack.map fun v => v.category).sum ≤ W9 → A.U.methodNamed? y = some mk → Pre A a →
    (∃ (v : Option Value) (B : Pt), Stand p l e R s m sargs below meth c B.U B.locs B.cells B.slots ∧ Post A a v B ∧
      Steps p.tables e below (doInvoke e (A.U.setTop g) [] mk a).1 (B.U.setTop { g with pc := g.pc + len, stack := v.toList ++ g.stack })) ∨
    (∃ (q : Addr) (B : Pt), Stand p l e R s m sargs below meth c B.U B.locs B.cells B.slots ∧ PostX A a q B ∧
      Steps p.tables e below (doInvoke e (A.U.setTop g) [] mk a).1 ((B.U.setTop g).pushFrame (.throwing q)))
section Payer
variable {l : Launch} {R : Room} {p : Program} {e : Env} {below : List Frame} {s : State} {sargs : Array Value} {y : MethodName} {len W9 : Nat}
theorem vx_back {ws : List Cond} {rm : Room} {Pc : Array Value → State → Prop} {Qc : Array Value → State → Outcome → State → Prop} {XC : String → State → State → Prop} {mc ms : Nat} {free : Addr → Prop} {bytes : ByteArray} {maxL : Nat} {ret : Option FieldType}
    (hM : vx_Met l y ws rm Pc Qc XC mc ms free) (hblind : FrameBlind Pc) (hrc : rm.cells = mc) (hrs : rm.slots = ms)
    (hframes : rm.frames + 1 ≤ R.frames) (hlocals : W9 + (maxL + 11) + rm.locals ≤ R.locals)
    (hws : ∀ w ∈ ws, ∀ a' U, s.WarmedH U.vm → w.before a' U = true) (hcode : Cond.code y bytes maxL ret ∈ ws) (hinit : ∀ a' U, s.WarmedH U.vm → (Cond.initialized y.cls).before a' U = true) :
    vx_Back l R p e below s sargs y len W9 (PreOf R mc ms Pc) (PostOf Qc mc ms free) (vx_Post XC mc ms free) := by
  intro m meth c A g ig mk a X hg hsize hdg hW hn hp
  have h1 : (headSpec ws rm).pre.before a A.U = true := atoms_intro fun w hw => hws w hw _ _ X.warmed
  have h2 : (Cond.code y bytes maxL ret).before a A.U = true := hws _ hcode _ _ X.warmed
  have h3 : (Cond.initialized y.cls).before a A.U = true := hinit _ _ X.warmed
  have h4 : A.cells + (headSpec ws rm).room.cells ≤ R.cells := by rw [show (headSpec ws rm).room.cells = mc from hrc]; exact hp.1
  have h5 : A.slots + (headSpec ws rm).room.slots ≤ R.slots := by rw [show (headSpec ws rm).room.slots = ms from hrs]; exact hp.2.1
  have hPc : Pc a (A.U.calling g mk a) := hblind _ _ _ _ hp.2.2
  obtain ⟨U, Ls, c0, s0⟩ := A
  dsimp only [Pt.U, Pt.locs, Pt.cells, Pt.slots] at h1 h2 h3 h4 h5 X hn hPc ⊢
  obtain ⟨methY, cY, hmY, hcY, -, hlY, -, -, -, -⟩ := Cond.code_spec hn h2
  obtain ⟨kY, hkY, -⟩ := className_of_methodNamed hn
  have hinitY : kY.init = .initialized := Cond.initialized_spec (findClass_of_methodNamed hn) hkY h3
  have h : At U g.method c below := by rw [hg]; exact X.here
  have hlocals9 : W9 + (maxL + 11) + (headSpec ws rm).room.locals ≤ R.locals := hlocals
  have happ : (headSpec ws rm).appliesLoose y e.platform (U.calling g mk a) = true :=
    Spec.appliesLoose_calling (g := g) h hdg hn hkY hinitY
      (X.room_calling (g := g) (R' := (headSpec ws rm).room) hsize hmY hcY hframes (by rw [hlY]; omega) h4 h5) h1
  obtain ⟨mid, hmid⟩ := h.above
  have hfr : (U.setTop g).frames = (.java g :: mid) ++ below := by rw [State.frames_setTop' g h.top, hmid]; rfl
  obtain ⟨o, s₂, hsteps, -, hend, hq⟩ := Steps.callFree hM p X.admits X.cas X.clock (acts := []) hfr happ hPc trivial
  have hq' : vx_Q Qc XC mc ms free a (U.calling g mk a) o s₂ := hq
  rw [State.frames_setTop' g h.top] at hend
  obtain ⟨g₀, hg0⟩ := Option.isSome_iff_exists.mp h.top
  obtain ⟨r, hr⟩ := State.topJava?_eq_some.mp hg0
  have hr' : (({ U with heap := s₂.heap, slotsUsed := s₂.slotsUsed } : State).setVm s₂.vm).frames = .java g₀ :: r := hr
  rcases hq' with ⟨hqc, L, hfe, hL⟩ | ⟨q, rfl, E, ce, L, hx, hce, hcv, hcl, hW₂, hsm, hL⟩
  · obtain ⟨⟨v, rfl⟩, hW₂, e2, q2, q3, q4, q5, q6⟩ := id hfe
    have e3 : s₂ = ({ (U.calling g mk a).setFrames s₂.frames with heap := s₂.heap, slotsUsed := s₂.slotsUsed } : State).setVm s₂.vm := by
      have : s₂ = ({ s₂ with vm := (U.calling g mk a).vm } : State).setVm s₂.vm := rfl
      rw [e2] at this
      exact this
    obtain ⟨c₂, i₂, len₂, hc₂, hd₂, hf₂⟩ := hend
    have hW' : U.WarmedH s₂.vm := hW₂
    have hcc : c₂ = c := by
      have h1 : s₂.code? g.method = U.code? g.method := by
        rw [State.code?_eq, State.code?_eq, hW'.alike.method?]
      exact Option.some.inj (hc₂.symm.trans (h1.trans h.code))
    subst hcc
    have hlen : len₂ = len := by rw [hdg] at hd₂; cases hd₂; rfl
    subst hlen
    have hs₂ : s₂ = (({ U with heap := s₂.heap, slotsUsed := s₂.slotsUsed } : State).setVm s₂.vm).setTop { g with pc := g.pc + len₂, stack := v.toList ++ g.stack } := by
      refine e3.trans ?_
      rw [hf₂, State.calling_eq h.top, State.setFrames_setFrames, State.setTop_of_frames _ hr', hr]
      rfl
    have hsame : U.sameButNew ({ U with heap := s₂.heap, slotsUsed := s₂.slotsUsed } : State) L mc ms := by
      refine ⟨?_, q2, q3, q4, q5, q6⟩
      obtain ⟨t, ht, -⟩ := State.frames_cons hr
      show ({ U with heap := s₂.heap, slotsUsed := s₂.slotsUsed } : State) = { U.setFrames U.frames with heap := s₂.heap, slotsUsed := s₂.slotsUsed }
      rw [State.setFrames_self ht]
    subst hg
    refine Or.inl ⟨v, ⟨(({ U with heap := s₂.heap, slotsUsed := s₂.slotsUsed } : State).setVm s₂.vm), Ls ++ L, c0 + mc, s0 + ms⟩,
      ⟨X.admits, X.cas, X.clock, X.frames, X.room, X.hears, X.method, X.code, (X.here.setHeapUsed s₂.heap s₂.slotsUsed).setVm hW'.alike, X.tail, State.WarmedH.trans X.warmed hW', X.limits, X.bytes, X.same.trans (hsame.setVm s.vm)⟩,
      ⟨g, mk, s₂, L, rfl, rfl, hqc, rfl, hL, rfl, rfl⟩, ?_⟩
    show Steps p.tables e below _ ((({ U with heap := s₂.heap, slotsUsed := s₂.slotsUsed } : State).setVm s₂.vm).setTop { g with pc := g.pc + len₂, stack := v.toList ++ g.stack })
    rw [← hs₂]
    exact hsteps
  · obtain ⟨e2, q2, q3, q4, q5, q6⟩ := id hsm
    have e3 : s₂ = ({ (U.calling g mk a).setFrames s₂.frames with heap := s₂.heap, slotsUsed := s₂.slotsUsed } : State).setVm s₂.vm := by
      have : s₂ = ({ s₂ with vm := (U.calling g mk a).vm } : State).setVm s₂.vm := rfl
      rw [e2] at this
      exact this
    have hf₂ : s₂.frames = .throwing q :: .java g :: U.frames.tail := hend
    have hW' : U.WarmedH s₂.vm := hW₂
    have hs₂ : s₂ = ((({ U with heap := s₂.heap, slotsUsed := s₂.slotsUsed } : State).setVm s₂.vm).setTop g).pushFrame (.throwing q) := by
      refine e3.trans ?_
      rw [hf₂, State.calling_eq h.top, State.setFrames_setFrames, State.pushFrame, State.frames_setTop _ hr', State.setTop_of_frames _ hr', State.setFrames_setFrames, hr]
      rfl
    have hsame : U.sameButNew ({ U with heap := s₂.heap, slotsUsed := s₂.slotsUsed } : State) L mc ms := by
      refine ⟨?_, q2, q3, q4, q5, q6⟩
      obtain ⟨t, ht, -⟩ := State.frames_cons hr
      show ({ U with heap := s₂.heap, slotsUsed := s₂.slotsUsed } : State) = { U.setFrames U.frames with heap := s₂.heap, slotsUsed := s₂.slotsUsed }
      rw [State.setFrames_self ht]
    subst hg
    refine Or.inr ⟨q, ⟨(({ U with heap := s₂.heap, slotsUsed := s₂.slotsUsed } : State).setVm s₂.vm), Ls ++ L, c0 + mc, s0 + ms⟩,
      ⟨X.admits, X.cas, X.clock, X.frames, X.room, X.hears, X.method, X.code, (X.here.setHeapUsed s₂.heap s₂.slotsUsed).setVm hW'.alike, X.tail, State.WarmedH.trans X.warmed hW', X.limits, X.bytes, X.same.trans (hsame.setVm s.vm)⟩,
      ⟨g, mk, s₂, L, E, ce, rfl, rfl, hx, hce, hcv, hcl, rfl, hL, rfl, rfl⟩, ?_⟩
    show Steps p.tables e below _ (((({ U with heap := s₂.heap, slotsUsed := s₂.slotsUsed } : State).setVm s₂.vm).setTop g).pushFrame (.throwing q))
    rw [← hs₂]
    exact hsteps
end Payer
section Calls
variable {p : Program} {l : Launch} {e : Env} {R : Room} {s : State} {m : MethodId} {args : Array Value} {below : List Frame} {meth : Method} {c : Code} {T : State} {locs : List Loc} {cells slots : Nat}
theorem vx_callV (X : Stand p l e R s m args below meth c T locs cells slots) (hexec : p.tables.exec = Jvm.exec) {own C : String} {index : Nat} {y : MethodName} {bytes : ByteArray} {maxL : Nat} {ret : Option FieldType}
    (hown : s.vm.findClass own = some m.cls) (hlink : (Cond.methodLink own index y).before args s = true) (hinst : (Cond.instanceMethod y).before args s = true) (hsel : (Cond.selects C y y).before args s = true)
    (hcode : (Cond.code y bytes maxL ret).before args s = true) (hy : y.cls ≠ "java/lang/invoke/MethodHandle" ∧ y.cls ≠ "java/lang/invoke/VarHandle")
    {W9 : Nat} {Pre : Pt → Array Value → Prop} {Post : Pt → Array Value → Option Value → Pt → Prop} {PostX : Pt → Array Value → Addr → Pt → Prop} (hK : vx_Back l R p e below s args y 3 W9 Pre Post PostX)
    {b : Addr} {cellB : Cell} (hcell : T.heap[b]? = some cellB) (hobj : cellB.vm.isStatics = false) (hcls : s.vm.findClass C = some cellB.cls)
    {g : JFrame} (hg : g.method = m) (hsize : g.locals.size = c.maxLocals) {argsL rest : List Value} (hlen : ∀ sig, parseMethodDescriptor y.desc = some sig → argsL.length = sig.parameters.length)
    (hstack : g.stack = argsL.reverse ++ .ref b :: rest) (hW : 2 * g.monitorRoom + (rest.map fun v => v.category).sum ≤ W9) (hdg : decode c.code g.pc = .ok (.invokevirtual index, 3))
    (hpre : ∀ vm₁, s.WarmedH vm₁ → Pre ⟨T.setVm vm₁, locs, cells, slots⟩ (Value.ref b :: argsL).toArray) :
    (∃ (v : Option Value) (vm₁ : Vm) (B : Pt), s.WarmedH vm₁ ∧ Stand p l e R s m args below meth c B.U B.locs B.cells B.slots ∧ Post ⟨T.setVm vm₁, locs, cells, slots⟩ (Value.ref b :: argsL).toArray v B ∧
      ∀ target, Steps p.tables e below (B.U.setTop { g with pc := g.pc + 3, stack := v.toList ++ rest }) target → Steps p.tables e below (T.setTop g) target) ∨
    (∃ (q : Addr) (vm₁ : Vm) (B : Pt), s.WarmedH vm₁ ∧ Stand p l e R s m args below meth c B.U B.locs B.cells B.slots ∧ PostX ⟨T.setVm vm₁, locs, cells, slots⟩ (Value.ref b :: argsL).toArray q B ∧
      Steps p.tables e below (T.setTop g) ((B.U.setTop { g with stack := rest }).pushFrame (.throwing q))) := by
  obtain ⟨mk, methM, hnamed, hmethM, hstM, habM⟩ := Cond.instanceMethod_spec hinst
  obtain ⟨methM', cM, hmethM', -, -, -, -, -, -, hsigM⟩ := Cond.code_spec hnamed hcode
  cases hmethM.symm.trans hmethM'
  obtain ⟨c2, r2, m2, q1, q2, q3, q4, kP, hkP, hkPi⟩ := Cond.selects_spec hsel
  cases hcls.symm.trans q1
  cases (State.methodFound?_of_named hnamed hy).symm.trans q2
  cases hnamed.symm.trans q3
  have hselP : selectMethod e.platform s.vm cellB.cls mk = .method mk := by rw [Launch.admits_selectMethod X.admits]; exact q4
  obtain ⟨vm₁, X₁, hstep₁⟩ := X.invokevirtual hexec hown hlink hnamed hmethM hstM hkP hkPi hy (a := b) (cell := cellB) hcell
    (fun z h => by rw [h] at hobj; cases hobj) hselP hmethM habM hkP hkPi (g := g) hg (argsL := argsL) (rest := rest) (hlen _ hsigM) hstack hdg
  rcases hK m meth c ⟨T.setVm vm₁, locs, cells, slots⟩ { g with stack := rest } (.invokevirtual index) mk (Value.ref b :: argsL).toArray X₁ hg hsize hdg hW (X₁.named hnamed) (hpre vm₁ X₁.warmed) with ⟨v, B, X', hpost, hsteps⟩ | ⟨q, B, X', hpost, hsteps⟩
  · exact Or.inl ⟨v, vm₁, B, X₁.warmed, X', hpost, fun target h => hstep₁ _ fun acts => by rw [doInvoke_state]; exact hsteps.trans h⟩
  · exact Or.inr ⟨q, vm₁, B, X₁.warmed, X', hpost, hstep₁ _ fun acts => by rw [doInvoke_state]; exact hsteps⟩
theorem vx_callS (X : Stand p l e R s m args below meth c T locs cells slots) (hexec : p.tables.exec = Jvm.exec) {own : String} {index : Nat} {y : MethodName} {bytes : ByteArray} {maxL : Nat} {ret : Option FieldType}
    (hown : s.vm.findClass own = some m.cls) (hlink : (Cond.methodLink own index y).before args s = true) (hstat : (Cond.static y).before args s = true) (hinit : (Cond.initialized y.cls).before args s = true)
    (hcode : (Cond.code y bytes maxL ret).before args s = true) (hy : y.cls ≠ "java/lang/invoke/MethodHandle" ∧ y.cls ≠ "java/lang/invoke/VarHandle")
    {W9 : Nat} {Pre : Pt → Array Value → Prop} {Post : Pt → Array Value → Option Value → Pt → Prop} {PostX : Pt → Array Value → Addr → Pt → Prop} (hK : vx_Back l R p e below s args y 3 W9 Pre Post PostX)
    {g : JFrame} (hg : g.method = m) (hsize : g.locals.size = c.maxLocals) {argsL rest : List Value} (hlen : ∀ sig, parseMethodDescriptor y.desc = some sig → argsL.length = sig.parameters.length)
    (hstack : g.stack = argsL.reverse ++ rest) (hW : 2 * g.monitorRoom + (rest.map fun v => v.category).sum ≤ W9) (hdg : decode c.code g.pc = .ok (.invokestatic index, 3))
    (hpre : ∀ vm₁, s.WarmedH vm₁ → Pre ⟨T.setVm vm₁, locs, cells, slots⟩ argsL.toArray) :
    (∃ (v : Option Value) (vm₁ : Vm) (B : Pt), s.WarmedH vm₁ ∧ Stand p l e R s m args below meth c B.U B.locs B.cells B.slots ∧ Post ⟨T.setVm vm₁, locs, cells, slots⟩ argsL.toArray v B ∧
      ∀ target, Steps p.tables e below (B.U.setTop { g with pc := g.pc + 3, stack := v.toList ++ rest }) target → Steps p.tables e below (T.setTop g) target) ∨
    (∃ (q : Addr) (vm₁ : Vm) (B : Pt), s.WarmedH vm₁ ∧ Stand p l e R s m args below meth c B.U B.locs B.cells B.slots ∧ PostX ⟨T.setVm vm₁, locs, cells, slots⟩ argsL.toArray q B ∧
      Steps p.tables e below (T.setTop g) ((B.U.setTop { g with stack := rest }).pushFrame (.throwing q))) := by
  obtain ⟨mk, hnamed⟩ := Cond.code_named hcode
  obtain ⟨methM, cM, hmethM, -, -, -, -, -, -, hsigM⟩ := Cond.code_spec hnamed hcode
  have hstatic : methM.isStatic = true := Cond.static_spec hnamed hmethM hstat
  obtain ⟨kP, hkP, -⟩ := className_of_methodNamed hnamed
  have hinitP : kP.init = .initialized := Cond.initialized_spec (findClass_of_methodNamed hnamed) hkP hinit
  obtain ⟨vm₁, X₁, hstep₁⟩ := X.invokestatic hexec hown hlink hnamed hmethM hstatic hkP hinitP hy (g := g) hg (argsL := argsL) (rest := rest) (hlen _ hsigM) hstack hdg
  rcases hK m meth c ⟨T.setVm vm₁, locs, cells, slots⟩ { g with stack := rest } (.invokestatic index) mk argsL.toArray X₁ hg hsize hdg hW (X₁.named hnamed) (hpre vm₁ X₁.warmed) with ⟨v, B, X', hpost, hsteps⟩ | ⟨q, B, X', hpost, hsteps⟩
  · exact Or.inl ⟨v, vm₁, B, X₁.warmed, X', hpost, fun target h => hstep₁ _ fun acts => by rw [doInvoke_state]; exact hsteps.trans h⟩
  · exact Or.inr ⟨q, vm₁, B, X₁.warmed, X', hpost, hstep₁ _ fun acts => by rw [doInvoke_state]; exact hsteps⟩
end Calls
theorem vx_cls {s : State} {T : State} {vm₁ : Vm} {E : String} {k : ClassId} (hW : s.WarmedH vm₁) (h : (T.setVm vm₁).vm.findClass E = some k) : s.vm.findClass E = some k := by
  have h1 : vm₁.findClass E = some k := h
  rw [hW.alike.findClass] at h1
  exact h1
/-- the method's frame g, with q thrown over it -/
def vx_W (p : Program) (l : Launch) (e : Env) (R : Room) (s : State) (m : MethodId) (args : Array Value) (below : List Frame) (meth : Method) (c : Code) (H : Heap) (locs : List Loc) (cells slots : Nat) (Q : State → Prop) (g : JFrame) (q : Addr) : Prop :=
  ∀ T : State, T.heap = H → Stand p l e R s m args below meth c T locs cells slots → ∃ t, Steps p.tables e below ((T.setTop g).pushFrame (.throwing q)) t ∧ Q t
def vx_Run (p : Program) (l : Launch) (e : Env) (R : Room) (s : State) (m : MethodId) (args : Array Value) (below : List Frame) (meth : Method) (c : Code) (H : Heap) (locs : List Loc) (cells slots mc ms : Nat) (g : JFrame) (rest : List Value) (Qa : State → Outcome → State → Prop) (XC : String → State → State → Prop) (free : Addr → Prop) : Prop :=
  ∀ T : State, T.heap = H → Stand p l e R s m args below meth c T locs cells slots →
    (∃ (v : Option Value) (st₀ t T' : State) (L : List Loc), st₀.heap = H ∧ Stand p l e R s m args below meth c T' (locs ++ L) (cells + mc) (slots + ms) ∧ (∀ q ∈ L, free q.base) ∧ T'.heap = t.heap ∧ T'.vm = t.vm ∧ Qa st₀ (.returned v) t ∧
      Goes p e below T g T' { g with pc := g.pc + 3, stack := v.toList ++ rest }) ∨
    (∃ (q : Addr) (st₀ t T' : State) (L : List Loc) (E : String) (ce : Cell), st₀.heap = H ∧ Stand p l e R s m args below meth c T' (locs ++ L) (cells + mc) (slots + ms) ∧ (∀ z ∈ L, free z.base) ∧ T'.heap = t.heap ∧ T'.vm = t.vm ∧ XC E st₀ t ∧ t.heap[q]? = some ce ∧ ce.vm = .none ∧ s.vm.findClass E = some ce.cls ∧
      Steps p.tables e below (T.setTop g) ((T'.setTop { g with stack := rest }).pushFrame (.throwing q)))
def vx_X {S : Type} (px : S → Prop) (B : String → S → State → Prop) (A : Nat → Prop) : String → State → State → Prop := fun E st t => ∃ u : S, px u ∧ B E u t ∧ va_F A st t
section Runs
variable {p : Program} {l : Launch} {e : Env} {R : Room} {s : State} {m : MethodId} {args : Array Value} {below : List Frame} {meth : Method} {c : Code} {H : Heap} {locs : List Loc} {cells slots : Nat}
variable {y : MethodName} {bytes cc : ByteArray} {maxL nL mc ms n index : Nat} {ret : Option FieldType} {ws : List Cond} {rm : Room} {Pc : Array Value → State → Prop} {Qc : Array Value → State → Outcome → State → Prop} {XC : String → State → State → Prop} {free : Addr → Prop} {Ts : List Cond} {own C : String} {b : Addr} {As rest : List Value} {g : JFrame}
theorem vx_callBack (cb : CallB R s args own index y bytes maxL ret ws rm mc ms n) (hM : vx_Met l y ws rm Pc Qc XC mc ms free) (hbl : FrameBlind Pc) : vx_Back l R p e below s args y 3 8 (PreOf R mc ms Pc) (PostOf Qc mc ms free) (vx_Post XC mc ms free) := by
  obtain ⟨hrc, hrs, hfr, hlo, hws, hcw, -, hini, -⟩ := cb
  exact vx_back (bytes := bytes) (maxL := maxL) (ret := ret) hM hbl hrc hrs hfr hlo hws hcw (fun a' U hW => word_at hW (Or.inl (by first | rfl | simp [Cond.onTables, Cond.keeps, Cond.steady])) hini)
theorem vx_runV (S : CallFix p m c cc nL s args Ts own) (hM : vx_Met l y ws rm Pc Qc XC mc ms free) (cw : CallW R s args own C index y bytes maxL ret ws rm mc ms n) (hp : PreV s H C b Pc As)
    (hg : g.method = m) (hn : As.length = n) (hsize : g.locals.size = nL) (hstack : g.stack = As.reverse ++ .ref b :: rest) (hW : 2 * g.monitorRoom + (rest.map fun v => v.category).sum ≤ 8) (hdg : decode cc g.pc = .ok (.invokevirtual index, 3)) (hf : cells + mc ≤ R.cells ∧ slots + ms ≤ R.slots) :
    vx_Run p l e R s m args below meth c H locs cells slots mc ms g rest (Qc (Value.ref b :: As).toArray) XC free := by
  have hK : vx_Back l R p e below s args y 3 8 (PreOf R mc ms Pc) (PostOf Qc mc ms free) (vx_Post XC mc ms free) := vx_callBack cw.1 hM hp.1
  obtain ⟨⟨-, -, -, -, -, -, hcode, -, hy, hlen, hl⟩, hin, hse⟩ := cw
  obtain ⟨hx, hb, hml, ho, -⟩ := S
  obtain ⟨-, ⟨cellB, hcB, hoB, hclB⟩, hPc⟩ := hp
  intro T hT X
  rcases vx_callV X hx (C := C) (bytes := bytes) (maxL := maxL) (ret := ret) ho hl hin hse hcode hy hK (by rw [hT]; exact hcB) hoB hclB hg (hsize.trans hml.symm) (argsL := As) (rest := rest) (fun sig h => hn.trans (hlen sig h)) hstack hW (by rw [hb]; exact hdg)
    (fun vm₁ hW₁ => ⟨hf.1, hf.2, hPc (T.setVm vm₁) hT hW₁⟩) with ⟨v, vm₁, ⟨U', l2, c2, s2⟩, hW₁, X', ⟨g', mk, t, L, e1, e2, hq, h1, hL, h2, h3⟩, st⟩ | ⟨q, vm₁, ⟨U', l2, c2, s2⟩, hW₁, X', ⟨g', mk, t, L, E, ce, e1, e2, hq, hce, hcv, hcl, h1, hL, h2, h3⟩, st⟩
  · dsimp only [Pt.U, Pt.locs, Pt.cells, Pt.slots] at X' e1 e2 h1 h2 h3 st
    subst h1; subst h2; subst h3
    exact Or.inl ⟨v, (T.setVm vm₁).calling g' mk (Value.ref b :: As).toArray, t, U', L, hT, X', hL, e1, e2, hq, st⟩
  · dsimp only [Pt.U, Pt.locs, Pt.cells, Pt.slots] at X' e1 e2 h1 h2 h3 st hcl
    subst h1; subst h2; subst h3
    exact Or.inr ⟨q, (T.setVm vm₁).calling g' mk (Value.ref b :: As).toArray, t, U', L, E, ce, hT, X', hL, e1, e2, hq, hce, hcv, vx_cls hW₁ hcl, st⟩
theorem vx_runS (S : CallFix p m c cc nL s args Ts own) (hM : vx_Met l y ws rm Pc Qc XC mc ms free) (cw : CallB R s args own index y bytes maxL ret ws rm mc ms n ∧ (Cond.static y).before args s = true) (hp : PreS s H Pc As)
    (hg : g.method = m) (hn : As.length = n) (hsize : g.locals.size = nL) (hstack : g.stack = As.reverse ++ rest) (hW : 2 * g.monitorRoom + (rest.map fun v => v.category).sum ≤ 8) (hdg : decode cc g.pc = .ok (.invokestatic index, 3)) (hf : cells + mc ≤ R.cells ∧ slots + ms ≤ R.slots) :
    vx_Run p l e R s m args below meth c H locs cells slots mc ms g rest (Qc As.toArray) XC free := by
  have hK : vx_Back l R p e below s args y 3 8 (PreOf R mc ms Pc) (PostOf Qc mc ms free) (vx_Post XC mc ms free) := vx_callBack cw.1 hM hp.1
  obtain ⟨⟨-, -, -, -, -, -, hcode, hini, hy, hlen, hl⟩, hstt⟩ := cw
  obtain ⟨hx, hb, hml, ho, -⟩ := S
  intro T hT X
  rcases vx_callS X hx (bytes := bytes) (maxL := maxL) (ret := ret) ho hl hstt hini hcode hy hK hg (hsize.trans hml.symm) (argsL := As) (rest := rest) (fun sig h => hn.trans (hlen sig h)) hstack hW (by rw [hb]; exact hdg)
    (fun vm₁ hW₁ => ⟨hf.1, hf.2, hp.2 (T.setVm vm₁) hT hW₁⟩) with ⟨v, vm₁, ⟨U', l2, c2, s2⟩, hW₁, X', ⟨g', mk, t, L, e1, e2, hq, h1, hL, h2, h3⟩, st⟩ | ⟨q, vm₁, ⟨U', l2, c2, s2⟩, hW₁, X', ⟨g', mk, t, L, E, ce, e1, e2, hq, hce, hcv, hcl, h1, hL, h2, h3⟩, st⟩
  · dsimp only [Pt.U, Pt.locs, Pt.cells, Pt.slots] at X' e1 e2 h1 h2 h3 st
    subst h1; subst h2; subst h3
    exact Or.inl ⟨v, (T.setVm vm₁).calling g' mk As.toArray, t, U', L, hT, X', hL, e1, e2, hq, st⟩
  · dsimp only [Pt.U, Pt.locs, Pt.cells, Pt.slots] at X' e1 e2 h1 h2 h3 st hcl
    subst h1; subst h2; subst h3
    exact Or.inr ⟨q, (T.setVm vm₁).calling g' mk As.toArray, t, U', L, E, ce, hT, X', hL, e1, e2, hq, hce, hcv, vx_cls hW₁ hcl, st⟩
end Runs
section Rows
variable {p : Program} {l : Launch} {e : Env} {R : Room} {s : State} {m : MethodId} {args : Array Value} {below : List Frame} {meth : Method} {c : Code} {H : Heap} {locs : List Loc} {cells slots : Nat} {Q : State → Prop}
variable {mc ms : Nat} {free : Addr → Prop} {A0 A1 : Nat → Prop} {H0 : Heap} {a : Array Value} {pc : Nat} {ls : Array Slot} {st0 rest : List Value}
theorem vx_keep {st₀ t T' : State} {L : List Loc} (h0 : st₀.heap = H) (e1 : T'.heap = t.heap) (hS : va_S A0 H0 H locs) (hA : ∀ q, q < H.size → A1 q → A0 q) (hf : ∀ q, free q → A0 q) (hL : ∀ q ∈ L, free q.base) (hF : va_F A1 st₀ t) :
    H.size ≤ T'.heap.size ∧ (∀ q : Nat, q < H.size → ¬ A1 q → T'.heap[q]? = H[q]?) ∧ va_S A0 H0 T'.heap (locs ++ L) := by
  obtain ⟨hz, hk⟩ := hF
  rw [h0] at hz hk
  exact ⟨by rw [e1]; exact hz, fun q h1 h2 => by rw [e1]; exact hk q h1 h2,
    ⟨Nat.le_trans hS.1 (by rw [e1]; exact hz), fun q h1 h2 => by rw [e1, hk q (Nat.lt_of_lt_of_le h1 hS.1) (fun z => h2 (hA q (Nat.lt_of_lt_of_le h1 hS.1) z))]; exact hS.2.1 q h1 h2, fun q hq => by
      rcases List.mem_append.mp hq with h | h
      · exact hS.2.2 q h
      · exact hf _ (hL q h)⟩⟩
theorem vx_calli {S SX : Type} {post : Int32 → S → Prop} {px : SX → Prop} {B : S → State → Prop} {BX : String → SX → State → Prop} {AX : Nat → Prop} (hr : vx_Run p l e R s m args below meth c H locs cells slots mc ms (F0 m pc ls st0) rest (va_Qi post B A1 a) (vx_X px BX AX) free) (hS : va_S A0 H0 H locs) (hA : ∀ q, q < H.size → A1 q → A0 q) (hf : ∀ q, free q → A0 q) (hAX : ∀ q, q < H.size → AX q → A0 q)
    (kx : ∀ (E : String) (ce : Cell) (q9 : Addr) (u : SX) (t : State) (H1 : Heap) (locs1 : List Loc), t.heap = H1 → s.vm.Alike t.vm → px u → BX E u t → H.size ≤ H1.size → (∀ q : Nat, q < H.size → ¬ AX q → H1[q]? = H[q]?) → va_S A0 H0 H1 locs1 → H1[q9]? = some ce → ce.vm = .none → s.vm.findClass E = some ce.cls → vx_W p l e R s m args below meth c H1 locs1 (cells + mc) (slots + ms) Q (F0 m pc ls rest) q9)
    (kk : ∀ (r : Int32) (u : S) (t : State) (H1 : Heap) (locs1 : List Loc), t.heap = H1 → s.vm.Alike t.vm → post r u → B u t → H.size ≤ H1.size → (∀ q : Nat, q < H.size → ¬ A1 q → H1[q]? = H[q]?) → va_S A0 H0 H1 locs1 → W p l e R s m args below meth c H1 locs1 (cells + mc) (slots + ms) Q (F0 m (pc + 3) ls (.int r :: rest))) : W p l e R s m args below meth c H locs cells slots Q (F0 m pc ls st0) := by
  intro T hT X
  rcases hr T hT X with ⟨v, st₀, t, T', L, h0, X', hL, e1, e2, ⟨⟨r, u, hv, hp, hb⟩, hF⟩, st⟩ | ⟨q, st₀, t, T', L, E, ce, h0, X', hL, e1, e2, ⟨u, hp, hb, hF⟩, hce, hcv, hcl, st⟩
  · cases hv
    obtain ⟨k1, k2, k3⟩ := vx_keep h0 e1 hS hA hf hL hF
    obtain ⟨t2, a1, b1⟩ := kk r u t T'.heap (locs ++ L) e1.symm (by rw [← e2]; exact X'.warmed.alike) hp hb k1 k2 k3 T' rfl X'
    exact ⟨t2, st t2 a1, b1⟩
  · obtain ⟨k1, k2, k3⟩ := vx_keep h0 e1 hS hAX hf hL hF
    obtain ⟨t2, a1, b1⟩ := kx E ce q u t T'.heap (locs ++ L) e1.symm (by rw [← e2]; exact X'.warmed.alike) hp hb k1 k2 k3 (by rw [e1]; exact hce) hcv hcl T' rfl X'
    exact ⟨t2, st.trans a1, b1⟩
theorem vx_calll {S SX : Type} {post : Int64 → S → Prop} {px : SX → Prop} {B : S → State → Prop} {BX : String → SX → State → Prop} {AX : Nat → Prop} (hr : vx_Run p l e R s m args below meth c H locs cells slots mc ms (F0 m pc ls st0) rest (va_Ql post B A1 a) (vx_X px BX AX) free) (hS : va_S A0 H0 H locs) (hA : ∀ q, q < H.size → A1 q → A0 q) (hf : ∀ q, free q → A0 q) (hAX : ∀ q, q < H.size → AX q → A0 q)
    (kx : ∀ (E : String) (ce : Cell) (q9 : Addr) (u : SX) (t : State) (H1 : Heap) (locs1 : List Loc), t.heap = H1 → s.vm.Alike t.vm → px u → BX E u t → H.size ≤ H1.size → (∀ q : Nat, q < H.size → ¬ AX q → H1[q]? = H[q]?) → va_S A0 H0 H1 locs1 → H1[q9]? = some ce → ce.vm = .none → s.vm.findClass E = some ce.cls → vx_W p l e R s m args below meth c H1 locs1 (cells + mc) (slots + ms) Q (F0 m pc ls rest) q9)
    (kk : ∀ (r : Int64) (u : S) (t : State) (H1 : Heap) (locs1 : List Loc), t.heap = H1 → s.vm.Alike t.vm → post r u → B u t → H.size ≤ H1.size → (∀ q : Nat, q < H.size → ¬ A1 q → H1[q]? = H[q]?) → va_S A0 H0 H1 locs1 → W p l e R s m args below meth c H1 locs1 (cells + mc) (slots + ms) Q (F0 m (pc + 3) ls (.long r :: rest))) : W p l e R s m args below meth c H locs cells slots Q (F0 m pc ls st0) := by
  intro T hT X
  rcases hr T hT X with ⟨v, st₀, t, T', L, h0, X', hL, e1, e2, ⟨⟨r, u, hv, hp, hb⟩, hF⟩, st⟩ | ⟨q, st₀, t, T', L, E, ce, h0, X', hL, e1, e2, ⟨u, hp, hb, hF⟩, hce, hcv, hcl, st⟩
  · cases hv
    obtain ⟨k1, k2, k3⟩ := vx_keep h0 e1 hS hA hf hL hF
    obtain ⟨t2, a1, b1⟩ := kk r u t T'.heap (locs ++ L) e1.symm (by rw [← e2]; exact X'.warmed.alike) hp hb k1 k2 k3 T' rfl X'
    exact ⟨t2, st t2 a1, b1⟩
  · obtain ⟨k1, k2, k3⟩ := vx_keep h0 e1 hS hAX hf hL hF
    obtain ⟨t2, a1, b1⟩ := kx E ce q u t T'.heap (locs ++ L) e1.symm (by rw [← e2]; exact X'.warmed.alike) hp hb k1 k2 k3 (by rw [e1]; exact hce) hcv hcl T' rfl X'
    exact ⟨t2, st.trans a1, b1⟩
theorem vx_callf {S SX : Type} {post : UInt32 → S → Prop} {px : SX → Prop} {B : S → State → Prop} {BX : String → SX → State → Prop} {AX : Nat → Prop} (hr : vx_Run p l e R s m args below meth c H locs cells slots mc ms (F0 m pc ls st0) rest (va_Qf post B A1 a) (vx_X px BX AX) free) (hS : va_S A0 H0 H locs) (hA : ∀ q, q < H.size → A1 q → A0 q) (hf : ∀ q, free q → A0 q) (hAX : ∀ q, q < H.size → AX q → A0 q)
    (kx : ∀ (E : String) (ce : Cell) (q9 : Addr) (u : SX) (t : State) (H1 : Heap) (locs1 : List Loc), t.heap = H1 → s.vm.Alike t.vm → px u → BX E u t → H.size ≤ H1.size → (∀ q : Nat, q < H.size → ¬ AX q → H1[q]? = H[q]?) → va_S A0 H0 H1 locs1 → H1[q9]? = some ce → ce.vm = .none → s.vm.findClass E = some ce.cls → vx_W p l e R s m args below meth c H1 locs1 (cells + mc) (slots + ms) Q (F0 m pc ls rest) q9)
    (kk : ∀ (r : UInt32) (u : S) (t : State) (H1 : Heap) (locs1 : List Loc), t.heap = H1 → s.vm.Alike t.vm → post r u → B u t → H.size ≤ H1.size → (∀ q : Nat, q < H.size → ¬ A1 q → H1[q]? = H[q]?) → va_S A0 H0 H1 locs1 → W p l e R s m args below meth c H1 locs1 (cells + mc) (slots + ms) Q (F0 m (pc + 3) ls (.float r :: rest))) : W p l e R s m args below meth c H locs cells slots Q (F0 m pc ls st0) := by
  intro T hT X
  rcases hr T hT X with ⟨v, st₀, t, T', L, h0, X', hL, e1, e2, ⟨⟨r, u, hv, hp, hb⟩, hF⟩, st⟩ | ⟨q, st₀, t, T', L, E, ce, h0, X', hL, e1, e2, ⟨u, hp, hb, hF⟩, hce, hcv, hcl, st⟩
  · cases hv
    obtain ⟨k1, k2, k3⟩ := vx_keep h0 e1 hS hA hf hL hF
    obtain ⟨t2, a1, b1⟩ := kk r u t T'.heap (locs ++ L) e1.symm (by rw [← e2]; exact X'.warmed.alike) hp hb k1 k2 k3 T' rfl X'
    exact ⟨t2, st t2 a1, b1⟩
  · obtain ⟨k1, k2, k3⟩ := vx_keep h0 e1 hS hAX hf hL hF
    obtain ⟨t2, a1, b1⟩ := kx E ce q u t T'.heap (locs ++ L) e1.symm (by rw [← e2]; exact X'.warmed.alike) hp hb k1 k2 k3 (by rw [e1]; exact hce) hcv hcl T' rfl X'
    exact ⟨t2, st.trans a1, b1⟩
theorem vx_calld {S SX : Type} {post : UInt64 → S → Prop} {px : SX → Prop} {B : S → State → Prop} {BX : String → SX → State → Prop} {AX : Nat → Prop} (hr : vx_Run p l e R s m args below meth c H locs cells slots mc ms (F0 m pc ls st0) rest (va_Qd post B A1 a) (vx_X px BX AX) free) (hS : va_S A0 H0 H locs) (hA : ∀ q, q < H.size → A1 q → A0 q) (hf : ∀ q, free q → A0 q) (hAX : ∀ q, q < H.size → AX q → A0 q)
    (kx : ∀ (E : String) (ce : Cell) (q9 : Addr) (u : SX) (t : State) (H1 : Heap) (locs1 : List Loc), t.heap = H1 → s.vm.Alike t.vm → px u → BX E u t → H.size ≤ H1.size → (∀ q : Nat, q < H.size → ¬ AX q → H1[q]? = H[q]?) → va_S A0 H0 H1 locs1 → H1[q9]? = some ce → ce.vm = .none → s.vm.findClass E = some ce.cls → vx_W p l e R s m args below meth c H1 locs1 (cells + mc) (slots + ms) Q (F0 m pc ls rest) q9)
    (kk : ∀ (r : UInt64) (u : S) (t : State) (H1 : Heap) (locs1 : List Loc), t.heap = H1 → s.vm.Alike t.vm → post r u → B u t → H.size ≤ H1.size → (∀ q : Nat, q < H.size → ¬ A1 q → H1[q]? = H[q]?) → va_S A0 H0 H1 locs1 → W p l e R s m args below meth c H1 locs1 (cells + mc) (slots + ms) Q (F0 m (pc + 3) ls (.double r :: rest))) : W p l e R s m args below meth c H locs cells slots Q (F0 m pc ls st0) := by
  intro T hT X
  rcases hr T hT X with ⟨v, st₀, t, T', L, h0, X', hL, e1, e2, ⟨⟨r, u, hv, hp, hb⟩, hF⟩, st⟩ | ⟨q, st₀, t, T', L, E, ce, h0, X', hL, e1, e2, ⟨u, hp, hb, hF⟩, hce, hcv, hcl, st⟩
  · cases hv
    obtain ⟨k1, k2, k3⟩ := vx_keep h0 e1 hS hA hf hL hF
    obtain ⟨t2, a1, b1⟩ := kk r u t T'.heap (locs ++ L) e1.symm (by rw [← e2]; exact X'.warmed.alike) hp hb k1 k2 k3 T' rfl X'
    exact ⟨t2, st t2 a1, b1⟩
  · obtain ⟨k1, k2, k3⟩ := vx_keep h0 e1 hS hAX hf hL hF
    obtain ⟨t2, a1, b1⟩ := kx E ce q u t T'.heap (locs ++ L) e1.symm (by rw [← e2]; exact X'.warmed.alike) hp hb k1 k2 k3 (by rw [e1]; exact hce) hcv hcl T' rfl X'
    exact ⟨t2, st.trans a1, b1⟩
theorem vx_callv {S SX : Type} {post : S → Prop} {px : SX → Prop} {B : S → State → Prop} {BX : String → SX → State → Prop} {AX : Nat → Prop} (hr : vx_Run p l e R s m args below meth c H locs cells slots mc ms (F0 m pc ls st0) rest (va_Qv post B A1 a) (vx_X px BX AX) free) (hS : va_S A0 H0 H locs) (hA : ∀ q, q < H.size → A1 q → A0 q) (hf : ∀ q, free q → A0 q) (hAX : ∀ q, q < H.size → AX q → A0 q)
    (kx : ∀ (E : String) (ce : Cell) (q9 : Addr) (u : SX) (t : State) (H1 : Heap) (locs1 : List Loc), t.heap = H1 → s.vm.Alike t.vm → px u → BX E u t → H.size ≤ H1.size → (∀ q : Nat, q < H.size → ¬ AX q → H1[q]? = H[q]?) → va_S A0 H0 H1 locs1 → H1[q9]? = some ce → ce.vm = .none → s.vm.findClass E = some ce.cls → vx_W p l e R s m args below meth c H1 locs1 (cells + mc) (slots + ms) Q (F0 m pc ls rest) q9)
    (kk : ∀ (u : S) (t : State) (H1 : Heap) (locs1 : List Loc), t.heap = H1 → s.vm.Alike t.vm → post u → B u t → H.size ≤ H1.size → (∀ q : Nat, q < H.size → ¬ A1 q → H1[q]? = H[q]?) → va_S A0 H0 H1 locs1 → W p l e R s m args below meth c H1 locs1 (cells + mc) (slots + ms) Q (F0 m (pc + 3) ls (rest))) : W p l e R s m args below meth c H locs cells slots Q (F0 m pc ls st0) := by
  intro T hT X
  rcases hr T hT X with ⟨v, st₀, t, T', L, h0, X', hL, e1, e2, ⟨⟨u, hv, hp, hb⟩, hF⟩, st⟩ | ⟨q, st₀, t, T', L, E, ce, h0, X', hL, e1, e2, ⟨u, hp, hb, hF⟩, hce, hcv, hcl, st⟩
  · cases hv
    obtain ⟨k1, k2, k3⟩ := vx_keep h0 e1 hS hA hf hL hF
    obtain ⟨t2, a1, b1⟩ := kk u t T'.heap (locs ++ L) e1.symm (by rw [← e2]; exact X'.warmed.alike) hp hb k1 k2 k3 T' rfl X'
    exact ⟨t2, st t2 a1, b1⟩
  · obtain ⟨k1, k2, k3⟩ := vx_keep h0 e1 hS hAX hf hL hF
    obtain ⟨t2, a1, b1⟩ := kx E ce q u t T'.heap (locs ++ L) e1.symm (by rw [← e2]; exact X'.warmed.alike) hp hb k1 k2 k3 (by rw [e1]; exact hce) hcv hcl T' rfl X'
    exact ⟨t2, st.trans a1, b1⟩
/-- caught by the row x of this method's table; the rows ahead don't take it -/
theorem vx_catch {own name : String} {E : String} {ce : Cell} {q : Addr} (hown : s.vm.findClass own = some m.cls) (pre : List ExceptionTableEntry) (x : ExceptionTableEntry) (suf : List ExceptionTableEntry) (hsplit : c.exceptionTable.toList = pre ++ x :: suf)
    (hpass : ∀ z ∈ pre, covers z pc = false ∨ (z.catchType ≠ 0 ∧ ∃ nm : String, (Cond.classLink own z.catchType nm).before args s = true ∧ va_Nc E nm s)) (hx : covers x pc = true) (h0 : x.catchType ≠ 0)
    (hlink : (Cond.classLink own x.catchType name).before args s = true) (hcast : (Cond.castable E name).before args s = true) (hcell : H[q]? = some ce) (hv : ce.vm = .none) (hcl : s.vm.findClass E = some ce.cls)
    (kk : W p l e R s m args below meth c H locs cells slots Q (F0 m x.handlerPc ls [.ref q])) : vx_W p l e R s m args below meth c H locs cells slots Q (F0 m pc ls rest) q := by
  intro T hT X
  have hpl : e.platform.magicAccessors = ({} : Platform).magicAccessors := by rw [X.admits.platform]
  obtain ⟨c3, c4, hc3, hc4, hasg⟩ := Cond.castable_spec hcast
  cases Option.some.inj (hc3.symm.trans hcl)
  obtain ⟨c5, hc5, hcl5⟩ := Cond.classLink_spec hown hlink e.platform hpl
  cases Option.some.inj (hc4.symm.trans hc5)
  obtain ⟨vm', X', st⟩ := X.thenCaughtThrough q (g := F0 m pc ls rest) rfl (Steps.refl _) (by rw [hT]; exact hcell) (by rw [hv]; rfl) (by obtain ⟨k9, h9, -⟩ := Vm.findClass_spec hcl; exact ⟨k9, h9⟩) pre x suf hsplit
    (fun z hz => by
      rcases hpass z hz with h | ⟨hz0, nm, hl1, hn1⟩
      · exact Or.inl h
      · obtain ⟨c6, hc6, hcl6⟩ := Cond.classLink_spec hown hl1 e.platform hpl
        obtain ⟨a8, b8, h1, h2, h3⟩ := hn1
        cases Option.some.inj (h1.symm.trans hcl)
        cases Option.some.inj (h2.symm.trans hc6)
        exact Or.inr ⟨hz0, _, hcl6, h3⟩) hx (Or.inr ⟨h0, c4, hcl5, hasg⟩)
  obtain ⟨t, a1, b1⟩ := kk (T.setVm vm') hT X'
  exact ⟨t, st.trans a1, b1⟩
end Rows
section Ends
variable {p : Program} {l : Launch} {e : Env} {R : Room} {s : State} {m : MethodId} {args : Array Value} {below : List Frame} {meth : Method} {c : Code} {H : Heap} {locs : List Loc} {cells slots : Nat} {Q : State → Prop}
variable {mc ms : Nat} {free : Addr → Prop} {A0 A1 : Nat → Prop} {H0 : Heap} {a : Array Value} {ls : Array Slot} {st0 rest : List Value}
variable {Qc : Array Value → State → Outcome → State → Prop} {XC : String → State → State → Prop}
/-- what a body that may throw owes at its end -/
def vx_MQ (below : List Frame) (Qc : Array Value → State → Outcome → State → Prop) (XC : String → State → State → Prop) (a : Array Value) (s : State) (mc ms : Nat) (free : Addr → Prop) : State → Prop := fun t =>
  ∃ o, t.status = .running ∧ Ended t below o ∧ vx_Q Qc XC mc ms free a s o t
theorem vx_ret {g : JFrame} {mc ms : Nat} (k : W p l e R s m args below meth c H locs cells slots (MQ below Qc args s mc ms free) g) : W p l e R s m args below meth c H locs cells slots (vx_MQ below Qc XC args s mc ms free) g := by
  intro T hT X
  obtain ⟨t, a1, o, b1, b2, b3, b4⟩ := k T hT X
  exact ⟨t, a1, o, b1, b2, Or.inl ⟨b3, b4⟩⟩
/-- not caught here: it goes on to the caller -/
theorem vx_widen {g : JFrame} {q : Addr} {k n : Nat} (h1 : cells ≤ k) (h2 : slots ≤ n) (kk : vx_W p l e R s m args below meth c H locs k n Q g q) : vx_W p l e R s m args below meth c H locs cells slots Q g q := fun T hT X => kk T hT (stand_widen X h1 h2)
theorem vx_out {pc : Nat} {E : String} {ce : Cell} {q : Addr} {mc ms : Nat} (hout : ∀ x ∈ c.exceptionTable.toList, covers x pc = false) (hlocks : meth.locks = false) (hcell : H[q]? = some ce) (hv : ce.vm = .none) (hcl : s.vm.findClass E = some ce.cls)
    (hx : ∀ t : State, t.heap = H → s.vm.Alike t.vm → XC E s t) (hf : ∀ z ∈ locs, free z.base) (hc : cells ≤ mc) (hs : slots ≤ ms) :
    vx_W p l e R s m args below meth c H locs cells slots (vx_MQ below Qc XC args s mc ms free) (F0 m pc ls rest) q := by
  intro T hT X
  obtain ⟨st1, hrun, hend, hW, hsm⟩ := X.leaveThrown q (g := F0 m pc ls rest) rfl rfl rfl hout hlocks
  have hcell9 : (T.setFrames (.throwing q :: below)).heap[q]? = some ce := by
    show T.heap[q]? = some ce
    rw [hT]; exact hcell
  exact ⟨_, st1, .threw q, hrun, hend, Or.inr ⟨q, rfl, E, ce, locs, hx _ hT hW.alike, hcell9, hv, hcl, hW, hsm.mono hc hs, hf⟩⟩
theorem vx_frame {U : State} {k n : Nat} (h : s.sameButNew ({ U with vm := s.vm } : State) locs k n) : s.heap.size ≤ U.heap.size ∧ ∀ q : Nat, q < s.heap.size → (∀ z ∈ locs, z.base ≠ q) → U.heap[q]? = s.heap[q]? := by
  obtain ⟨-, h2, -, -, -, h6⟩ := h
  refine ⟨h2, fun q hq hz => ?_⟩
  obtain ⟨c9, e1, e2, e3, e4⟩ := h6 q _ (Array.getElem?_eq_getElem hq)
  have hs : c9.slots = (s.heap[q]).slots := Array.ext_getElem? fun i => e4 i fun hm => hz _ hm rfl
  have h9 : c9 = s.heap[q] := by
    rw [hs] at e2
    exact e2
  have e5 : U.heap[q]? = some c9 := e1
  rw [e5, h9, Array.getElem?_eq_getElem hq]
/-- the words of a throw but the four that speak of the heap -/
def vx_no (w : Cond) : Bool := decide (w ≠ .isRef (.static Bundle.tN "UNASSIGNED_STACK" Bundle.steD)) && decide (w ≠ .isRef (.static Bundle.tN "SUPPRESSED_SENTINEL" Bundle.listD)) && decide (w ≠ .laysStatic Bundle.tN "UNASSIGNED_STACK" Bundle.steD) && decide (w ≠ .laysStatic Bundle.tN "SUPPRESSED_SENTINEL" Bundle.listD)
def vx_at0 (own : String) (ic : Nat) (X : String) (names : List String) : List Cond := (Bundle.ownAtoms0 own ic X names).filter vx_no
def vx_atS (own : String) (ic : Nat) (X : String) (names : List String) : List Cond := (Bundle.ownAtoms own ic X names).filter vx_no
/-- a word that the tables alone decide, or a good one -/
def vx_ot (w : Cond) : Bool := w.onTables || goodWord w
theorem vx_ot_at {args a' : Array Value} {s U : State} {w : Cond} (hW : s.WarmedH U.vm) (hvm : s.vm = U.vm) (hg : vx_ot w = true) (h : w.before args s = true) : w.before a' U = true := by
  simp only [vx_ot, Bool.or_eq_true] at hg
  rcases hg with hg | hg
  · exact va_tabs hg hvm h
  · exact word_at hW (good_of_word hg) h
/-- a list's words: the good ones out of the method's own list, the others by premises of their own -/
theorem vx_hat {args : Array Value} {s : State} {L B : List Cond} (h1 : ∀ w ∈ L.filter goodWord, w.before args s = true) (h2 : ∀ w ∈ L.filter (fun w => !goodWord w), w ∈ B) (h3 : ∀ w ∈ B, w.before args s = true) : ∀ w ∈ L, w.before args s = true := by
  intro w hw
  by_cases g : goodWord w = true
  · exact h1 w (List.mem_filter.mpr ⟨hw, g⟩)
  · refine h3 w (h2 w (List.mem_filter.mpr ⟨hw, ?_⟩))
    show (!goodWord w) = true
    cases hgw : goodWord w
    · rfl
    · exact absurd hgw g
theorem vx_c {args : Array Value} {s : State} {w : Cond} {B : List Cond} (h : w.before args s = true) (t : ∀ w ∈ B, w.before args s = true) : ∀ w' ∈ w :: B, w'.before args s = true := fun w' h' => (List.mem_cons.mp h').elim (fun e => by rw [e]; exact h) (t w')
theorem vx_n {args : Array Value} {s : State} : ∀ w ∈ ([] : List Cond), w.before args s = true := fun _ h => nomatch h
theorem vx_own {args : Array Value} {s : State} {L : List Cond} (h1 : ∀ w ∈ L.filter vx_no, w.before args s = true)
    (hU : (Cond.isRef (.static Bundle.tN "UNASSIGNED_STACK" Bundle.steD)).before args s = true) (hN : (Cond.isRef (.static Bundle.tN "SUPPRESSED_SENTINEL" Bundle.listD)).before args s = true)
    (lU : (Cond.laysStatic Bundle.tN "UNASSIGNED_STACK" Bundle.steD).before args s = true) (lN : (Cond.laysStatic Bundle.tN "SUPPRESSED_SENTINEL" Bundle.listD).before args s = true) : ∀ w ∈ L, w.before args s = true := by
  intro w hw
  by_cases e1 : w = .isRef (.static Bundle.tN "UNASSIGNED_STACK" Bundle.steD)
  · rw [e1]; exact hU
  · by_cases e2 : w = .isRef (.static Bundle.tN "SUPPRESSED_SENTINEL" Bundle.listD)
    · rw [e2]; exact hN
    · by_cases e3 : w = .laysStatic Bundle.tN "UNASSIGNED_STACK" Bundle.steD
      · rw [e3]; exact lU
      · by_cases e4 : w = .laysStatic Bundle.tN "SUPPRESSED_SENTINEL" Bundle.listD
        · rw [e4]; exact lN
        · exact h1 w (List.mem_filter.mpr ⟨hw, by unfold vx_no; rw [decide_eq_true e1, decide_eq_true e2, decide_eq_true e3, decide_eq_true e4]; rfl⟩)
/-- where a static field lies, its class's statics cell in H -/
def vx_L (C n d : String) (A : Nat → Prop) (U : State) (H : Heap) : Prop := ∃ (c : ClassId) (k : Class) (i : Nat) (f : Field) (a : Nat) (cell : Cell), U.vm.findClass C = some c ∧ U.fieldFound? C n d = some (c, k, i, f) ∧ f.isStatic = true ∧ k.statics = some a ∧ H[a]? = some cell ∧ cell.vm.isStatics = true ∧ cell.cls = c ∧ f.slot < cell.slots.size ∧ k.staticTypes[f.slot]? = some f.type ∧ ¬ A a
theorem vx_L.moved {C n d : String} {A : Nat → Prop} {u U : State} {H : Heap} (hvm : u.vm.Alike U.vm) (h : vx_L C n d A u H) : vx_L C n d A U H := by
  obtain ⟨c, k, i, f, a, cell, h1, h2, h3, h4, h5, h6, h7, h8, h9, h10⟩ := h
  obtain ⟨k', hi', he⟩ := State.fieldFound?_setVm hvm h2
  exact ⟨c, k', i, f, a, cell, by rw [hvm.findClass]; exact h1, hi', h3, by rw [he]; exact h4, h5, h6, h7, h8, by rw [he]; exact h9, h10⟩
theorem vx_L.kept {C n d : String} {A : Nat → Prop} {U : State} {H H1 : Heap} (h : vx_L C n d A U H) (hq : ∀ a : Nat, a < H.size → ¬ A a → H1[a]? = H[a]?) : vx_L C n d A U H1 := by
  obtain ⟨c, k, i, f, a, cell, h1, h2, h3, h4, h5, h6, h7, h8, h9, h10⟩ := h
  exact ⟨c, k, i, f, a, cell, h1, h2, h3, h4, by rw [hq a (Array.getElem?_eq_some_iff.mp h5).1 h10]; exact h5, h6, h7, h8, h9, h10⟩
theorem vx_L.narrow {C n d : String} {A B : Nat → Prop} {U : State} {H : Heap} (h : vx_L C n d A U H) (hAB : ∀ q, B q → A q) : vx_L C n d B U H := by
  obtain ⟨c, k, i, f, a, cell, h1, h2, h3, h4, h5, h6, h7, h8, h9, h10⟩ := h
  exact ⟨c, k, i, f, a, cell, h1, h2, h3, h4, h5, h6, h7, h8, h9, fun z => h10 (hAB _ z)⟩
theorem vx_L.word {C n d : String} {A : Nat → Prop} {s : State} {args : Array Value} (h : vx_L C n d A s s.heap) : (Cond.laysStatic C n d).before args s = true := by
  obtain ⟨c, k, i, f, a, cell, h1, h2, h3, h4, h5, h6, h7, h8, h9, -⟩ := h
  show (Cond.laysStatic C n d).holds args s none s [] = true
  exact Cond.laysStatic_of h1 h2 h3 h4 h5 h6 h7 h8 h9
/-- .. and what it holds: null or some reference -/
def vx_Zq (C n d : String) (A : Nat → Prop) (U : State) (H : Heap) : Prop := va_Zq C n d A U H ∧ vx_L C n d A U H
theorem vx_Zq.moved {C n d : String} {A : Nat → Prop} {u U : State} {H : Heap} (hvm : u.vm.Alike U.vm) (h : vx_Zq C n d A u H) : vx_Zq C n d A U H := ⟨va_Zq.moved hvm h.1, vx_L.moved hvm h.2⟩
theorem vx_Zq.kept {C n d : String} {A : Nat → Prop} {U : State} {H H1 : Heap} (h : vx_Zq C n d A U H) (hq : ∀ a : Nat, a < H.size → ¬ A a → H1[a]? = H[a]?) : vx_Zq C n d A U H1 := ⟨va_Zq.kept h.1 hq, vx_L.kept h.2 hq⟩
theorem vx_Zq.narrow {C n d : String} {A B : Nat → Prop} {U : State} {H : Heap} (h : vx_Zq C n d A U H) (hAB : ∀ q, B q → A q) : vx_Zq C n d B U H := ⟨va_Zq.narrow h.1 hAB, vx_L.narrow h.2 hAB⟩
theorem vx_Zqof {args : Array Value} {s : State} {C n d : String} {A : Nat → Prop} (hl : (Cond.laysStatic C n d).before args s = true) (hini : (Cond.initialized C).before args s = true) (h : (Cond.isRef (.static C n d)).before args s = true) (hA : ∀ a : Nat, a < s.heap.size → ¬ A a) : vx_Zq C n d A s s.heap := by
  refine ⟨va_Zqof hl hini h hA, ?_⟩
  obtain ⟨c, k, i, f, a, cell, h1, h2, h3, h4, h5, h6, h7, h8, h9⟩ := Cond.laysStatic_spec hl
  exact ⟨c, k, i, f, a, cell, h1, h2, h3, h4, h5, h6, h7, h8, h9, hA a (Array.getElem?_eq_some_iff.mp h5).1⟩
theorem vx_isRef {C n d : String} {v : Value} {A : Nat → Prop} {s : State} {args : Array Value} (h : va_Z C n d v A s s.heap) (hv : v.isRef = true) : (Cond.isRef (.static C n d)).before args s = true := by
  obtain ⟨cf, kf, fi, f, a, cell, h1, h2, h3, h4, h5, h6, h7, -⟩ := h
  have he : (Term.static C n d).eval args s none [] s = some v := by
    simp [Term.eval, State.fieldNamed?, h1, h2, h4, h5, h6, h7]
  simp only [Cond.before, Cond.holds, Cond.value, he]
  cases v <;> simp_all [Value.isRef]
theorem vx_isRefq {C n d : String} {A : Nat → Prop} {s : State} {args : Array Value} (h : va_Zq C n d A s s.heap) : (Cond.isRef (.static C n d)).before args s = true := by
  rcases h with h | ⟨t, h⟩
  · exact vx_isRef h rfl
  · exact vx_isRef h rfl
/-- the same frame, seen from here: as if the method were called anew in this heap -/
theorem vx_rebase {T : State} (X : Stand p l e R s m args below meth c T locs cells slots) {R' : Room} (hf : R'.frames ≤ R.frames) (hl : R'.locals ≤ R.locals) (hc : cells + R'.cells ≤ R.cells) (hs : slots + R'.slots ≤ R.slots) :
    Stand p l e R' ((T.setVm s.vm).setFrames (.invoking m args :: below)) m args below meth c T [] 0 0 := by
  have htop : (T.setVm s.vm).topJava?.isSome := X.here.top
  have hF : ((T.setVm s.vm).setFrames (.invoking m args :: below)).frames = .invoking m args :: below := State.frames_setFrames _ (State.cur_lt_of_top htop)
  obtain ⟨g₀, hg0⟩ := Option.isSome_iff_exists.mp htop
  obtain ⟨r, hr⟩ := State.topJava?_eq_some.mp hg0
  have hl9 : e.platform.stackLimits (T.setVm s.vm).me = e.platform.stackLimits s.me := X.limits
  have hb9 : (T.setVm s.vm).me.stackBytes = s.me.stackBytes := X.bytes
  refine ⟨X.admits, X.cas, X.clock, hF, ?_, X.hears, X.method, X.code, X.here, X.tail, X.warmed, ?_, ?_, ?_⟩
  · have h := X.room
    have hU : ((T.setVm s.vm).setFrames (.invoking m args :: below)).localsInUse = s.localsInUse := by
      rw [State.localsInUse_invoking hF (meth := meth) (c := c) X.method X.code, State.localsInUse_invoking X.frames X.method X.code]
    simp only [State.hasRoom, Bool.and_eq_true, decide_eq_true_eq] at h ⊢
    obtain ⟨⟨⟨⟨h1, h2, h3, h4, h5, h6⟩, h7⟩, h8⟩, h9⟩ := h
    rw [X.frames, List.length_cons] at h2 h3
    have q1 := X.heapSize
    have q2 := X.used
    simp only [hF, hU, List.length_cons, State.stackLimits_setFrames, State.stackBytes_setFrames, hl9, hb9]
    refine ⟨⟨⟨⟨by omega, by omega, by omega, by omega, by omega, h6⟩, ?_⟩, ?_⟩, X.book⟩
    · show T.heap.size + R'.cells ≤ e.platform.maxCells
      omega
    · show T.slotsUsed + R'.slots ≤ e.platform.maxSlots
      omega
  · rw [State.stackLimits_setFrames]; rfl
  · rw [State.stackBytes_setFrames]; rfl
  · refine ⟨?_, Nat.le_refl _, Nat.le_refl _, ?_, ?_, fun a c9 h9 => ⟨c9, h9, rfl, rfl, fun _ _ => rfl⟩⟩
    · obtain ⟨t, ht, -⟩ := State.frames_cons hr
      show T.setVm s.vm = { ((T.setVm s.vm).setFrames (.invoking m args :: below)).setFrames (T.setVm s.vm).frames with heap := T.heap, slotsUsed := T.slotsUsed }
      rw [State.setFrames_setFrames, State.setFrames_self ht]
      rfl
    · show T.slotsUsed = T.slotsUsed + ((T.heap.toList.drop T.heap.size).map (·.slots.size)).sum
      rw [List.drop_eq_nil_of_le (Nat.le_of_eq Array.length_toList)]
      rfl
    · show ((T.heap.toList.drop T.heap.size).map (·.slots.size)).sum ≤ 0
      rw [List.drop_eq_nil_of_le (Nat.le_of_eq Array.length_toList)]
      exact Nat.le_refl _
/-- 'throw new E()': new; dup; invokespecial; athrow -/
theorem vx_throw0 {cc : ByteArray} {pc : Nat} (hexec : p.tables.exec = Jvm.exec) (hb : c.code = cc) (hl : l.stackTraces = false) {own cls : String} {names : List String} {ik ic mc ms : Nat} {A : Nat → Prop}
    (hown : s.vm.findClass own = some m.cls) (hcls : Bundle.fit cls = true) (hnames : ∀ n ∈ names, Bundle.fit n = true)
    (hk : (Cond.classLink own ik cls).before args s = true) (hini : (Cond.initialized cls).before args s = true) (hat : ∀ w ∈ vx_at0 own ic cls names, w.before args s = true)
    (hgood : ∀ w ∈ Cond.classLink own ik cls :: Cond.initialized cls :: vx_at0 own ic cls names, vx_ot w = true)
    (hU : vx_Zq Bundle.tN "UNASSIGNED_STACK" Bundle.steD A s s.heap) (hN : vx_Zq Bundle.tN "SUPPRESSED_SENTINEL" Bundle.listD A s s.heap) (hS : va_S A s.heap H locs) (hsize : ls.size = c.maxLocals)
    (d0 : decode cc pc = .ok (.new ik, 3)) (d3 : decode cc (pc + 3) = .ok (.dup, 1)) (d4 : decode cc (pc + 4) = .ok (.invokespecial ic, 3)) (d7 : decode cc (pc + 7) = .ok (.athrow, 1))
    (hout : ∀ x ∈ c.exceptionTable.toList, covers x (pc + 7) = false)
    (hRframes : names.length + 3 < R.frames) (hRlocals : (rest.map fun v => v.category).sum + (13 * (names.length + 1) + 42) ≤ R.locals) (hRcells : cells + 1 ≤ R.cells) (hRslots : slots + 6 ≤ R.slots) (hlocks : meth.locks = false)
    (hx : ∀ t : State, s.vm.Alike t.vm → H.size ≤ t.heap.size → (∀ q : Nat, q < H.size → t.heap[q]? = H[q]?) → XC cls s t)
    (hf : ∀ z ∈ locs, free z.base) (hc : cells + 1 ≤ mc) (hs : slots + 6 ≤ ms) :
    W p l e R s m args below meth c H locs cells slots (vx_MQ below Qc XC args s mc ms free) (F0 m pc ls rest) := by
  intro T hT X
  have htr : e.platform.stackTraces = false := (show e.platform.stackTraces = l.stackTraces by rw [X.admits.platform]).trans hl
  have Y := vx_rebase X (R' := { frames := R.frames, locals := R.locals, cells := 1, slots := 6 }) (Nat.le_refl _) (Nat.le_refl _) hRcells hRslots
  obtain ⟨s', hA⟩ : ∃ z, z = (T.setVm s.vm).setFrames (.invoking m args :: below) := ⟨_, rfl⟩
  rw [← hA] at Y
  have hvm : s'.vm = s.vm := by rw [hA]; rfl
  have hhp : s'.heap = H := by rw [hA]; exact hT
  have hW0 : s.WarmedH s'.vm := by rw [hvm]; exact State.WarmedH.refl s
  have hat' : ∀ w ∈ vx_at0 own ic cls names, w.before args s' = true := fun w hw => vx_ot_at hW0 hvm.symm (hgood w (List.mem_cons_of_mem _ (List.mem_cons_of_mem _ hw))) (hat w hw)
  have hk' : (Cond.classLink own ik cls).before args s' = true := vx_ot_at hW0 hvm.symm (hgood _ List.mem_cons_self) hk
  have hini' : (Cond.initialized cls).before args s' = true := vx_ot_at hW0 hvm.symm (hgood _ (List.mem_cons_of_mem _ List.mem_cons_self)) hini
  have hU' : vx_Zq Bundle.tN "UNASSIGNED_STACK" Bundle.steD A s' s'.heap := by rw [hhp]; exact vx_Zq.moved hW0.alike (hU.kept hS.2.1)
  have hN' : vx_Zq Bundle.tN "SUPPRESSED_SENTINEL" Bundle.listD A s' s'.heap := by rw [hhp]; exact vx_Zq.moved hW0.alike (hN.kept hS.2.1)
  have h : ∀ w ∈ Bundle.ownAtoms0 own ic cls names, w.before args s' = true := vx_own hat' (vx_isRefq hU'.1) (vx_isRefq hN'.1) hU'.2.word hN'.2.word
  have hown' : s'.vm.findClass own = some m.cls := by rw [hvm]; exact hown
  have hins : (Cond.instantiable cls 6).before args s' = true := h _ (by simp [Bundle.ownAtoms0])
  obtain ⟨vm₁, cX, kX, hfX, hkX, -, -, X₁, st1⟩ := Y.newCold hexec (own := own) (C := cls) (index := ik) (n := 6) hown' hk' hins hini'
    (g := F0 m pc ls rest) rfl (by rw [hb]; exact d0) (Nat.le_refl _) (Nat.le_refl _)
  generalize hT1 : (T.setVm vm₁).pushCell { cls := cX, slots := kX.instanceTypes.map defaultValue, vm := .none } = T1 at X₁ st1
  have hcat : (Value.ref T.heap.size).category = 1 := rfl
  have hcellA : T1.heap[T.heap.size]? = some (freshCell cX kX) := by rw [← hT1]; exact State.heap_pushCell_size _ _
  have d3' : decode c.code (pc + 3) = .ok (.dup, 1) := by rw [hb]; exact d3
  obtain ⟨U, hsteps, hrun, hend, hW, hsame, ce, hce, hO⟩ := X₁.ctorThrow0 hexec htr (own := own) (cls := cls) (names := names) (ic := ic) hown' hcls hnames h (fun x hx => nomatch hx) hfX hkX hcellA (by rw [hhp, hT]; exact Nat.le_refl _)
    (g := { method := m, pc := pc + 4, locals := ls, stack := .ref T.heap.size :: .ref T.heap.size :: rest, locked := none }) rfl hsize rfl rfl (rest := rest) rfl
    (by rw [hb]; exact d4) (by rw [hb]; exact d7) hout hRframes (by simp only [List.map_cons, List.sum_cons, hcat]; omega) hlocks
  obtain ⟨f1, f2⟩ := vx_frame hsame
  rw [hhp] at f1 f2
  have hWs : s.WarmedH U.vm := State.WarmedH.trans hW0 hW
  have hcl : s.vm.findClass cls = some ce.cls := by
    have h9 := hO.cls
    rw [hvm] at h9
    exact h9
  have hall : s.sameButNew ({ U with vm := s.vm } : State) locs mc ms := by
    subst hA
    obtain ⟨e1, e2⟩ := hsame
    rw [State.setFrames_setFrames] at e1
    have h2 : (T.setVm s.vm).sameButNew ({ U with vm := s.vm } : State) [] (0 + 1) (0 + 6) := ⟨e1, e2⟩
    have h3 := X.same.trans h2
    rw [List.append_nil] at h3
    exact h3.mono hc hs
  refine ⟨U, ?_, .threw T.heap.size, hrun, hend, Or.inr ⟨T.heap.size, rfl, cls, ce, locs, hx U hWs.alike f1 (fun q hq => f2 q hq (fun z hz => nomatch hz)), hce, hO.vm, hcl, hWs, hall, hf⟩⟩
  refine st1 _ ?_
  show Steps p.tables e below (T1.setTop { method := m, pc := pc + 3, locals := ls, stack := .ref T.heap.size :: rest, locked := none }) _
  jvm_step X₁.here [X₁.here.top, hexec, d3', Value.category]
  exact hsteps
/-- 'throw new E("text")': new; dup; ldc; invokespecial; athrow -/
theorem vx_throwS {cc : ByteArray} {pc : Nat} (hexec : p.tables.exec = Jvm.exec) (hb : c.code = cc) (hl : l.stackTraces = false) {own cls text : String} {names : List String} {ik is ic mc ms sa : Nat} {A : Nat → Prop}
    (hown : s.vm.findClass own = some m.cls) (hcls : Bundle.fit cls = true) (hnames : ∀ n ∈ names, Bundle.fit n = true)
    (hk : (Cond.classLink own ik cls).before args s = true) (hini : (Cond.initialized cls).before args s = true) (hstr : vk_R own is text sa s) (hat : ∀ w ∈ vx_atS own ic cls names, w.before args s = true)
    (hgood : ∀ w ∈ Cond.classLink own ik cls :: Cond.initialized cls :: vx_atS own ic cls names, vx_ot w = true)
    (hU : vx_Zq Bundle.tN "UNASSIGNED_STACK" Bundle.steD A s s.heap) (hN : vx_Zq Bundle.tN "SUPPRESSED_SENTINEL" Bundle.listD A s s.heap) (hS : va_S A s.heap H locs) (hsize : ls.size = c.maxLocals)
    (d0 : decode cc pc = .ok (.new ik, 3)) (d3 : decode cc (pc + 3) = .ok (.dup, 1)) (d4 : decode cc (pc + 4) = .ok (.ldc is, 2)) (d6 : decode cc (pc + 6) = .ok (.invokespecial ic, 3)) (d9 : decode cc (pc + 9) = .ok (.athrow, 1))
    (hout : ∀ x ∈ c.exceptionTable.toList, covers x (pc + 9) = false)
    (hRframes : names.length + 3 < R.frames) (hRlocals : (rest.map fun v => v.category).sum + (13 * (names.length + 1) + 43) ≤ R.locals) (hRcells : cells + 1 ≤ R.cells) (hRslots : slots + 6 ≤ R.slots) (hlocks : meth.locks = false)
    (hx : ∀ t : State, s.vm.Alike t.vm → H.size ≤ t.heap.size → (∀ q : Nat, q < H.size → t.heap[q]? = H[q]?) → XC cls s t)
    (hf : ∀ z ∈ locs, free z.base) (hc : cells + 1 ≤ mc) (hs : slots + 6 ≤ ms) :
    W p l e R s m args below meth c H locs cells slots (vx_MQ below Qc XC args s mc ms free) (F0 m pc ls rest) := by
  intro T hT X
  have htr : e.platform.stackTraces = false := (show e.platform.stackTraces = l.stackTraces by rw [X.admits.platform]).trans hl
  have Y := vx_rebase X (R' := { frames := R.frames, locals := R.locals, cells := 1, slots := 6 }) (Nat.le_refl _) (Nat.le_refl _) hRcells hRslots
  obtain ⟨s', hA⟩ : ∃ z, z = (T.setVm s.vm).setFrames (.invoking m args :: below) := ⟨_, rfl⟩
  rw [← hA] at Y
  have hvm : s'.vm = s.vm := by rw [hA]; rfl
  have hhp : s'.heap = H := by rw [hA]; exact hT
  have hW0 : s.WarmedH s'.vm := by rw [hvm]; exact State.WarmedH.refl s
  have hat' : ∀ w ∈ vx_atS own ic cls names, w.before args s' = true := fun w hw => vx_ot_at hW0 hvm.symm (hgood w (List.mem_cons_of_mem _ (List.mem_cons_of_mem _ hw))) (hat w hw)
  have hk' : (Cond.classLink own ik cls).before args s' = true := vx_ot_at hW0 hvm.symm (hgood _ List.mem_cons_self) hk
  have hini' : (Cond.initialized cls).before args s' = true := vx_ot_at hW0 hvm.symm (hgood _ (List.mem_cons_of_mem _ List.mem_cons_self)) hini
  have hU' : vx_Zq Bundle.tN "UNASSIGNED_STACK" Bundle.steD A s' s'.heap := by rw [hhp]; exact vx_Zq.moved hW0.alike (hU.kept hS.2.1)
  have hN' : vx_Zq Bundle.tN "SUPPRESSED_SENTINEL" Bundle.listD A s' s'.heap := by rw [hhp]; exact vx_Zq.moved hW0.alike (hN.kept hS.2.1)
  have h : ∀ w ∈ Bundle.ownAtoms own ic cls names, w.before args s' = true := vx_own hat' (vx_isRefq hU'.1) (vx_isRefq hN'.1) hU'.2.word hN'.2.word
  have hown' : s'.vm.findClass own = some m.cls := by rw [hvm]; exact hown
  have hins : (Cond.instantiable cls 6).before args s' = true := h _ (by simp [Bundle.ownAtoms])
  obtain ⟨vm₁, cX, kX, hfX, hkX, -, -, X₁, st1⟩ := Y.newCold hexec (own := own) (C := cls) (index := ik) (n := 6) hown' hk' hins hini'
    (g := F0 m pc ls rest) rfl (by rw [hb]; exact d0) (Nat.le_refl _) (Nat.le_refl _)
  generalize hT1 : (T.setVm vm₁).pushCell { cls := cX, slots := kX.instanceTypes.map defaultValue, vm := .none } = T1 at X₁ st1
  have hcat : (Value.ref T.heap.size).category = 1 := rfl
  have hcellA : T1.heap[T.heap.size]? = some (freshCell cX kX) := by rw [← hT1]; exact State.heap_pushCell_size _ _
  have d3' : decode c.code (pc + 3) = .ok (.dup, 1) := by rw [hb]; exact d3
  have d4' : decode c.code (pc + 4) = .ok (.ldc is, 2) := by rw [hb]; exact d4
  have hstr' : vk_R own is text sa s' := vk_R.warm hW0 hstr
  obtain ⟨U, hsteps, hrun, hend, hW, hsame, ce, hce, hO⟩ := X₁.ctorThrowS hexec htr (own := own) (cls := cls) (names := names) (ic := ic) hown' hcls hnames h (fun x hx => nomatch hx) hfX hkX hcellA (by rw [hhp, hT]; exact Nat.le_refl _) (msg := .ref sa) rfl
    (g := { method := m, pc := pc + 6, locals := ls, stack := .ref sa :: .ref T.heap.size :: .ref T.heap.size :: rest, locked := none }) rfl hsize rfl rfl (rest := rest) rfl
    (by rw [hb]; exact d6) (by rw [hb]; exact d9) hout hRframes (by simp only [List.map_cons, List.sum_cons, hcat]; omega) hlocks
  obtain ⟨f1, f2⟩ := vx_frame hsame
  rw [hhp] at f1 f2
  have hWs : s.WarmedH U.vm := State.WarmedH.trans hW0 hW
  have hcl : s.vm.findClass cls = some ce.cls := by
    have h9 := hO.cls
    rw [hvm] at h9
    exact h9
  have hall : s.sameButNew ({ U with vm := s.vm } : State) locs mc ms := by
    subst hA
    obtain ⟨e1, e2⟩ := hsame
    rw [State.setFrames_setFrames] at e1
    have h2 : (T.setVm s.vm).sameButNew ({ U with vm := s.vm } : State) [] (0 + 1) (0 + 6) := ⟨e1, e2⟩
    have h3 := X.same.trans h2
    rw [List.append_nil] at h3
    exact h3.mono hc hs
  refine ⟨U, ?_, .threw T.heap.size, hrun, hend, Or.inr ⟨T.heap.size, rfl, cls, ce, locs, hx U hWs.alike f1 (fun q hq => f2 q hq (fun z hz => nomatch hz)), hce, hO.vm, hcl, hWs, hall, hf⟩⟩
  refine st1 _ ?_
  show Steps p.tables e below (T1.setTop { method := m, pc := pc + 3, locals := ls, stack := .ref T.heap.size :: rest, locked := none }) _
  jvm_step X₁.here [X₁.here.top, hexec, d3', Value.category]
  exact X₁.ldcString hexec (own := own) (text := text) (index := is) (a := sa) hown' hstr'.1 hstr'.2
    (g := { method := m, pc := pc + 4, locals := ls, stack := .ref T.heap.size :: .ref T.heap.size :: rest, locked := none }) rfl d4' _ hsteps
/-- 'throw new E("text")', the text by a wide index -/
theorem vx_throwSW {cc : ByteArray} {pc : Nat} (hexec : p.tables.exec = Jvm.exec) (hb : c.code = cc) (hl : l.stackTraces = false) {own cls text : String} {names : List String} {ik is ic mc ms sa : Nat} {A : Nat → Prop}
    (hown : s.vm.findClass own = some m.cls) (hcls : Bundle.fit cls = true) (hnames : ∀ n ∈ names, Bundle.fit n = true)
    (hk : (Cond.classLink own ik cls).before args s = true) (hini : (Cond.initialized cls).before args s = true) (hstr : vk_R own is text sa s) (hat : ∀ w ∈ vx_atS own ic cls names, w.before args s = true)
    (hgood : ∀ w ∈ Cond.classLink own ik cls :: Cond.initialized cls :: vx_atS own ic cls names, vx_ot w = true)
    (hU : vx_Zq Bundle.tN "UNASSIGNED_STACK" Bundle.steD A s s.heap) (hN : vx_Zq Bundle.tN "SUPPRESSED_SENTINEL" Bundle.listD A s s.heap) (hS : va_S A s.heap H locs) (hsize : ls.size = c.maxLocals)
    (d0 : decode cc pc = .ok (.new ik, 3)) (d3 : decode cc (pc + 3) = .ok (.dup, 1)) (d4 : decode cc (pc + 4) = .ok (.ldc_w is, 3)) (d7 : decode cc (pc + 7) = .ok (.invokespecial ic, 3)) (d10 : decode cc (pc + 10) = .ok (.athrow, 1))
    (hout : ∀ x ∈ c.exceptionTable.toList, covers x (pc + 10) = false)
    (hRframes : names.length + 3 < R.frames) (hRlocals : (rest.map fun v => v.category).sum + (13 * (names.length + 1) + 43) ≤ R.locals) (hRcells : cells + 1 ≤ R.cells) (hRslots : slots + 6 ≤ R.slots) (hlocks : meth.locks = false)
    (hx : ∀ t : State, s.vm.Alike t.vm → H.size ≤ t.heap.size → (∀ q : Nat, q < H.size → t.heap[q]? = H[q]?) → XC cls s t)
    (hf : ∀ z ∈ locs, free z.base) (hc : cells + 1 ≤ mc) (hs : slots + 6 ≤ ms) :
    W p l e R s m args below meth c H locs cells slots (vx_MQ below Qc XC args s mc ms free) (F0 m pc ls rest) := by
  intro T hT X
  have htr : e.platform.stackTraces = false := (show e.platform.stackTraces = l.stackTraces by rw [X.admits.platform]).trans hl
  have Y := vx_rebase X (R' := { frames := R.frames, locals := R.locals, cells := 1, slots := 6 }) (Nat.le_refl _) (Nat.le_refl _) hRcells hRslots
  obtain ⟨s', hA⟩ : ∃ z, z = (T.setVm s.vm).setFrames (.invoking m args :: below) := ⟨_, rfl⟩
  rw [← hA] at Y
  have hvm : s'.vm = s.vm := by rw [hA]; rfl
  have hhp : s'.heap = H := by rw [hA]; exact hT
  have hW0 : s.WarmedH s'.vm := by rw [hvm]; exact State.WarmedH.refl s
  have hat' : ∀ w ∈ vx_atS own ic cls names, w.before args s' = true := fun w hw => vx_ot_at hW0 hvm.symm (hgood w (List.mem_cons_of_mem _ (List.mem_cons_of_mem _ hw))) (hat w hw)
  have hk' : (Cond.classLink own ik cls).before args s' = true := vx_ot_at hW0 hvm.symm (hgood _ List.mem_cons_self) hk
  have hini' : (Cond.initialized cls).before args s' = true := vx_ot_at hW0 hvm.symm (hgood _ (List.mem_cons_of_mem _ List.mem_cons_self)) hini
  have hU' : vx_Zq Bundle.tN "UNASSIGNED_STACK" Bundle.steD A s' s'.heap := by rw [hhp]; exact vx_Zq.moved hW0.alike (hU.kept hS.2.1)
  have hN' : vx_Zq Bundle.tN "SUPPRESSED_SENTINEL" Bundle.listD A s' s'.heap := by rw [hhp]; exact vx_Zq.moved hW0.alike (hN.kept hS.2.1)
  have h : ∀ w ∈ Bundle.ownAtoms own ic cls names, w.before args s' = true := vx_own hat' (vx_isRefq hU'.1) (vx_isRefq hN'.1) hU'.2.word hN'.2.word
  have hown' : s'.vm.findClass own = some m.cls := by rw [hvm]; exact hown
  have hins : (Cond.instantiable cls 6).before args s' = true := h _ (by simp [Bundle.ownAtoms])
  obtain ⟨vm₁, cX, kX, hfX, hkX, -, -, X₁, st1⟩ := Y.newCold hexec (own := own) (C := cls) (index := ik) (n := 6) hown' hk' hins hini'
    (g := F0 m pc ls rest) rfl (by rw [hb]; exact d0) (Nat.le_refl _) (Nat.le_refl _)
  generalize hT1 : (T.setVm vm₁).pushCell { cls := cX, slots := kX.instanceTypes.map defaultValue, vm := .none } = T1 at X₁ st1
  have hcat : (Value.ref T.heap.size).category = 1 := rfl
  have hcellA : T1.heap[T.heap.size]? = some (freshCell cX kX) := by rw [← hT1]; exact State.heap_pushCell_size _ _
  have d3' : decode c.code (pc + 3) = .ok (.dup, 1) := by rw [hb]; exact d3
  have d4' : decode c.code (pc + 4) = .ok (.ldc_w is, 3) := by rw [hb]; exact d4
  have hstr' : vk_R own is text sa s' := vk_R.warm hW0 hstr
  obtain ⟨U, hsteps, hrun, hend, hW, hsame, ce, hce, hO⟩ := X₁.ctorThrowS hexec htr (own := own) (cls := cls) (names := names) (ic := ic) hown' hcls hnames h (fun x hx => nomatch hx) hfX hkX hcellA (by rw [hhp, hT]; exact Nat.le_refl _) (msg := .ref sa) rfl
    (g := { method := m, pc := pc + 7, locals := ls, stack := .ref sa :: .ref T.heap.size :: .ref T.heap.size :: rest, locked := none }) rfl hsize rfl rfl (rest := rest) rfl
    (by rw [hb]; exact d7) (by rw [hb]; exact d10) hout hRframes (by simp only [List.map_cons, List.sum_cons, hcat]; omega) hlocks
  obtain ⟨f1, f2⟩ := vx_frame hsame
  rw [hhp] at f1 f2
  have hWs : s.WarmedH U.vm := State.WarmedH.trans hW0 hW
  have hcl : s.vm.findClass cls = some ce.cls := by
    have h9 := hO.cls
    rw [hvm] at h9
    exact h9
  have hall : s.sameButNew ({ U with vm := s.vm } : State) locs mc ms := by
    subst hA
    obtain ⟨e1, e2⟩ := hsame
    rw [State.setFrames_setFrames] at e1
    have h2 : (T.setVm s.vm).sameButNew ({ U with vm := s.vm } : State) [] (0 + 1) (0 + 6) := ⟨e1, e2⟩
    have h3 := X.same.trans h2
    rw [List.append_nil] at h3
    exact h3.mono hc hs
  refine ⟨U, ?_, .threw T.heap.size, hrun, hend, Or.inr ⟨T.heap.size, rfl, cls, ce, locs, hx U hWs.alike f1 (fun q hq => f2 q hq (fun z hz => nomatch hz)), hce, hO.vm, hcl, hWs, hall, hf⟩⟩
  refine st1 _ ?_
  show Steps p.tables e below (T1.setTop { method := m, pc := pc + 3, locals := ls, stack := .ref T.heap.size :: rest, locked := none }) _
  jvm_step X₁.here [X₁.here.top, hexec, d3', Value.category]
  exact X₁.ldcStringW hexec (own := own) (text := text) (index := is) (a := sa) hown' hstr'.1 hstr'.2
    (g := { method := m, pc := pc + 4, locals := ls, stack := .ref T.heap.size :: .ref T.heap.size :: rest, locked := none }) rfl d4' _ hsteps
end Ends
section Bodies
variable {l : Launch}
theorem vx_ofW {y : MethodName} {ws ws' : List Cond} {rm : Room} {Pc : Array Value → State → Prop} {Qc : Array Value → State → Outcome → State → Prop} {XC : String → State → State → Prop} {mc ms : Nat} {free : Addr → Prop} {cc : ByteArray} {maxL : Nat} {ret : Option FieldType}
    (hy : plainName y.cls = true) (hw : ws = Cond.code y cc maxL ret :: ws')
    (body : ∀ p e s m args below meth c s₁, BodyLoose p l y (headSpec ws rm) cc maxL ret e s m args below meth c s₁ → c.maxLocals = maxL → (∀ x ∈ c.exceptionTable.toList, False) → Pc args s →
      W p l e (headSpec ws rm).room s m args below meth c s.heap [] 0 0 (vx_MQ below Qc XC args s mc ms free) (entryFrame m args maxL)) : vx_Met l y ws rm Pc Qc XC mc ms free := by
  refine MetFree.of_bodyS (code := cc) (maxLocals := maxL) (ret := ret) hy ?_ ?_
  · intro args s m h hn
    obtain ⟨meth, c, h1, h2, h3, h4, h5, h6, -, -⟩ := Cond.code_spec hn (atoms_spec (ws := ws) h _ (by rw [hw]; exact List.mem_cons_self))
    exact ⟨meth, c, h1, h2, h3, h4, h5, h6⟩
  · intro p e s m args below meth c s₁ B hml hP _
    have hh0 : s₁.heap = s.heap := by rw [B.state]; rfl
    have ht : ∀ x ∈ c.exceptionTable.toList, False := by
      obtain ⟨meth9, c9, h1, h2, -, -, -, -, h7, -⟩ := Cond.code_spec B.named (atoms_spec (ws := ws) B.pre _ (by rw [hw]; exact List.mem_cons_self))
      cases Option.some.inj (h1.symm.trans B.method)
      cases Option.some.inj (h2.symm.trans (Stand.of_body B).code)
      intro x hx
      rw [Array.isEmpty_iff.mp h7] at hx
      cases hx
    obtain ⟨t, a1, o, b1, b2, b3⟩ := body p e s m args below meth c s₁ B hml ht hP s₁ hh0 (Stand.of_body B)
    exact ⟨t, o, a1, b1, b2, b3⟩
/-- the table of a body with handlers -/
theorem vx_table {p : Program} {x y : MethodName} {S : Spec} {cc bytes : ByteArray} {maxL maxL' : Nat} {ret ret' : Option FieldType} {e : Env} {s s₁ : State} {m : MethodId} {args : Array Value} {below : List Frame} {meth : Method} {c : Code} {hh : List (Nat × Nat × Nat × Nat)}
    (B : BodyLoose p l y S cc maxL ret e s m args below meth c s₁) (h : (Cond.codeWith y bytes maxL' ret' hh).before args s = true) : c.exceptionTable.toList = tableOf hh := by
  obtain ⟨m9, meth9, c9, hn9, h1, h2, -, -, h6, -⟩ := Cond.codeWith_spec h
  cases Option.some.inj (hn9.symm.trans B.named)
  cases Option.some.inj (h1.symm.trans B.method)
  cases Option.some.inj (h2.symm.trans (Stand.of_body B).code)
  rw [← h6, table_eq]
end Bodies
end VXA
/-! ===== END ===== -/
/-! ===== BEGIN a static call of a method with an exception table ===== -/
section VXS
variable {p : Program} {l : Launch} {e : Env} {R : Room} {s : State} {m : MethodId} {args : Array Value} {below : List Frame} {meth : Method} {c : Code} {T : State} {H : Heap} {locs : List Loc} {cells slots : Nat}
abbrev vx_CSW (R : Room) (s : State) (args : Array Value) (own : String) (index : Nat) (y : MethodName) (bytes : ByteArray) (maxL : Nat) (ret : Option FieldType) (hh : List (Nat × Nat × Nat × Nat)) (ws : List Cond) (rm : Room) (mc ms n : Nat) : Prop :=
  (rm.cells = mc ∧ rm.slots = ms ∧ rm.frames + 1 ≤ R.frames ∧ 8 + (maxL + 11) + rm.locals ≤ R.locals ∧ (∀ w ∈ ws, ∀ (a' : Array Value) (U : State), s.WarmedH U.vm → w.before a' U = true) ∧ Cond.codeWith y bytes maxL ret hh ∈ ws) ∧
  (Cond.codeWith y bytes maxL ret hh).before args s = true ∧ (Cond.initialized y.cls).before args s = true ∧ (y.cls ≠ "java/lang/invoke/MethodHandle" ∧ y.cls ≠ "java/lang/invoke/VarHandle") ∧
  (∀ sig, parseMethodDescriptor y.desc = some sig → n = sig.parameters.length) ∧ (Cond.methodLink own index y).before args s = true ∧ (Cond.static y).before args s = true
theorem vx_cwSW {own : String} {index maxL mc ms : Nat} {y : MethodName} {bytes : ByteArray} {ret : Option FieldType} {hh : List (Nat × Nat × Nat × Nat)} {Ts ws ws' : List Cond} {rm : Room} (n : Nat) (ht : ∀ w ∈ Ts, w.before args s = true) (hT : GoodIn Ts (va_wsS own index y ws)) (hw : ws = Cond.codeWith y bytes maxL ret hh :: ws') (hrc : rm.cells = mc) (hrs : rm.slots = ms)
    (hd : y.cls ≠ "java/lang/invoke/MethodHandle" ∧ y.cls ≠ "java/lang/invoke/VarHandle" ∧ (parseMethodDescriptor y.desc).map (fun d => d.parameters.length) = some n) (hR : rm.frames + 1 ≤ R.frames ∧ 8 + (maxL + 11) + rm.locals ≤ R.locals) :
    vx_CSW R s args own index y bytes maxL ret hh ws rm mc ms n := by
  have ok : ∀ w ∈ va_wsS own index y ws, w.before args s = true := fun w h => ht w (hT w h).1
  have hG : GoodIn Ts ws := fun w h => hT w (by unfold va_wsS; exact List.mem_append_right _ h)
  have hc : Cond.codeWith y bytes maxL ret hh ∈ ws := by rw [hw]; exact List.mem_cons_self
  refine ⟨⟨hrc, hrs, hR.1, hR.2, pay_in ht hG, hc⟩, ht _ (hG _ hc).1, ok _ (by simp [va_wsS]), ⟨hd.1, hd.2.1⟩, fun sig h => ?_, ok _ (by simp [va_wsS]), ok _ (by simp [va_wsS])⟩
  have h2 := hd.2.2
  rw [h] at h2
  exact (Option.some.inj h2).symm
theorem vx_callSW (X : Stand p l e R s m args below meth c T locs cells slots) (hexec : p.tables.exec = Jvm.exec) {own : String} {index : Nat} {y : MethodName} {bytes : ByteArray} {maxL : Nat} {ret : Option FieldType} {hh : List (Nat × Nat × Nat × Nat)}
    (hown : s.vm.findClass own = some m.cls) (hlink : (Cond.methodLink own index y).before args s = true) (hstat : (Cond.static y).before args s = true) (hinit : (Cond.initialized y.cls).before args s = true)
    (hcode : (Cond.codeWith y bytes maxL ret hh).before args s = true) (hy : y.cls ≠ "java/lang/invoke/MethodHandle" ∧ y.cls ≠ "java/lang/invoke/VarHandle")
    {W9 : Nat} {Pre : Pt → Array Value → Prop} {Post : Pt → Array Value → Option Value → Pt → Prop} (hK : Back l R p e below s args y 3 W9 Pre Post)
    {g : JFrame} (hg : g.method = m) (hsize : g.locals.size = c.maxLocals) {argsL rest : List Value} (hlen : ∀ sig, parseMethodDescriptor y.desc = some sig → argsL.length = sig.parameters.length)
    (hstack : g.stack = argsL.reverse ++ rest) (hW : 2 * g.monitorRoom + (rest.map fun v => v.category).sum ≤ W9) (hdg : decode c.code g.pc = .ok (.invokestatic index, 3))
    (hpre : ∀ vm₁, s.WarmedH vm₁ → Pre ⟨T.setVm vm₁, locs, cells, slots⟩ argsL.toArray) :
    ∃ (v : Option Value) (vm₁ : Vm) (B : Pt), s.WarmedH vm₁ ∧ Stand p l e R s m args below meth c B.U B.locs B.cells B.slots ∧ Post ⟨T.setVm vm₁, locs, cells, slots⟩ argsL.toArray v B ∧
      ∀ target, Steps p.tables e below (B.U.setTop { g with pc := g.pc + 3, stack := v.toList ++ rest }) target → Steps p.tables e below (T.setTop g) target := by
  obtain ⟨mk, methM, cM, hnamed, hmethM, -, -, -, -, -, -, hsigM⟩ := Cond.codeWith_spec hcode
  have hstatic : methM.isStatic = true := Cond.static_spec hnamed hmethM hstat
  obtain ⟨kP, hkP, -⟩ := className_of_methodNamed hnamed
  have hinitP : kP.init = .initialized := Cond.initialized_spec (findClass_of_methodNamed hnamed) hkP hinit
  obtain ⟨vm₁, X₁, hstep₁⟩ := X.invokestatic hexec hown hlink hnamed hmethM hstatic hkP hinitP hy (g := g) hg (argsL := argsL) (rest := rest) (hlen _ hsigM) hstack hdg
  obtain ⟨v, B, X', hpost, hsteps⟩ := hK m meth c ⟨T.setVm vm₁, locs, cells, slots⟩ { g with stack := rest } (.invokestatic index) mk argsL.toArray X₁ hg hsize hdg hW (X₁.named hnamed) (hpre vm₁ X₁.warmed)
  exact ⟨v, vm₁, B, X₁.warmed, X', hpost, fun target h => hstep₁ _ fun acts => by rw [doInvoke_state]; exact hsteps.trans h⟩
theorem vx_runSW {y : MethodName} {bytes cc : ByteArray} {maxL nL mc ms n index : Nat} {ret : Option FieldType} {hh : List (Nat × Nat × Nat × Nat)} {ws : List Cond} {rm : Room} {Pc : Array Value → State → Prop} {Qc : Array Value → State → Outcome → State → Prop} {free : Addr → Prop} {Ts : List Cond} {own : String} {As rest : List Value} {g : JFrame}
    (S : CallFix p m c cc nL s args Ts own) (hM : Met l y ws rm Pc Qc mc ms free) (cw : vx_CSW R s args own index y bytes maxL ret hh ws rm mc ms n) (hp : PreS s H Pc As)
    (hg : g.method = m) (hn : As.length = n) (hsize : g.locals.size = nL) (hstack : g.stack = As.reverse ++ rest) (hW : 2 * g.monitorRoom + (rest.map fun v => v.category).sum ≤ 8) (hdg : decode cc g.pc = .ok (.invokestatic index, 3)) (hf : cells + mc ≤ R.cells ∧ slots + ms ≤ R.slots) :
    va_Run p l e R s m args below meth c H locs cells slots mc ms g rest (Qc As.toArray) (free) := by
  obtain ⟨⟨hrc, hrs, hfr, hlo, hws, hcw⟩, hcode, hini, hy, hlen, hl, hstt⟩ := cw
  have hK : Back l R p e below s args y 3 8 (PreOf R mc ms Pc) (PostOf Qc mc ms free) := va_backW (hh := hh) (bytes := bytes) (maxL := maxL) (ret := ret) hM hp.1 hrc hrs hfr hlo hws hcw (fun a' U hW => word_at hW (Or.inl (by first | rfl | simp [Cond.onTables, Cond.keeps, Cond.steady])) hini)
  obtain ⟨hx, hb, hml, ho, -⟩ := S
  intro T hT X
  obtain ⟨v, vm₁, ⟨U', l2, c2, s2⟩, hW₁, X', ⟨g', mk, t, L, e1, e2, hq, h1, hL, h2, h3⟩, st⟩ := vx_callSW X hx (hh := hh) (bytes := bytes) (maxL := maxL) (ret := ret) ho hl hstt hini hcode hy hK hg (hsize.trans hml.symm) (argsL := As) (rest := rest) (fun sig h => hn.trans (hlen sig h)) hstack hW (by rw [hb]; exact hdg)
    (fun vm₁ hW₁ => ⟨hf.1, hf.2, hp.2 (T.setVm vm₁) hT hW₁⟩)
  dsimp only [Pt.U, Pt.locs, Pt.cells, Pt.slots] at X' e1 e2 h1 h2 h3 st
  subst h1; subst h2; subst h3
  exact ⟨v, (T.setVm vm₁).calling g' mk As.toArray, t, U', L, hT, X', hL, e1, e2, hq, st⟩
/-- not caught here, past rows that name other classes: it goes on to the caller -/
theorem vx_outP {p : Program} {l : Launch} {e : Env} {R : Room} {s : State} {m : MethodId} {args : Array Value} {below : List Frame} {meth : Method} {c : Code} {H : Heap} {locs : List Loc} {cells slots : Nat} {free : Addr → Prop} {ls : Array Slot} {rest : List Value} {Qc : Array Value → State → Outcome → State → Prop} {XC : String → State → State → Prop}
    {pc : Nat} {own E : String} {ce : Cell} {q : Addr} {mc ms : Nat} (hown : s.vm.findClass own = some m.cls) (hlocks : meth.locks = false)
    (hpass : ∀ z ∈ c.exceptionTable.toList, covers z pc = false ∨ (z.catchType ≠ 0 ∧ ∃ nm : String, (Cond.classLink own z.catchType nm).before args s = true ∧ va_Nc E nm s)) (hcell : H[q]? = some ce) (hv : ce.vm = .none) (hcl : s.vm.findClass E = some ce.cls)
    (hx : ∀ t : State, t.heap = H → s.vm.Alike t.vm → XC E s t) (hf : ∀ z ∈ locs, free z.base) (hc : cells ≤ mc) (hs : slots ≤ ms) :
    vx_W p l e R s m args below meth c H locs cells slots (vx_MQ below Qc XC args s mc ms free) (F0 m pc ls rest) q := by
  intro T hT X
  have hpl : e.platform.magicAccessors = ({} : Platform).magicAccessors := by rw [X.admits.platform]
  obtain ⟨vm', hW', X', st⟩ := X.outThrough hlocks q (g := F0 m pc ls rest) rfl rfl rfl (cell := ce) (by rw [hT]; exact hcell) (by rw [hv]; rfl)
    (by obtain ⟨k9, h9, -⟩ := Vm.findClass_spec hcl; exact ⟨k9, h9⟩) (fun z hz => by
      rcases hpass z hz with h | ⟨hz0, nm, hl1, hn1⟩
      · exact Or.inl h
      · obtain ⟨c6, hc6, hcl6⟩ := Cond.classLink_spec hown hl1 e.platform hpl
        obtain ⟨a8, b8, h1, h2, h3⟩ := hn1
        cases Option.some.inj (h1.symm.trans hcl)
        cases Option.some.inj (h2.symm.trans hc6)
        exact Or.inr ⟨hz0, _, hcl6, h3⟩)
  obtain ⟨g₀, hfr⟩ := X'.frames_eq
  have hcell9 : ((T.setVm vm').setFrames (.throwing q :: below)).heap[q]? = some ce := by
    show T.heap[q]? = some ce
    rw [hT]; exact hcell
  have hend : Ended ((T.setVm vm').setFrames (.throwing q :: below)) below (.threw q) := State.frames_setFrames _ (State.cur_lt_of_frames hfr)
  refine ⟨(T.setVm vm').setFrames (.throwing q :: below), ?_, .threw q, X'.here.running, hend, Or.inr ⟨q, rfl, E, ce, locs, hx _ hT (X'.ends _).1.alike, hcell9, hv, hcl, (X'.ends _).1, (X'.ends _).2.mono hc hs, hf⟩⟩
  rw [X.pushThrowing_eq]
  exact st
/-- a thing of a world lies in the heap -/
theorem vx_lt {D : va_G} {cl : List vw_C} {ws : va_W} {H1 : Heap} (h : va_P D cl ws H1) {k : Nat} {q : Nat × va_E} (hk : ws[k]? = some q) : q.1 < H1.size := (h k q hk).lt
end VXS
/-! ===== END ===== -/
/-! ===== BEGIN methods with a table of their own: called by a name, returning or throwing ===== -/
section VXH
/-! vx_backW, vx_callVX, vx_callSX, vx_callVW, vx_runVW, vx_runVX, vx_runSX, vx_ofWH follow the same proofs as their sisters above (Free/Laws.lean, Shelf42/LK1.lean); vx_outP calls Shelf42/NT130.lean (outThrough). -/
section
variable {l : Launch} {R : Room} {p : Program} {e : Env} {below : List Frame} {s : State} {sargs : Array Value} {y : MethodName} {len W9 : Nat}
theorem vx_backW {ws : List Cond} {rm : Room} {Pc : Array Value → State → Prop} {Qc : Array Value → State → Outcome → State → Prop} {XC : String → State → State → Prop} {mc ms : Nat} {free : Addr → Prop} {bytes : ByteArray} {maxL : Nat} {ret : Option FieldType} {hh : List (Nat × Nat × Nat × Nat)}
    (hM : vx_Met l y ws rm Pc Qc XC mc ms free) (hblind : FrameBlind Pc) (hrc : rm.cells = mc) (hrs : rm.slots = ms)
    (hframes : rm.frames + 1 ≤ R.frames) (hlocals : W9 + (maxL + 11) + rm.locals ≤ R.locals)
    (hws : ∀ w ∈ ws, ∀ a' U, s.WarmedH U.vm → w.before a' U = true) (hcode : Cond.codeWith y bytes maxL ret hh ∈ ws) (hinit : ∀ a' U, s.WarmedH U.vm → (Cond.initialized y.cls).before a' U = true) :
    vx_Back l R p e below s sargs y len W9 (PreOf R mc ms Pc) (PostOf Qc mc ms free) (vx_Post XC mc ms free) := by
  intro m meth c A g ig mk a X hg hsize hdg hW hn hp
  have h1 : (headSpec ws rm).pre.before a A.U = true := atoms_intro fun w hw => hws w hw _ _ X.warmed
  have h2 : (Cond.codeWith y bytes maxL ret hh).before a A.U = true := hws _ hcode _ _ X.warmed
  have h3 : (Cond.initialized y.cls).before a A.U = true := hinit _ _ X.warmed
  have h4 : A.cells + (headSpec ws rm).room.cells ≤ R.cells := by rw [show (headSpec ws rm).room.cells = mc from hrc]; exact hp.1
  have h5 : A.slots + (headSpec ws rm).room.slots ≤ R.slots := by rw [show (headSpec ws rm).room.slots = ms from hrs]; exact hp.2.1
  have hPc : Pc a (A.U.calling g mk a) := hblind _ _ _ _ hp.2.2
  obtain ⟨U, Ls, c0, s0⟩ := A
  dsimp only [Pt.U, Pt.locs, Pt.cells, Pt.slots] at h1 h2 h3 h4 h5 X hn hPc ⊢
  obtain ⟨m9, methY, cY, hn9, hmY, hcY, -, hlY, -⟩ := Cond.codeWith_spec h2
  cases Option.some.inj (hn9.symm.trans hn)
  obtain ⟨kY, hkY, -⟩ := className_of_methodNamed hn
  have hinitY : kY.init = .initialized := Cond.initialized_spec (findClass_of_methodNamed hn) hkY h3
  have h : At U g.method c below := by rw [hg]; exact X.here
  have hlocals9 : W9 + (maxL + 11) + (headSpec ws rm).room.locals ≤ R.locals := hlocals
  have happ : (headSpec ws rm).appliesLoose y e.platform (U.calling g mk a) = true :=
    Spec.appliesLoose_calling (g := g) h hdg hn hkY hinitY
      (X.room_calling (g := g) (R' := (headSpec ws rm).room) hsize hmY hcY hframes (by rw [hlY]; omega) h4 h5) h1
  obtain ⟨mid, hmid⟩ := h.above
  have hfr : (U.setTop g).frames = (.java g :: mid) ++ below := by rw [State.frames_setTop' g h.top, hmid]; rfl
  obtain ⟨o, s₂, hsteps, -, hend, hq⟩ := Steps.callFree hM p X.admits X.cas X.clock (acts := []) hfr happ hPc trivial
  have hq' : vx_Q Qc XC mc ms free a (U.calling g mk a) o s₂ := hq
  rw [State.frames_setTop' g h.top] at hend
  obtain ⟨g₀, hg0⟩ := Option.isSome_iff_exists.mp h.top
  obtain ⟨r, hr⟩ := State.topJava?_eq_some.mp hg0
  have hr' : (({ U with heap := s₂.heap, slotsUsed := s₂.slotsUsed } : State).setVm s₂.vm).frames = .java g₀ :: r := hr
  rcases hq' with ⟨hqc, L, hfe, hL⟩ | ⟨q, rfl, E, ce, L, hx, hce, hcv, hcl, hW₂, hsm, hL⟩
  · obtain ⟨⟨v, rfl⟩, hW₂, e2, q2, q3, q4, q5, q6⟩ := id hfe
    have e3 : s₂ = ({ (U.calling g mk a).setFrames s₂.frames with heap := s₂.heap, slotsUsed := s₂.slotsUsed } : State).setVm s₂.vm := by
      have : s₂ = ({ s₂ with vm := (U.calling g mk a).vm } : State).setVm s₂.vm := rfl
      rw [e2] at this
      exact this
    obtain ⟨c₂, i₂, len₂, hc₂, hd₂, hf₂⟩ := hend
    have hW' : U.WarmedH s₂.vm := hW₂
    have hcc : c₂ = c := by
      have h1 : s₂.code? g.method = U.code? g.method := by
        rw [State.code?_eq, State.code?_eq, hW'.alike.method?]
      exact Option.some.inj (hc₂.symm.trans (h1.trans h.code))
    subst hcc
    have hlen : len₂ = len := by rw [hdg] at hd₂; cases hd₂; rfl
    subst hlen
    have hs₂ : s₂ = (({ U with heap := s₂.heap, slotsUsed := s₂.slotsUsed } : State).setVm s₂.vm).setTop { g with pc := g.pc + len₂, stack := v.toList ++ g.stack } := by
      refine e3.trans ?_
      rw [hf₂, State.calling_eq h.top, State.setFrames_setFrames, State.setTop_of_frames _ hr', hr]
      rfl
    have hsame : U.sameButNew ({ U with heap := s₂.heap, slotsUsed := s₂.slotsUsed } : State) L mc ms := by
      refine ⟨?_, q2, q3, q4, q5, q6⟩
      obtain ⟨t, ht, -⟩ := State.frames_cons hr
      show ({ U with heap := s₂.heap, slotsUsed := s₂.slotsUsed } : State) = { U.setFrames U.frames with heap := s₂.heap, slotsUsed := s₂.slotsUsed }
      rw [State.setFrames_self ht]
    subst hg
    refine Or.inl ⟨v, ⟨(({ U with heap := s₂.heap, slotsUsed := s₂.slotsUsed } : State).setVm s₂.vm), Ls ++ L, c0 + mc, s0 + ms⟩,
      ⟨X.admits, X.cas, X.clock, X.frames, X.room, X.hears, X.method, X.code, (X.here.setHeapUsed s₂.heap s₂.slotsUsed).setVm hW'.alike, X.tail, State.WarmedH.trans X.warmed hW', X.limits, X.bytes, X.same.trans (hsame.setVm s.vm)⟩,
      ⟨g, mk, s₂, L, rfl, rfl, hqc, rfl, hL, rfl, rfl⟩, ?_⟩
    show Steps p.tables e below _ ((({ U with heap := s₂.heap, slotsUsed := s₂.slotsUsed } : State).setVm s₂.vm).setTop { g with pc := g.pc + len₂, stack := v.toList ++ g.stack })
    rw [← hs₂]
    exact hsteps
  · obtain ⟨e2, q2, q3, q4, q5, q6⟩ := id hsm
    have e3 : s₂ = ({ (U.calling g mk a).setFrames s₂.frames with heap := s₂.heap, slotsUsed := s₂.slotsUsed } : State).setVm s₂.vm := by
      have : s₂ = ({ s₂ with vm := (U.calling g mk a).vm } : State).setVm s₂.vm := rfl
      rw [e2] at this
      exact this
    have hf₂ : s₂.frames = .throwing q :: .java g :: U.frames.tail := hend
    have hW' : U.WarmedH s₂.vm := hW₂
    have hs₂ : s₂ = ((({ U with heap := s₂.heap, slotsUsed := s₂.slotsUsed } : State).setVm s₂.vm).setTop g).pushFrame (.throwing q) := by
      refine e3.trans ?_
      rw [hf₂, State.calling_eq h.top, State.setFrames_setFrames, State.pushFrame, State.frames_setTop _ hr', State.setTop_of_frames _ hr', State.setFrames_setFrames, hr]
      rfl
    have hsame : U.sameButNew ({ U with heap := s₂.heap, slotsUsed := s₂.slotsUsed } : State) L mc ms := by
      refine ⟨?_, q2, q3, q4, q5, q6⟩
      obtain ⟨t, ht, -⟩ := State.frames_cons hr
      show ({ U with heap := s₂.heap, slotsUsed := s₂.slotsUsed } : State) = { U.setFrames U.frames with heap := s₂.heap, slotsUsed := s₂.slotsUsed }
      rw [State.setFrames_self ht]
    subst hg
    refine Or.inr ⟨q, ⟨(({ U with heap := s₂.heap, slotsUsed := s₂.slotsUsed } : State).setVm s₂.vm), Ls ++ L, c0 + mc, s0 + ms⟩,
      ⟨X.admits, X.cas, X.clock, X.frames, X.room, X.hears, X.method, X.code, (X.here.setHeapUsed s₂.heap s₂.slotsUsed).setVm hW'.alike, X.tail, State.WarmedH.trans X.warmed hW', X.limits, X.bytes, X.same.trans (hsame.setVm s.vm)⟩,
      ⟨g, mk, s₂, L, E, ce, rfl, rfl, hx, hce, hcv, hcl, rfl, hL, rfl, rfl⟩, ?_⟩
    show Steps p.tables e below _ (((({ U with heap := s₂.heap, slotsUsed := s₂.slotsUsed } : State).setVm s₂.vm).setTop g).pushFrame (.throwing q))
    rw [← hs₂]
    exact hsteps
end
variable {p : Program} {l : Launch} {e : Env} {R : Room} {s : State} {m : MethodId} {args : Array Value} {below : List Frame} {meth : Method} {c : Code} {T : State} {H : Heap} {locs : List Loc} {cells slots : Nat}
theorem vx_callVX (X : Stand p l e R s m args below meth c T locs cells slots) (hexec : p.tables.exec = Jvm.exec) {own C : String} {index : Nat} {y : MethodName} {bytes : ByteArray} {maxL : Nat} {ret : Option FieldType} {hh : List (Nat × Nat × Nat × Nat)}
    (hown : s.vm.findClass own = some m.cls) (hlink : (Cond.methodLink own index y).before args s = true) (hinst : (Cond.instanceMethod y).before args s = true) (hsel : (Cond.selects C y y).before args s = true)
    (hcode : (Cond.codeWith y bytes maxL ret hh).before args s = true) (hy : y.cls ≠ "java/lang/invoke/MethodHandle" ∧ y.cls ≠ "java/lang/invoke/VarHandle")
    {W9 : Nat} {Pre : Pt → Array Value → Prop} {Post : Pt → Array Value → Option Value → Pt → Prop} {PostX : Pt → Array Value → Addr → Pt → Prop} (hK : vx_Back l R p e below s args y 3 W9 Pre Post PostX)
    {b : Addr} {cellB : Cell} (hcell : T.heap[b]? = some cellB) (hobj : cellB.vm.isStatics = false) (hcls : s.vm.findClass C = some cellB.cls)
    {g : JFrame} (hg : g.method = m) (hsize : g.locals.size = c.maxLocals) {argsL rest : List Value} (hlen : ∀ sig, parseMethodDescriptor y.desc = some sig → argsL.length = sig.parameters.length)
    (hstack : g.stack = argsL.reverse ++ .ref b :: rest) (hW : 2 * g.monitorRoom + (rest.map fun v => v.category).sum ≤ W9) (hdg : decode c.code g.pc = .ok (.invokevirtual index, 3))
    (hpre : ∀ vm₁, s.WarmedH vm₁ → Pre ⟨T.setVm vm₁, locs, cells, slots⟩ (Value.ref b :: argsL).toArray) :
    (∃ (v : Option Value) (vm₁ : Vm) (B : Pt), s.WarmedH vm₁ ∧ Stand p l e R s m args below meth c B.U B.locs B.cells B.slots ∧ Post ⟨T.setVm vm₁, locs, cells, slots⟩ (Value.ref b :: argsL).toArray v B ∧
      ∀ target, Steps p.tables e below (B.U.setTop { g with pc := g.pc + 3, stack := v.toList ++ rest }) target → Steps p.tables e below (T.setTop g) target) ∨
    (∃ (q : Addr) (vm₁ : Vm) (B : Pt), s.WarmedH vm₁ ∧ Stand p l e R s m args below meth c B.U B.locs B.cells B.slots ∧ PostX ⟨T.setVm vm₁, locs, cells, slots⟩ (Value.ref b :: argsL).toArray q B ∧
      Steps p.tables e below (T.setTop g) ((B.U.setTop { g with stack := rest }).pushFrame (.throwing q))) := by
  obtain ⟨mk, methM, hnamed, hmethM, hstM, habM⟩ := Cond.instanceMethod_spec hinst
  obtain ⟨m8, methM', cM, hn8, hmethM', -, -, -, -, -, -, hsigM⟩ := Cond.codeWith_spec hcode
  cases Option.some.inj (hn8.symm.trans hnamed)
  cases hmethM.symm.trans hmethM'
  obtain ⟨c2, r2, m2, q1, q2, q3, q4, kP, hkP, hkPi⟩ := Cond.selects_spec hsel
  cases hcls.symm.trans q1
  cases (State.methodFound?_of_named hnamed hy).symm.trans q2
  cases hnamed.symm.trans q3
  have hselP : selectMethod e.platform s.vm cellB.cls mk = .method mk := by rw [Launch.admits_selectMethod X.admits]; exact q4
  obtain ⟨vm₁, X₁, hstep₁⟩ := X.invokevirtual hexec hown hlink hnamed hmethM hstM hkP hkPi hy (a := b) (cell := cellB) hcell
    (fun z h => by rw [h] at hobj; cases hobj) hselP hmethM habM hkP hkPi (g := g) hg (argsL := argsL) (rest := rest) (hlen _ hsigM) hstack hdg
  rcases hK m meth c ⟨T.setVm vm₁, locs, cells, slots⟩ { g with stack := rest } (.invokevirtual index) mk (Value.ref b :: argsL).toArray X₁ hg hsize hdg hW (X₁.named hnamed) (hpre vm₁ X₁.warmed) with ⟨v, B, X', hpost, hsteps⟩ | ⟨q, B, X', hpost, hsteps⟩
  · exact Or.inl ⟨v, vm₁, B, X₁.warmed, X', hpost, fun target h => hstep₁ _ fun acts => by rw [doInvoke_state]; exact hsteps.trans h⟩
  · exact Or.inr ⟨q, vm₁, B, X₁.warmed, X', hpost, hstep₁ _ fun acts => by rw [doInvoke_state]; exact hsteps⟩
theorem vx_callSX (X : Stand p l e R s m args below meth c T locs cells slots) (hexec : p.tables.exec = Jvm.exec) {own : String} {index : Nat} {y : MethodName} {bytes : ByteArray} {maxL : Nat} {ret : Option FieldType} {hh : List (Nat × Nat × Nat × Nat)}
    (hown : s.vm.findClass own = some m.cls) (hlink : (Cond.methodLink own index y).before args s = true) (hstat : (Cond.static y).before args s = true) (hinit : (Cond.initialized y.cls).before args s = true)
    (hcode : (Cond.codeWith y bytes maxL ret hh).before args s = true) (hy : y.cls ≠ "java/lang/invoke/MethodHandle" ∧ y.cls ≠ "java/lang/invoke/VarHandle")
    {W9 : Nat} {Pre : Pt → Array Value → Prop} {Post : Pt → Array Value → Option Value → Pt → Prop} {PostX : Pt → Array Value → Addr → Pt → Prop} (hK : vx_Back l R p e below s args y 3 W9 Pre Post PostX)
    {g : JFrame} (hg : g.method = m) (hsize : g.locals.size = c.maxLocals) {argsL rest : List Value} (hlen : ∀ sig, parseMethodDescriptor y.desc = some sig → argsL.length = sig.parameters.length)
    (hstack : g.stack = argsL.reverse ++ rest) (hW : 2 * g.monitorRoom + (rest.map fun v => v.category).sum ≤ W9) (hdg : decode c.code g.pc = .ok (.invokestatic index, 3))
    (hpre : ∀ vm₁, s.WarmedH vm₁ → Pre ⟨T.setVm vm₁, locs, cells, slots⟩ argsL.toArray) :
    (∃ (v : Option Value) (vm₁ : Vm) (B : Pt), s.WarmedH vm₁ ∧ Stand p l e R s m args below meth c B.U B.locs B.cells B.slots ∧ Post ⟨T.setVm vm₁, locs, cells, slots⟩ argsL.toArray v B ∧
      ∀ target, Steps p.tables e below (B.U.setTop { g with pc := g.pc + 3, stack := v.toList ++ rest }) target → Steps p.tables e below (T.setTop g) target) ∨
    (∃ (q : Addr) (vm₁ : Vm) (B : Pt), s.WarmedH vm₁ ∧ Stand p l e R s m args below meth c B.U B.locs B.cells B.slots ∧ PostX ⟨T.setVm vm₁, locs, cells, slots⟩ argsL.toArray q B ∧
      Steps p.tables e below (T.setTop g) ((B.U.setTop { g with stack := rest }).pushFrame (.throwing q))) := by
  obtain ⟨mk, methM, cM, hnamed, hmethM, -, -, -, -, -, -, hsigM⟩ := Cond.codeWith_spec hcode
  have hstatic : methM.isStatic = true := Cond.static_spec hnamed hmethM hstat
  obtain ⟨kP, hkP, -⟩ := className_of_methodNamed hnamed
  have hinitP : kP.init = .initialized := Cond.initialized_spec (findClass_of_methodNamed hnamed) hkP hinit
  obtain ⟨vm₁, X₁, hstep₁⟩ := X.invokestatic hexec hown hlink hnamed hmethM hstatic hkP hinitP hy (g := g) hg (argsL := argsL) (rest := rest) (hlen _ hsigM) hstack hdg
  rcases hK m meth c ⟨T.setVm vm₁, locs, cells, slots⟩ { g with stack := rest } (.invokestatic index) mk argsL.toArray X₁ hg hsize hdg hW (X₁.named hnamed) (hpre vm₁ X₁.warmed) with ⟨v, B, X', hpost, hsteps⟩ | ⟨q, B, X', hpost, hsteps⟩
  · exact Or.inl ⟨v, vm₁, B, X₁.warmed, X', hpost, fun target h => hstep₁ _ fun acts => by rw [doInvoke_state]; exact hsteps.trans h⟩
  · exact Or.inr ⟨q, vm₁, B, X₁.warmed, X', hpost, hstep₁ _ fun acts => by rw [doInvoke_state]; exact hsteps⟩
theorem vx_callVW (X : Stand p l e R s m args below meth c T locs cells slots) (hexec : p.tables.exec = Jvm.exec) {own C : String} {index : Nat} {y : MethodName} {bytes : ByteArray} {maxL : Nat} {ret : Option FieldType} {hh : List (Nat × Nat × Nat × Nat)}
    (hown : s.vm.findClass own = some m.cls) (hlink : (Cond.methodLink own index y).before args s = true) (hinst : (Cond.instanceMethod y).before args s = true) (hsel : (Cond.selects C y y).before args s = true)
    (hcode : (Cond.codeWith y bytes maxL ret hh).before args s = true) (hy : y.cls ≠ "java/lang/invoke/MethodHandle" ∧ y.cls ≠ "java/lang/invoke/VarHandle")
    {W9 : Nat} {Pre : Pt → Array Value → Prop} {Post : Pt → Array Value → Option Value → Pt → Prop} (hK : Back l R p e below s args y 3 W9 Pre Post)
    {b : Addr} {cellB : Cell} (hcell : T.heap[b]? = some cellB) (hobj : cellB.vm.isStatics = false) (hcls : s.vm.findClass C = some cellB.cls)
    {g : JFrame} (hg : g.method = m) (hsize : g.locals.size = c.maxLocals) {argsL rest : List Value} (hlen : ∀ sig, parseMethodDescriptor y.desc = some sig → argsL.length = sig.parameters.length)
    (hstack : g.stack = argsL.reverse ++ .ref b :: rest) (hW : 2 * g.monitorRoom + (rest.map fun v => v.category).sum ≤ W9) (hdg : decode c.code g.pc = .ok (.invokevirtual index, 3))
    (hpre : ∀ vm₁, s.WarmedH vm₁ → Pre ⟨T.setVm vm₁, locs, cells, slots⟩ (Value.ref b :: argsL).toArray) :
    ∃ (v : Option Value) (vm₁ : Vm) (B : Pt), s.WarmedH vm₁ ∧ Stand p l e R s m args below meth c B.U B.locs B.cells B.slots ∧ Post ⟨T.setVm vm₁, locs, cells, slots⟩ (Value.ref b :: argsL).toArray v B ∧
      ∀ target, Steps p.tables e below (B.U.setTop { g with pc := g.pc + 3, stack := v.toList ++ rest }) target → Steps p.tables e below (T.setTop g) target := by
  obtain ⟨mk, methM, hnamed, hmethM, hstM, habM⟩ := Cond.instanceMethod_spec hinst
  obtain ⟨m8, methM', cM, hn8, hmethM', -, -, -, -, -, -, hsigM⟩ := Cond.codeWith_spec hcode
  cases Option.some.inj (hn8.symm.trans hnamed)
  cases hmethM.symm.trans hmethM'
  obtain ⟨c2, r2, m2, q1, q2, q3, q4, kP, hkP, hkPi⟩ := Cond.selects_spec hsel
  cases hcls.symm.trans q1
  cases (State.methodFound?_of_named hnamed hy).symm.trans q2
  cases hnamed.symm.trans q3
  have hselP : selectMethod e.platform s.vm cellB.cls mk = .method mk := by rw [Launch.admits_selectMethod X.admits]; exact q4
  obtain ⟨vm₁, X₁, hstep₁⟩ := X.invokevirtual hexec hown hlink hnamed hmethM hstM hkP hkPi hy (a := b) (cell := cellB) hcell
    (fun z h => by rw [h] at hobj; cases hobj) hselP hmethM habM hkP hkPi (g := g) hg (argsL := argsL) (rest := rest) (hlen _ hsigM) hstack hdg
  obtain ⟨v, B, X', hpost, hsteps⟩ := hK m meth c ⟨T.setVm vm₁, locs, cells, slots⟩ { g with stack := rest } (.invokevirtual index) mk (Value.ref b :: argsL).toArray X₁ hg hsize hdg hW (X₁.named hnamed) (hpre vm₁ X₁.warmed)
  exact ⟨v, vm₁, B, X₁.warmed, X', hpost, fun target h => hstep₁ _ fun acts => by rw [doInvoke_state]; exact hsteps.trans h⟩
abbrev vx_CVW (R : Room) (s : State) (args : Array Value) (own C : String) (index : Nat) (y : MethodName) (bytes : ByteArray) (maxL : Nat) (ret : Option FieldType) (hh : List (Nat × Nat × Nat × Nat)) (ws : List Cond) (rm : Room) (mc ms n : Nat) : Prop :=
  (rm.cells = mc ∧ rm.slots = ms ∧ rm.frames + 1 ≤ R.frames ∧ 8 + (maxL + 11) + rm.locals ≤ R.locals ∧ (∀ w ∈ ws, ∀ (a' : Array Value) (U : State), s.WarmedH U.vm → w.before a' U = true) ∧ Cond.codeWith y bytes maxL ret hh ∈ ws) ∧
  (Cond.codeWith y bytes maxL ret hh).before args s = true ∧ (Cond.initialized y.cls).before args s = true ∧ (y.cls ≠ "java/lang/invoke/MethodHandle" ∧ y.cls ≠ "java/lang/invoke/VarHandle") ∧
  (∀ sig, parseMethodDescriptor y.desc = some sig → n = sig.parameters.length) ∧ (Cond.methodLink own index y).before args s = true ∧ (Cond.instanceMethod y).before args s = true ∧ (Cond.selects C y y).before args s = true
theorem vx_cwVW {own C : String} {index maxL mc ms : Nat} {y : MethodName} {bytes : ByteArray} {ret : Option FieldType} {hh : List (Nat × Nat × Nat × Nat)} {Ts ws ws' : List Cond} {rm : Room} (n : Nat) (ht : ∀ w ∈ Ts, w.before args s = true) (hT : GoodIn Ts (wsV own index C y ws)) (hw : ws = Cond.codeWith y bytes maxL ret hh :: ws') (hrc : rm.cells = mc) (hrs : rm.slots = ms)
    (hd : y.cls = C ∧ y.cls ≠ "java/lang/invoke/MethodHandle" ∧ y.cls ≠ "java/lang/invoke/VarHandle" ∧ (parseMethodDescriptor y.desc).map (fun d => d.parameters.length) = some n) (hR : rm.frames + 1 ≤ R.frames ∧ 8 + (maxL + 11) + rm.locals ≤ R.locals) :
    vx_CVW R s args own C index y bytes maxL ret hh ws rm mc ms n := by
  obtain ⟨hC, hd⟩ := hd
  subst hC
  have ok : ∀ w ∈ wsV own index y.cls y ws, w.before args s = true := fun w h => ht w (hT w h).1
  have hG : GoodIn Ts ws := fun w h => hT w (by unfold wsV; exact List.mem_append_right _ h)
  have hc : Cond.codeWith y bytes maxL ret hh ∈ ws := by rw [hw]; exact List.mem_cons_self
  refine ⟨⟨hrc, hrs, hR.1, hR.2, pay_in ht hG, hc⟩, ht _ (hG _ hc).1, ok _ (by simp [wsV]), ⟨hd.1, hd.2.1⟩, fun sig h => ?_, ok _ (by simp [wsV]), ok _ (by simp [wsV]), ok _ (by simp [wsV])⟩
  have h2 := hd.2.2
  rw [h] at h2
  exact (Option.some.inj h2).symm
theorem vx_runVW {y : MethodName} {bytes cc : ByteArray} {maxL nL mc ms n index : Nat} {ret : Option FieldType} {hh : List (Nat × Nat × Nat × Nat)} {ws : List Cond} {rm : Room} {Pc : Array Value → State → Prop} {Qc : Array Value → State → Outcome → State → Prop} {free : Addr → Prop} {Ts : List Cond} {own C : String} {b : Addr} {As rest : List Value} {g : JFrame}
    (S : CallFix p m c cc nL s args Ts own) (hM : Met l y ws rm Pc Qc mc ms free) (cw : vx_CVW R s args own C index y bytes maxL ret hh ws rm mc ms n) (hp : PreV s H C b Pc As)
    (hg : g.method = m) (hn : As.length = n) (hsize : g.locals.size = nL) (hstack : g.stack = As.reverse ++ .ref b :: rest) (hW : 2 * g.monitorRoom + (rest.map fun v => v.category).sum ≤ 8) (hdg : decode cc g.pc = .ok (.invokevirtual index, 3)) (hf : cells + mc ≤ R.cells ∧ slots + ms ≤ R.slots) :
    va_Run p l e R s m args below meth c H locs cells slots mc ms g rest (Qc (Value.ref b :: As).toArray) free := by
  obtain ⟨⟨hrc, hrs, hfr, hlo, hws, hcw⟩, hcode, hini, hy, hlen, hl, hin, hse⟩ := cw
  have hK : Back l R p e below s args y 3 8 (PreOf R mc ms Pc) (PostOf Qc mc ms free) := va_backW (hh := hh) (bytes := bytes) (maxL := maxL) (ret := ret) hM hp.1 hrc hrs hfr hlo hws hcw (fun a' U hW => word_at hW (Or.inl (by first | rfl | simp [Cond.onTables, Cond.keeps, Cond.steady])) hini)
  obtain ⟨hx, hb, hml, ho, -⟩ := S
  obtain ⟨-, ⟨cellB, hcB, hoB, hclB⟩, hPc⟩ := hp
  intro T hT X
  obtain ⟨v, vm₁, ⟨U', l2, c2, s2⟩, hW₁, X', ⟨g', mk, t, L, e1, e2, hq, h1, hL, h2, h3⟩, st⟩ := vx_callVW X hx (C := C) (hh := hh) (bytes := bytes) (maxL := maxL) (ret := ret) ho hl hin hse hcode hy hK (by rw [hT]; exact hcB) hoB hclB hg (hsize.trans hml.symm) (argsL := As) (rest := rest) (fun sig h => hn.trans (hlen sig h)) hstack hW (by rw [hb]; exact hdg)
    (fun vm₁ hW₁ => ⟨hf.1, hf.2, hPc (T.setVm vm₁) hT hW₁⟩)
  dsimp only [Pt.U, Pt.locs, Pt.cells, Pt.slots] at X' e1 e2 h1 h2 h3 st
  subst h1; subst h2; subst h3
  exact ⟨v, (T.setVm vm₁).calling g' mk (Value.ref b :: As).toArray, t, U', L, hT, X', hL, e1, e2, hq, st⟩
section
variable {y : MethodName} {bytes cc : ByteArray} {maxL nL mc ms n index : Nat} {ret : Option FieldType} {ws : List Cond} {rm : Room} {Pc : Array Value → State → Prop} {Qc : Array Value → State → Outcome → State → Prop} {XC : String → State → State → Prop} {free : Addr → Prop} {Ts : List Cond} {own C : String} {b : Addr} {As rest : List Value} {g : JFrame}
theorem vx_runVX {hh : List (Nat × Nat × Nat × Nat)} (S : CallFix p m c cc nL s args Ts own) (hM : vx_Met l y ws rm Pc Qc XC mc ms free) (cw : vx_CVW R s args own C index y bytes maxL ret hh ws rm mc ms n) (hp : PreV s H C b Pc As)
    (hg : g.method = m) (hn : As.length = n) (hsize : g.locals.size = nL) (hstack : g.stack = As.reverse ++ .ref b :: rest) (hW : 2 * g.monitorRoom + (rest.map fun v => v.category).sum ≤ 8) (hdg : decode cc g.pc = .ok (.invokevirtual index, 3)) (hf : cells + mc ≤ R.cells ∧ slots + ms ≤ R.slots) :
    vx_Run p l e R s m args below meth c H locs cells slots mc ms g rest (Qc (Value.ref b :: As).toArray) XC free := by
  obtain ⟨⟨hrc, hrs, hfr, hlo, hws, hcw⟩, hcode, hini, hy, hlen, hl, hin, hse⟩ := cw
  have hK : vx_Back l R p e below s args y 3 8 (PreOf R mc ms Pc) (PostOf Qc mc ms free) (vx_Post XC mc ms free) := vx_backW (hh := hh) (bytes := bytes) (maxL := maxL) (ret := ret) hM hp.1 hrc hrs hfr hlo hws hcw (fun a' U hW => word_at hW (Or.inl (by first | rfl | simp [Cond.onTables, Cond.keeps, Cond.steady])) hini)
  obtain ⟨hx, hb, hml, ho, -⟩ := S
  obtain ⟨-, ⟨cellB, hcB, hoB, hclB⟩, hPc⟩ := hp
  intro T hT X
  rcases vx_callVX X hx (C := C) (hh := hh) (bytes := bytes) (maxL := maxL) (ret := ret) ho hl hin hse hcode hy hK (by rw [hT]; exact hcB) hoB hclB hg (hsize.trans hml.symm) (argsL := As) (rest := rest) (fun sig h => hn.trans (hlen sig h)) hstack hW (by rw [hb]; exact hdg)
    (fun vm₁ hW₁ => ⟨hf.1, hf.2, hPc (T.setVm vm₁) hT hW₁⟩) with ⟨v, vm₁, ⟨U', l2, c2, s2⟩, hW₁, X', ⟨g', mk, t, L, e1, e2, hq, h1, hL, h2, h3⟩, st⟩ | ⟨q, vm₁, ⟨U', l2, c2, s2⟩, hW₁, X', ⟨g', mk, t, L, E, ce, e1, e2, hq, hce, hcv, hcl, h1, hL, h2, h3⟩, st⟩
  · dsimp only [Pt.U, Pt.locs, Pt.cells, Pt.slots] at X' e1 e2 h1 h2 h3 st
    subst h1; subst h2; subst h3
    exact Or.inl ⟨v, (T.setVm vm₁).calling g' mk (Value.ref b :: As).toArray, t, U', L, hT, X', hL, e1, e2, hq, st⟩
  · dsimp only [Pt.U, Pt.locs, Pt.cells, Pt.slots] at X' e1 e2 h1 h2 h3 st hcl
    subst h1; subst h2; subst h3
    exact Or.inr ⟨q, (T.setVm vm₁).calling g' mk (Value.ref b :: As).toArray, t, U', L, E, ce, hT, X', hL, e1, e2, hq, hce, hcv, vx_cls hW₁ hcl, st⟩
theorem vx_runSX {hh : List (Nat × Nat × Nat × Nat)} (S : CallFix p m c cc nL s args Ts own) (hM : vx_Met l y ws rm Pc Qc XC mc ms free) (cw : vx_CSW R s args own index y bytes maxL ret hh ws rm mc ms n) (hp : PreS s H Pc As)
    (hg : g.method = m) (hn : As.length = n) (hsize : g.locals.size = nL) (hstack : g.stack = As.reverse ++ rest) (hW : 2 * g.monitorRoom + (rest.map fun v => v.category).sum ≤ 8) (hdg : decode cc g.pc = .ok (.invokestatic index, 3)) (hf : cells + mc ≤ R.cells ∧ slots + ms ≤ R.slots) :
    vx_Run p l e R s m args below meth c H locs cells slots mc ms g rest (Qc As.toArray) XC free := by
  obtain ⟨⟨hrc, hrs, hfr, hlo, hws, hcw⟩, hcode, hini, hy, hlen, hl, hstt⟩ := cw
  have hK : vx_Back l R p e below s args y 3 8 (PreOf R mc ms Pc) (PostOf Qc mc ms free) (vx_Post XC mc ms free) := vx_backW (hh := hh) (bytes := bytes) (maxL := maxL) (ret := ret) hM hp.1 hrc hrs hfr hlo hws hcw (fun a' U hW => word_at hW (Or.inl (by first | rfl | simp [Cond.onTables, Cond.keeps, Cond.steady])) hini)
  obtain ⟨hx, hb, hml, ho, -⟩ := S
  intro T hT X
  rcases vx_callSX X hx (hh := hh) (bytes := bytes) (maxL := maxL) (ret := ret) ho hl hstt hini hcode hy hK hg (hsize.trans hml.symm) (argsL := As) (rest := rest) (fun sig h => hn.trans (hlen sig h)) hstack hW (by rw [hb]; exact hdg)
    (fun vm₁ hW₁ => ⟨hf.1, hf.2, hp.2 (T.setVm vm₁) hT hW₁⟩) with ⟨v, vm₁, ⟨U', l2, c2, s2⟩, hW₁, X', ⟨g', mk, t, L, e1, e2, hq, h1, hL, h2, h3⟩, st⟩ | ⟨q, vm₁, ⟨U', l2, c2, s2⟩, hW₁, X', ⟨g', mk, t, L, E, ce, e1, e2, hq, hce, hcv, hcl, h1, hL, h2, h3⟩, st⟩
  · dsimp only [Pt.U, Pt.locs, Pt.cells, Pt.slots] at X' e1 e2 h1 h2 h3 st
    subst h1; subst h2; subst h3
    exact Or.inl ⟨v, (T.setVm vm₁).calling g' mk As.toArray, t, U', L, hT, X', hL, e1, e2, hq, st⟩
  · dsimp only [Pt.U, Pt.locs, Pt.cells, Pt.slots] at X' e1 e2 h1 h2 h3 st hcl
    subst h1; subst h2; subst h3
    exact Or.inr ⟨q, (T.setVm vm₁).calling g' mk As.toArray, t, U', L, E, ce, hT, X', hL, e1, e2, hq, hce, hcv, vx_cls hW₁ hcl, st⟩
end
end VXH
theorem vx_ofWH {l : Launch} {y : MethodName} {ws ws' : List Cond} {rm : Room} {Pc : Array Value → State → Prop} {Qc : Array Value → State → Outcome → State → Prop} {XC : String → State → State → Prop} {mc ms : Nat} {free : Addr → Prop} {cc : ByteArray} {maxL : Nat} {ret : Option FieldType} {hh : List (Nat × Nat × Nat × Nat)}
    (hy : plainName y.cls = true) (hw : ws = Cond.codeWith y cc maxL ret hh :: ws')
    (body : ∀ p e s m args below meth c s₁, BodyLoose p l y (headSpec ws rm) cc maxL ret e s m args below meth c s₁ → c.maxLocals = maxL → Pc args s →
      W p l e (headSpec ws rm).room s m args below meth c s.heap [] 0 0 (vx_MQ below Qc XC args s mc ms free) (entryFrame m args maxL)) : vx_Met l y ws rm Pc Qc XC mc ms free := by
  refine MetFree.of_bodyS (code := cc) (maxLocals := maxL) (ret := ret) hy ?_ ?_
  · intro args s m h hn
    obtain ⟨m9, meth, c, hn9, h1, h2, h3, h4, -, h5, h6, -⟩ := Cond.codeWith_spec (atoms_spec (ws := ws) h _ (by rw [hw]; exact List.mem_cons_self))
    cases hn.symm.trans hn9
    exact ⟨meth, c, h1, h2, h3, h4, h5, h6⟩
  · intro p e s m args below meth c s₁ B hml hP _
    have hh0 : s₁.heap = s.heap := by rw [B.state]; rfl
    obtain ⟨t, a1, o, b1, b2, b3⟩ := body p e s m args below meth c s₁ B hml hP s₁ hh0 (Stand.of_body B)
    exact ⟨t, o, a1, b1, b2, b3⟩
/-! ===== END ===== -/
end
section
/-! ===== BEGIN printed: names, fields, word lists, decode rows ===== -/
def RX0 : String := "PrivateCounts$Fraction"
def TX0 : u_T := fun k => match k with
  | 0 => ("PrivateCounts$Fraction", "numerator", "LPrivateCounts$Natural;", true)
  | _ => ("PrivateCounts$Fraction", "denominator", "LPrivateCounts$Natural;", true)
def tyX0 : Nat → FieldType := fun k => match k with
  | 0 => .object "PrivateCounts$Natural"
  | _ => .object "PrivateCounts$Natural"
abbrev wsX00 : List Cond := u_ws RX0 TX0 2
theorem nmX0 : ∀ a, a < 2 → ∀ b, b < 2 → a ≠ b → (TX0 a).2.1 ≠ (TX0 b).2.1 := by decide +kernel
theorem tyX0_ok : ∀ k, k < 2 → parseFieldDescriptor (TX0 k).2.2.1 = some (tyX0 k) := by decide +kernel
abbrev cX0_init : ByteArray := prog_2_method_1_code
def yX0_init : MethodName := ⟨RX0, "<init>", "()V"⟩
abbrev cX0_become : ByteArray := prog_2_method_2_code
def yX0_become : MethodName := ⟨RX0, "become", "(II)V"⟩
abbrev cX0_increase : ByteArray := prog_2_method_3_code
def yX0_increase : MethodName := ⟨RX0, "increase", "(II)V"⟩
abbrev cX0_decrease : ByteArray := prog_2_method_4_code
def yX0_decrease : MethodName := ⟨RX0, "decrease", "(II)V"⟩
abbrev cX0_isLessThan : ByteArray := prog_2_method_5_code
def yX0_isLessThan : MethodName := ⟨RX0, "isLessThan", "(II)Z"⟩
abbrev cX0_change : ByteArray := prog_2_method_6_code
def yX0_change : MethodName := ⟨RX0, "change", "(III)V"⟩
abbrev cX0_quotient : ByteArray := prog_2_method_7_code
def yX0_quotient : MethodName := ⟨RX0, "quotient", "(II)I"⟩
abbrev cX0_commonDivisor : ByteArray := prog_2_method_8_code
def yX0_commonDivisor : MethodName := ⟨RX0, "commonDivisor", "(II)I"⟩
def RX1 : String := "PrivateCounts$Natural"
def TX1 : u_T := fun k => match k with
  | 0 => ("PrivateCounts$Natural", "limbs", "[I", true)
  | _ => ("PrivateCounts$Natural", "size", "I", false)
def tyX1 : Nat → FieldType := fun k => match k with
  | 0 => .array .int
  | _ => .int
abbrev wsX10 : List Cond := u_ws RX1 TX1 2
theorem nmX1 : ∀ a, a < 2 → ∀ b, b < 2 → a ≠ b → (TX1 a).2.1 ≠ (TX1 b).2.1 := by decide +kernel
theorem tyX1_ok : ∀ k, k < 2 → parseFieldDescriptor (TX1 k).2.2.1 = some (tyX1 k) := by decide +kernel
abbrev cX1_init : ByteArray := prog_3_method_1_code
def yX1_init : MethodName := ⟨RX1, "<init>", "()V"⟩
abbrev cX1_become : ByteArray := prog_3_method_2_code
def yX1_become : MethodName := ⟨RX1, "become", "(I)V"⟩
abbrev cX1_limbAt : ByteArray := prog_3_method_3_code
def yX1_limbAt : MethodName := ⟨RX1, "limbAt", "(I)I"⟩
abbrev cX1_times : ByteArray := prog_3_method_4_code
def yX1_times : MethodName := ⟨RX1, "times", "(I)V"⟩
abbrev cX1_plusTimes : ByteArray := prog_3_method_5_code
def yX1_plusTimes : MethodName := ⟨RX1, "plusTimes", "(LPrivateCounts$Natural;I)V"⟩
abbrev cX1_divideBy : ByteArray := prog_3_method_6_code
def yX1_divideBy : MethodName := ⟨RX1, "divideBy", "(I)V"⟩
abbrev cX1_restBy : ByteArray := prog_3_method_7_code
def yX1_restBy : MethodName := ⟨RX1, "restBy", "(I)I"⟩
abbrev cX1_isLess : ByteArray := prog_3_method_8_code
def yX1_isLess : MethodName := ⟨RX1, "isLess", "(LPrivateCounts$Natural;ILPrivateCounts$Natural;I)Z"⟩
abbrev cX1_append : ByteArray := prog_3_method_9_code
def yX1_append : MethodName := ⟨RX1, "append", "(J)V"⟩
abbrev cX1_trim : ByteArray := prog_3_method_10_code
def yX1_trim : MethodName := ⟨RX1, "trim", "()V"⟩
def RX2 : String := "PrivateCounts$Series"
def TX2 : u_T := fun k => match k with
  | 0 => ("PrivateCounts$Series", "missing", "LPrivateCounts$Natural;", true)
  | _ => ("PrivateCounts$Series", "term", "LPrivateCounts$Natural;", true)
def tyX2 : Nat → FieldType := fun k => match k with
  | 0 => .object "PrivateCounts$Natural"
  | _ => .object "PrivateCounts$Natural"
abbrev wsX20 : List Cond := u_ws RX2 TX2 2
theorem nmX2 : ∀ a, a < 2 → ∀ b, b < 2 → a ≠ b → (TX2 a).2.1 ≠ (TX2 b).2.1 := by decide +kernel
theorem tyX2_ok : ∀ k, k < 2 → parseFieldDescriptor (TX2 k).2.2.1 = some (tyX2 k) := by decide +kernel
abbrev cX2_init : ByteArray := prog_4_method_1_code
def yX2_init : MethodName := ⟨RX2, "<init>", "()V"⟩
abbrev cX2_reaches : ByteArray := prog_4_method_2_code
def yX2_reaches : MethodName := ⟨RX2, "reaches", "(LPrivateCounts$Table;II)Z"⟩
def RX3 : String := "PrivateCounts$Table"
def TX3 : u_T := fun k => match k with
  | 0 => ("PrivateCounts$Table", "a", "I", false)
  | 1 => ("PrivateCounts$Table", "b", "I", false)
  | 2 => ("PrivateCounts$Table", "low", "I", false)
  | 3 => ("PrivateCounts$Table", "high", "I", false)
  | _ => ("PrivateCounts$Table", "total", "J", false)
def tyX3 : Nat → FieldType := fun k => match k with
  | 0 => .int
  | 1 => .int
  | 2 => .int
  | 3 => .int
  | _ => .long
abbrev wsX30 : List Cond := u_ws RX3 TX3 5
theorem nmX3 : ∀ a, a < 5 → ∀ b, b < 5 → a ≠ b → (TX3 a).2.1 ≠ (TX3 b).2.1 := by decide +kernel
theorem tyX3_ok : ∀ k, k < 5 → parseFieldDescriptor (TX3 k).2.2.1 = some (tyX3 k) := by decide +kernel
abbrev cX3_init : ByteArray := prog_5_method_1_code
def yX3_init : MethodName := ⟨RX3, "<init>", "()V"⟩
abbrev cX3_isAllowed : ByteArray := prog_5_method_2_code
def yX3_isAllowed : MethodName := ⟨RX3, "isAllowed", "(IIII)Z"⟩
abbrev cX3_become : ByteArray := prog_5_method_3_code
def yX3_become : MethodName := ⟨RX3, "become", "(IIII)V"⟩
abbrev cX3_holds : ByteArray := prog_5_method_4_code
def yX3_holds : MethodName := ⟨RX3, "holds", "(I)Z"⟩
abbrev cX3_hasCoin : ByteArray := prog_5_method_5_code
def yX3_hasCoin : MethodName := ⟨RX3, "hasCoin", "(J)Z"⟩
abbrev cX3_nearestTo : ByteArray := prog_5_method_6_code
def yX3_nearestTo : MethodName := ⟨RX3, "nearestTo", "(I)I"⟩
abbrev cX3_weightOf : ByteArray := prog_5_method_7_code
def yX3_weightOf : MethodName := ⟨RX3, "weightOf", "(II)J"⟩
abbrev cX3_sumTo : ByteArray := prog_5_method_8_code
def yX3_sumTo : MethodName := ⟨RX3, "sumTo", "(II)J"⟩
abbrev cX3_outcomeOf : ByteArray := prog_5_method_9_code
def yX3_outcomeOf : MethodName := ⟨RX3, "outcomeOf", "(IJ)I"⟩
abbrev cX3_isWithinRatio : ByteArray := prog_5_method_10_code
def yX3_isWithinRatio : MethodName := ⟨RX3, "isWithinRatio", "(II)Z"⟩
abbrev cX3_power : ByteArray := prog_5_method_11_code
def yX3_power : MethodName := ⟨RX3, "power", "(II)J"⟩
def RX4 : String := "PrivateCounts"
def TX4 : u_T := fun k => match k with
  | 0 => ("PrivateCounts", "rows", "[I", true)
  | 1 => ("PrivateCounts", "rowCount", "I", false)
  | 2 => ("PrivateCounts", "weights", "LPrivateCounts$Table;", true)
  | 3 => ("PrivateCounts", "series", "LPrivateCounts$Series;", true)
  | 4 => ("PrivateCounts", "granted", "LPrivateCounts$Fraction;", true)
  | 5 => ("PrivateCounts", "spent", "LPrivateCounts$Fraction;", true)
  | 6 => ("PrivateCounts", "left", "LPrivateCounts$Fraction;", true)
  | 7 => ("PrivateCounts", "answered", "I", false)
  | 8 => ("PrivateCounts", "refusedForCost", "I", false)
  | _ => ("PrivateCounts", "refusedForBudget", "I", false)
def tyX4 : Nat → FieldType := fun k => match k with
  | 0 => .array .int
  | 1 => .int
  | 2 => .object "PrivateCounts$Table"
  | 3 => .object "PrivateCounts$Series"
  | 4 => .object "PrivateCounts$Fraction"
  | 5 => .object "PrivateCounts$Fraction"
  | 6 => .object "PrivateCounts$Fraction"
  | 7 => .int
  | 8 => .int
  | _ => .int
abbrev wsX40 : List Cond := u_ws RX4 TX4 10
theorem nmX4 : ∀ a, a < 10 → ∀ b, b < 10 → a ≠ b → (TX4 a).2.1 ≠ (TX4 b).2.1 := by decide +kernel
theorem tyX4_ok : ∀ k, k < 10 → parseFieldDescriptor (TX4 k).2.2.1 = some (tyX4 k) := by decide +kernel
abbrev cX4_init : ByteArray := prog_1_method_1_code
def yX4_init : MethodName := ⟨RX4, "<init>", "()V"⟩
abbrev cX4_add : ByteArray := prog_1_method_2_code
def yX4_add : MethodName := ⟨RX4, "add", "(I)I"⟩
abbrev cX4_remove : ByteArray := prog_1_method_3_code
def yX4_remove : MethodName := ⟨RX4, "remove", "(I)I"⟩
abbrev cX4_count : ByteArray := prog_1_method_4_code
def yX4_count : MethodName := ⟨RX4, "count", "(II)I"⟩
abbrev cX4_table : ByteArray := prog_1_method_5_code
def yX4_table : MethodName := ⟨RX4, "table", "(IIII)J"⟩
abbrev cX4_all : ByteArray := prog_1_method_6_code
def yX4_all : MethodName := ⟨RX4, "all", "()J"⟩
abbrev cX4_weight : ByteArray := prog_1_method_7_code
def yX4_weight : MethodName := ⟨RX4, "weight", "(II)J"⟩
abbrev cX4_upTo : ByteArray := prog_1_method_8_code
def yX4_upTo : MethodName := ⟨RX4, "upTo", "(II)J"⟩
abbrev cX4_draw : ByteArray := prog_1_method_9_code
def yX4_draw : MethodName := ⟨RX4, "draw", "(IJ)I"⟩
abbrev cX4_isNear : ByteArray := prog_1_method_10_code
def yX4_isNear : MethodName := ⟨RX4, "isNear", "(II)Z"⟩
abbrev cX4_budget : ByteArray := prog_1_method_11_code
def yX4_budget : MethodName := ⟨RX4, "budget", "(II)V"⟩
abbrev cX4_raise : ByteArray := prog_1_method_12_code
def yX4_raise : MethodName := ⟨RX4, "raise", "(II)V"⟩
abbrev cX4_isEnough : ByteArray := prog_1_method_13_code
def yX4_isEnough : MethodName := ⟨RX4, "isEnough", "(II)Z"⟩
abbrev cX4_least : ByteArray := prog_1_method_14_code
def yX4_least : MethodName := ⟨RX4, "least", "(I)I"⟩
abbrev cX4_ask : ByteArray := prog_1_method_15_code
def yX4_ask : MethodName := ⟨RX4, "ask", "(IIIIJ)I"⟩
abbrev cX4_limb : ByteArray := prog_1_method_16_code
def yX4_limb : MethodName := ⟨RX4, "limb", "(III)I"⟩
abbrev cX4_told : ByteArray := prog_1_method_17_code
def yX4_told : MethodName := ⟨RX4, "told", "(I)I"⟩
abbrev cX4_isDenominator : ByteArray := prog_1_method_18_code
def yX4_isDenominator : MethodName := ⟨RX4, "isDenominator", "(I)Z"⟩
abbrev cX4_isGrant : ByteArray := prog_1_method_19_code
def yX4_isGrant : MethodName := ⟨RX4, "isGrant", "(II)Z"⟩
abbrev cX4_isCost : ByteArray := prog_1_method_20_code
def yX4_isCost : MethodName := ⟨RX4, "isCost", "(II)Z"⟩
def RX5 : String := "PrivateCountsModel"
def TX5 : u_T := fun k => match k with
  | 0 => ("PrivateCountsModel", "row", "[I", true)
  | 1 => ("PrivateCountsModel", "rows", "I", false)
  | 2 => ("PrivateCountsModel", "a", "I", false)
  | 3 => ("PrivateCountsModel", "b", "I", false)
  | 4 => ("PrivateCountsModel", "low", "I", false)
  | 5 => ("PrivateCountsModel", "high", "I", false)
  | 6 => ("PrivateCountsModel", "answered", "I", false)
  | 7 => ("PrivateCountsModel", "tooLittle", "I", false)
  | 8 => ("PrivateCountsModel", "tooMuch", "I", false)
  | 9 => ("PrivateCountsModel", "figure", "[J", true)
  | 10 => ("PrivateCountsModel", "length", "[I", true)
  | 11 => ("PrivateCountsModel", "top", "[J", true)
  | 12 => ("PrivateCountsModel", "below", "[J", true)
  | 13 => ("PrivateCountsModel", "thrown", "I", false)
  | 14 => ("PrivateCountsModel", "term", "[I", true)
  | _ => ("PrivateCountsModel", "whole", "[I", true)
def tyX5 : Nat → FieldType := fun k => match k with
  | 0 => .array .int
  | 1 => .int
  | 2 => .int
  | 3 => .int
  | 4 => .int
  | 5 => .int
  | 6 => .int
  | 7 => .int
  | 8 => .int
  | 9 => .array .long
  | 10 => .array .int
  | 11 => .array .long
  | 12 => .array .long
  | 13 => .int
  | 14 => .array .int
  | _ => .array .int
abbrev wsX50 : List Cond := u_ws RX5 TX5 16
theorem nmX5 : ∀ a, a < 16 → ∀ b, b < 16 → a ≠ b → (TX5 a).2.1 ≠ (TX5 b).2.1 := by decide +kernel
theorem tyX5_ok : ∀ k, k < 16 → parseFieldDescriptor (TX5 k).2.2.1 = some (tyX5 k) := by decide +kernel
abbrev cX5_init : ByteArray := prog_7_method_1_code
def yX5_init : MethodName := ⟨RX5, "<init>", "()V"⟩
abbrev cX5_thrown : ByteArray := prog_7_method_2_code
def yX5_thrown : MethodName := ⟨RX5, "thrown", "()I"⟩
abbrev cX5_trim : ByteArray := prog_7_method_3_code
def yX5_trim : MethodName := ⟨RX5, "trim", "(II)V"⟩
abbrev cX5_put : ByteArray := prog_7_method_4_code
def yX5_put : MethodName := ⟨RX5, "put", "(IJ)V"⟩
abbrev cX5_copy : ByteArray := prog_7_method_5_code
def yX5_copy : MethodName := ⟨RX5, "copy", "(II)V"⟩
abbrev cX5_take : ByteArray := prog_7_method_6_code
def yX5_take : MethodName := ⟨RX5, "take", "(II)V"⟩
abbrev cX5_figureOf : ByteArray := prog_7_method_7_code
def yX5_figureOf : MethodName := ⟨RX5, "figureOf", "(II)J"⟩
abbrev cX5_compare : ByteArray := prog_7_method_8_code
def yX5_compare : MethodName := ⟨RX5, "compare", "(II)I"⟩
abbrev cX5_plus : ByteArray := prog_7_method_9_code
def yX5_plus : MethodName := ⟨RX5, "plus", "(III)V"⟩
abbrev cX5_minus : ByteArray := prog_7_method_10_code
def yX5_minus : MethodName := ⟨RX5, "minus", "(III)V"⟩
abbrev cX5_times : ByteArray := prog_7_method_11_code
def yX5_times : MethodName := ⟨RX5, "times", "(III)V"⟩
abbrev cX5_divide : ByteArray := prog_7_method_12_code
def yX5_divide : MethodName := ⟨RX5, "divide", "(IIII)V"⟩
abbrev cX5_divisor : ByteArray := prog_7_method_13_code
def yX5_divisor : MethodName := ⟨RX5, "divisor", "(II)V"⟩
abbrev cX5_halve : ByteArray := prog_7_method_14_code
def yX5_halve : MethodName := ⟨RX5, "halve", "(I)V"⟩
abbrev cX5_lowest : ByteArray := prog_7_method_15_code
def yX5_lowest : MethodName := ⟨RX5, "lowest", "(III)V"⟩
abbrev cX5_set : ByteArray := prog_7_method_16_code
def yX5_set : MethodName := ⟨RX5, "set", "(III)V"⟩
abbrev cX5_cross : ByteArray := prog_7_method_17_code
def yX5_cross : MethodName := ⟨RX5, "cross", "(II)V"⟩
abbrev cX5_add0 : ByteArray := prog_7_method_18_code
def yX5_add0 : MethodName := ⟨RX5, "add0", "(III)V"⟩
abbrev cX5_subtract : ByteArray := prog_7_method_19_code
def yX5_subtract : MethodName := ⟨RX5, "subtract", "(III)V"⟩
abbrev cX5_isMore : ByteArray := prog_7_method_20_code
def yX5_isMore : MethodName := ⟨RX5, "isMore", "(II)Z"⟩
abbrev cX5_add : ByteArray := prog_7_method_21_code
def yX5_add : MethodName := ⟨RX5, "add", "(I)I"⟩
abbrev cX5_remove : ByteArray := prog_7_method_22_code
def yX5_remove : MethodName := ⟨RX5, "remove", "(I)I"⟩
abbrev cX5_countRows : ByteArray := prog_7_method_23_code
def yX5_countRows : MethodName := ⟨RX5, "countRows", "(II)I"⟩
abbrev cX5_count : ByteArray := prog_7_method_24_code
def yX5_count : MethodName := ⟨RX5, "count", "(II)I"⟩
abbrev cX5_power : ByteArray := prog_7_method_25_code
def yX5_power : MethodName := ⟨RX5, "power", "(JI)J"⟩
abbrev cX5_allOf : ByteArray := prog_7_method_26_code
def yX5_allOf : MethodName := ⟨RX5, "allOf", "()J"⟩
abbrev cX5_table : ByteArray := prog_7_method_27_code
def yX5_table : MethodName := ⟨RX5, "table", "(IIII)J"⟩
abbrev cX5_all : ByteArray := prog_7_method_28_code
def yX5_all : MethodName := ⟨RX5, "all", "()J"⟩
abbrev cX5_isOut : ByteArray := prog_7_method_29_code
def yX5_isOut : MethodName := ⟨RX5, "isOut", "(I)Z"⟩
abbrev cX5_weightOf : ByteArray := prog_7_method_30_code
def yX5_weightOf : MethodName := ⟨RX5, "weightOf", "(II)J"⟩
abbrev cX5_weight : ByteArray := prog_7_method_31_code
def yX5_weight : MethodName := ⟨RX5, "weight", "(II)J"⟩
abbrev cX5_upTo : ByteArray := prog_7_method_32_code
def yX5_upTo : MethodName := ⟨RX5, "upTo", "(II)J"⟩
abbrev cX5_drawn : ByteArray := prog_7_method_33_code
def yX5_drawn : MethodName := ⟨RX5, "drawn", "(IJ)I"⟩
abbrev cX5_noCoin : ByteArray := prog_7_method_34_code
def yX5_noCoin : MethodName := ⟨RX5, "noCoin", "(J)Z"⟩
abbrev cX5_draw : ByteArray := prog_7_method_35_code
def yX5_draw : MethodName := ⟨RX5, "draw", "(IJ)I"⟩
abbrev cX5_isNear : ByteArray := prog_7_method_36_code
def yX5_isNear : MethodName := ⟨RX5, "isNear", "(II)Z"⟩
abbrev cX5_reaches : ByteArray := prog_7_method_37_code
def yX5_reaches : MethodName := ⟨RX5, "reaches", "()Z"⟩
abbrev cX5_enough : ByteArray := prog_7_method_38_code
def yX5_enough : MethodName := ⟨RX5, "enough", "(II)Z"⟩
abbrev cX5_noCost : ByteArray := prog_7_method_39_code
def yX5_noCost : MethodName := ⟨RX5, "noCost", "(II)Z"⟩
abbrev cX5_isEnough : ByteArray := prog_7_method_40_code
def yX5_isEnough : MethodName := ⟨RX5, "isEnough", "(II)Z"⟩
abbrev cX5_least : ByteArray := prog_7_method_41_code
def yX5_least : MethodName := ⟨RX5, "least", "(I)I"⟩
abbrev cX5_noPart : ByteArray := prog_7_method_42_code
def yX5_noPart : MethodName := ⟨RX5, "noPart", "(II)Z"⟩
abbrev cX5_budget : ByteArray := prog_7_method_43_code
def yX5_budget : MethodName := ⟨RX5, "budget", "(II)V"⟩
abbrev cX5_raise : ByteArray := prog_7_method_44_code
def yX5_raise : MethodName := ⟨RX5, "raise", "(II)V"⟩
abbrev cX5_ask : ByteArray := prog_7_method_45_code
def yX5_ask : MethodName := ⟨RX5, "ask", "(IIIIJ)I"⟩
abbrev cX5_limb : ByteArray := prog_7_method_46_code
def yX5_limb : MethodName := ⟨RX5, "limb", "(III)I"⟩
abbrev cX5_told : ByteArray := prog_7_method_47_code
def yX5_told : MethodName := ⟨RX5, "told", "(I)I"⟩
def RJ0 : String := "java/lang/String"
def TJ0 : u_T := fun k => match k with
  | _ => ("", "", "", false)
def tyJ0 : Nat → FieldType := fun k => match k with
  | _ => .int
abbrev wsJ00 : List Cond := u_ws RJ0 TJ0 0
theorem nmJ0 : ∀ a, a < 0 → ∀ b, b < 0 → a ≠ b → (TJ0 a).2.1 ≠ (TJ0 b).2.1 := by decide +kernel
theorem tyJ0_ok : ∀ k, k < 0 → parseFieldDescriptor (TJ0 k).2.2.1 = some (tyJ0 k) := by decide +kernel
def RL : String := "PrivateCountsLaw"
abbrev cL_remove : ByteArray := method_3_code
def yL_remove : MethodName := ⟨RL, "remove", "(LPrivateCounts;I[J)I"⟩
abbrev cL_table : ByteArray := method_4_code
def yL_table : MethodName := ⟨RL, "table", "(LPrivateCounts;IIII[J)I"⟩
abbrev cL_draw : ByteArray := method_5_code
def yL_draw : MethodName := ⟨RL, "draw", "(LPrivateCounts;IJ[J)I"⟩
abbrev cL_isNear : ByteArray := method_6_code
def yL_isNear : MethodName := ⟨RL, "isNear", "(LPrivateCounts;II[J)I"⟩
abbrev cL_budget : ByteArray := method_7_code
def yL_budget : MethodName := ⟨RL, "budget", "(LPrivateCounts;II)I"⟩
abbrev cL_raise : ByteArray := method_8_code
def yL_raise : MethodName := ⟨RL, "raise", "(LPrivateCounts;II)I"⟩
abbrev cL_isEnough : ByteArray := method_9_code
def yL_isEnough : MethodName := ⟨RL, "isEnough", "(LPrivateCounts;II[J)I"⟩
abbrev cL_least : ByteArray := method_10_code
def yL_least : MethodName := ⟨RL, "least", "(LPrivateCounts;I[J)I"⟩
abbrev cL_ask : ByteArray := method_11_code
def yL_ask : MethodName := ⟨RL, "ask", "(LPrivateCounts;IIIIJ[J)I"⟩
abbrev cL_limb : ByteArray := method_12_code
def yL_limb : MethodName := ⟨RL, "limb", "(LPrivateCounts;III[J)I"⟩
abbrev cL_told : ByteArray := method_13_code
def yL_told : MethodName := ⟨RL, "told", "(LPrivateCounts;I[J)I"⟩
abbrev cL_law : ByteArray := code
def yL_law : MethodName := ⟨RL, "law", "([I)Z"⟩
def wsX1_init : List Cond := .code yX1_init cX1_init 1 none :: ([.methodLink RX1 1 objectInit, .instanceMethod objectInit, .code objectInit ⟨#[0xb1]⟩ 1 none, .arrayClass .int, .fieldLink RX1 9 "PrivateCounts$Natural" "limbs" "[I", .fieldLink RX1 13 "PrivateCounts$Natural" "size" "I"] ++ wsX10)
def wsX1_append : List Cond := .code yX1_append cX1_append 3 none :: ([.fieldLink RX1 13 "PrivateCounts$Natural" "size" "I", .fieldLink RX1 9 "PrivateCounts$Natural" "limbs" "[I"] ++ wsX10)
def wsX1_become : List Cond := .code yX1_become cX1_become 2 none :: ([.fieldLink RX1 13 "PrivateCounts$Natural" "size" "I", .methodLink RX1 17 yX1_append, .instanceMethod yX1_append, .selects RX1 yX1_append yX1_append, .initialized RX1, .code yX1_append cX1_append 3 none, .fieldLink RX1 9 "PrivateCounts$Natural" "limbs" "[I"] ++ wsX10)
def wsX0_init : List Cond := .code yX0_init cX0_init 1 none :: ([.methodLink RX0 1 objectInit, .instanceMethod objectInit, .code objectInit ⟨#[0xb1]⟩ 1 none, .classLink RX0 7 RX1, .instantiable RX1 2, .initialized RX1, .fieldLink RX0 10 "PrivateCounts$Fraction" "numerator" "LPrivateCounts$Natural;", .fieldLink RX0 16 "PrivateCounts$Fraction" "denominator" "LPrivateCounts$Natural;", .instanceMethod yX1_init, .code yX1_init cX1_init 1 none, .methodLink RX1 1 objectInit, .arrayClass .int, .fieldLink RX1 9 "PrivateCounts$Natural" "limbs" "[I", .fieldLink RX1 13 "PrivateCounts$Natural" "size" "I", .methodLink RX0 19 yX1_become, .instanceMethod yX1_become, .selects RX1 yX1_become yX1_become, .code yX1_become cX1_become 2 none, .methodLink RX1 17 yX1_append, .instanceMethod yX1_append, .selects RX1 yX1_append yX1_append, .code yX1_append cX1_append 3 none] ++ wsX10 ++ wsX00)
def wsX0_commonDivisor : List Cond := .code yX0_commonDivisor cX0_commonDivisor 6 (some .int) :: ([])
def wsX1_limbAt : List Cond := .code yX1_limbAt cX1_limbAt 2 (some .int) :: ([.fieldLink RX1 13 "PrivateCounts$Natural" "size" "I", .fieldLink RX1 9 "PrivateCounts$Natural" "limbs" "[I"] ++ wsX10)
def wsX1_trim : List Cond := .code yX1_trim cX1_trim 1 none :: ([.fieldLink RX1 13 "PrivateCounts$Natural" "size" "I", .methodLink RX1 26 yX1_limbAt, .instanceMethod yX1_limbAt, .selects RX1 yX1_limbAt yX1_limbAt, .initialized RX1, .code yX1_limbAt cX1_limbAt 2 (some .int), .fieldLink RX1 9 "PrivateCounts$Natural" "limbs" "[I"] ++ wsX10)
def wsX1_divideBy : List Cond := .code yX1_divideBy cX1_divideBy 5 none :: ([.fieldLink RX1 13 "PrivateCounts$Natural" "size" "I", .fieldLink RX1 9 "PrivateCounts$Natural" "limbs" "[I", .methodLink RX1 23 yX1_trim, .instanceMethod yX1_trim, .selects RX1 yX1_trim yX1_trim, .initialized RX1, .code yX1_trim cX1_trim 1 none, .methodLink RX1 26 yX1_limbAt, .instanceMethod yX1_limbAt, .selects RX1 yX1_limbAt yX1_limbAt, .code yX1_limbAt cX1_limbAt 2 (some .int)] ++ wsX10)
def wsX0_become_r1 : List Cond := [Cond.fieldLink RX0 10 "PrivateCounts$Fraction" "numerator" "LPrivateCounts$Natural;", Cond.fieldLink RX0 16 "PrivateCounts$Fraction" "denominator" "LPrivateCounts$Natural;", Cond.methodLink RX0 23 yX0_commonDivisor, Cond.static yX0_commonDivisor, Cond.initialized RX0, Cond.code yX0_commonDivisor cX0_commonDivisor 6 (some .int), Cond.methodLink RX0 19 yX1_become, Cond.instanceMethod yX1_become, Cond.selects RX1 yX1_become yX1_become, Cond.initialized RX1, Cond.code yX1_become cX1_become 2 none, Cond.fieldLink RX1 13 "PrivateCounts$Natural" "size" "I", Cond.methodLink RX1 17 yX1_append, Cond.instanceMethod yX1_append, Cond.selects RX1 yX1_append yX1_append, Cond.code yX1_append cX1_append 3 none, Cond.fieldLink RX1 9 "PrivateCounts$Natural" "limbs" "[I", Cond.methodLink RX0 27 yX1_divideBy, Cond.instanceMethod yX1_divideBy, Cond.selects RX1 yX1_divideBy yX1_divideBy, Cond.code yX1_divideBy cX1_divideBy 5 none, Cond.methodLink RX1 23 yX1_trim, Cond.instanceMethod yX1_trim, Cond.selects RX1 yX1_trim yX1_trim]
def wsX0_become_r2 : List Cond := [Cond.code yX1_trim cX1_trim 1 none, Cond.methodLink RX1 26 yX1_limbAt, Cond.instanceMethod yX1_limbAt, Cond.selects RX1 yX1_limbAt yX1_limbAt, Cond.code yX1_limbAt cX1_limbAt 2 (some .int)]
def wsX0_become : List Cond := .code yX0_become cX0_become 4 none :: ((wsX0_become_r1 ++ wsX0_become_r2) ++ wsX00 ++ wsX10)
def wsX0_quotient : List Cond := .code yX0_quotient cX0_quotient 2 (some .int) :: ([])
def wsX1_restBy : List Cond := .code yX1_restBy cX1_restBy 5 (some .int) :: ([.fieldLink RX1 13 "PrivateCounts$Natural" "size" "I", .methodLink RX1 26 yX1_limbAt, .instanceMethod yX1_limbAt, .selects RX1 yX1_limbAt yX1_limbAt, .initialized RX1, .code yX1_limbAt cX1_limbAt 2 (some .int), .fieldLink RX1 9 "PrivateCounts$Natural" "limbs" "[I"] ++ wsX10)
def wsX1_times : List Cond := .code yX1_times cX1_times 5 none :: ([.fieldLink RX1 13 "PrivateCounts$Natural" "size" "I", .fieldLink RX1 9 "PrivateCounts$Natural" "limbs" "[I", .constantLong RX1 21 (2147483647), .methodLink RX1 17 yX1_append, .instanceMethod yX1_append, .selects RX1 yX1_append yX1_append, .initialized RX1, .code yX1_append cX1_append 3 none, .methodLink RX1 23 yX1_trim, .instanceMethod yX1_trim, .selects RX1 yX1_trim yX1_trim, .code yX1_trim cX1_trim 1 none, .methodLink RX1 26 yX1_limbAt, .instanceMethod yX1_limbAt, .selects RX1 yX1_limbAt yX1_limbAt, .code yX1_limbAt cX1_limbAt 2 (some .int)] ++ wsX10)
def wsX1_plusTimes : List Cond := .code yX1_plusTimes cX1_plusTimes 7 none :: ([.fieldLink RX1 13 "PrivateCounts$Natural" "size" "I", .fieldLink RX1 9 "PrivateCounts$Natural" "limbs" "[I", .constantLong RX1 21 (2147483647), .methodLink RX1 26 yX1_limbAt, .instanceMethod yX1_limbAt, .selects RX1 yX1_limbAt yX1_limbAt, .initialized RX1, .code yX1_limbAt cX1_limbAt 2 (some .int), .methodLink RX1 17 yX1_append, .instanceMethod yX1_append, .selects RX1 yX1_append yX1_append, .code yX1_append cX1_append 3 none, .methodLink RX1 23 yX1_trim, .instanceMethod yX1_trim, .selects RX1 yX1_trim yX1_trim, .code yX1_trim cX1_trim 1 none] ++ wsX10)
def wsX0_change_r1 : List Cond := [Cond.fieldLink RX0 16 "PrivateCounts$Fraction" "denominator" "LPrivateCounts$Natural;", Cond.fieldLink RX0 10 "PrivateCounts$Fraction" "numerator" "LPrivateCounts$Natural;", Cond.methodLink RX0 23 yX0_commonDivisor, Cond.static yX0_commonDivisor, Cond.initialized RX0, Cond.code yX0_commonDivisor cX0_commonDivisor 6 (some .int), Cond.methodLink RX0 38 yX0_quotient, Cond.static yX0_quotient, Cond.code yX0_quotient cX0_quotient 2 (some .int), Cond.methodLink RX0 41 yX1_restBy, Cond.instanceMethod yX1_restBy, Cond.selects RX1 yX1_restBy yX1_restBy, Cond.initialized RX1, Cond.code yX1_restBy cX1_restBy 5 (some .int), Cond.fieldLink RX1 13 "PrivateCounts$Natural" "size" "I", Cond.methodLink RX1 26 yX1_limbAt, Cond.instanceMethod yX1_limbAt, Cond.selects RX1 yX1_limbAt yX1_limbAt, Cond.code yX1_limbAt cX1_limbAt 2 (some .int), Cond.fieldLink RX1 9 "PrivateCounts$Natural" "limbs" "[I", Cond.methodLink RX0 27 yX1_divideBy, Cond.instanceMethod yX1_divideBy, Cond.selects RX1 yX1_divideBy yX1_divideBy, Cond.code yX1_divideBy cX1_divideBy 5 none]
def wsX0_change_r2 : List Cond := [Cond.methodLink RX1 23 yX1_trim, Cond.instanceMethod yX1_trim, Cond.selects RX1 yX1_trim yX1_trim, Cond.code yX1_trim cX1_trim 1 none, Cond.methodLink RX0 45 yX1_times, Cond.instanceMethod yX1_times, Cond.selects RX1 yX1_times yX1_times, Cond.code yX1_times cX1_times 5 none, Cond.constantLong RX1 21 (2147483647), Cond.methodLink RX1 17 yX1_append, Cond.instanceMethod yX1_append, Cond.selects RX1 yX1_append yX1_append, Cond.code yX1_append cX1_append 3 none, Cond.methodLink RX0 48 yX1_plusTimes, Cond.instanceMethod yX1_plusTimes, Cond.selects RX1 yX1_plusTimes yX1_plusTimes, Cond.code yX1_plusTimes cX1_plusTimes 7 none]
def wsX0_change : List Cond := .code yX0_change cX0_change 9 none :: ((wsX0_change_r1 ++ wsX0_change_r2) ++ wsX00 ++ wsX10)
def wsX0_increase_r1 : List Cond := [Cond.methodLink RX0 30 yX0_change, Cond.instanceMethod yX0_change, Cond.selects RX0 yX0_change yX0_change, Cond.initialized RX0, Cond.code yX0_change cX0_change 9 none, Cond.fieldLink RX0 16 "PrivateCounts$Fraction" "denominator" "LPrivateCounts$Natural;", Cond.fieldLink RX0 10 "PrivateCounts$Fraction" "numerator" "LPrivateCounts$Natural;", Cond.methodLink RX0 23 yX0_commonDivisor, Cond.static yX0_commonDivisor, Cond.code yX0_commonDivisor cX0_commonDivisor 6 (some .int), Cond.methodLink RX0 38 yX0_quotient, Cond.static yX0_quotient, Cond.code yX0_quotient cX0_quotient 2 (some .int), Cond.methodLink RX0 41 yX1_restBy, Cond.instanceMethod yX1_restBy, Cond.selects RX1 yX1_restBy yX1_restBy, Cond.initialized RX1, Cond.code yX1_restBy cX1_restBy 5 (some .int), Cond.fieldLink RX1 13 "PrivateCounts$Natural" "size" "I", Cond.methodLink RX1 26 yX1_limbAt, Cond.instanceMethod yX1_limbAt, Cond.selects RX1 yX1_limbAt yX1_limbAt, Cond.code yX1_limbAt cX1_limbAt 2 (some .int), Cond.fieldLink RX1 9 "PrivateCounts$Natural" "limbs" "[I"]
def wsX0_increase_r2 : List Cond := [Cond.methodLink RX0 27 yX1_divideBy, Cond.instanceMethod yX1_divideBy, Cond.selects RX1 yX1_divideBy yX1_divideBy, Cond.code yX1_divideBy cX1_divideBy 5 none, Cond.methodLink RX1 23 yX1_trim, Cond.instanceMethod yX1_trim, Cond.selects RX1 yX1_trim yX1_trim, Cond.code yX1_trim cX1_trim 1 none, Cond.methodLink RX0 45 yX1_times, Cond.instanceMethod yX1_times, Cond.selects RX1 yX1_times yX1_times, Cond.code yX1_times cX1_times 5 none, Cond.constantLong RX1 21 (2147483647), Cond.methodLink RX1 17 yX1_append, Cond.instanceMethod yX1_append, Cond.selects RX1 yX1_append yX1_append, Cond.code yX1_append cX1_append 3 none, Cond.methodLink RX0 48 yX1_plusTimes, Cond.instanceMethod yX1_plusTimes, Cond.selects RX1 yX1_plusTimes yX1_plusTimes, Cond.code yX1_plusTimes cX1_plusTimes 7 none]
def wsX0_increase : List Cond := .code yX0_increase cX0_increase 3 none :: ((wsX0_increase_r1 ++ wsX0_increase_r2) ++ wsX00 ++ wsX10)
def wsX0_decrease_r1 : List Cond := [Cond.methodLink RX0 30 yX0_change, Cond.instanceMethod yX0_change, Cond.selects RX0 yX0_change yX0_change, Cond.initialized RX0, Cond.code yX0_change cX0_change 9 none, Cond.fieldLink RX0 16 "PrivateCounts$Fraction" "denominator" "LPrivateCounts$Natural;", Cond.fieldLink RX0 10 "PrivateCounts$Fraction" "numerator" "LPrivateCounts$Natural;", Cond.methodLink RX0 23 yX0_commonDivisor, Cond.static yX0_commonDivisor, Cond.code yX0_commonDivisor cX0_commonDivisor 6 (some .int), Cond.methodLink RX0 38 yX0_quotient, Cond.static yX0_quotient, Cond.code yX0_quotient cX0_quotient 2 (some .int), Cond.methodLink RX0 41 yX1_restBy, Cond.instanceMethod yX1_restBy, Cond.selects RX1 yX1_restBy yX1_restBy, Cond.initialized RX1, Cond.code yX1_restBy cX1_restBy 5 (some .int), Cond.fieldLink RX1 13 "PrivateCounts$Natural" "size" "I", Cond.methodLink RX1 26 yX1_limbAt, Cond.instanceMethod yX1_limbAt, Cond.selects RX1 yX1_limbAt yX1_limbAt, Cond.code yX1_limbAt cX1_limbAt 2 (some .int), Cond.fieldLink RX1 9 "PrivateCounts$Natural" "limbs" "[I"]
def wsX0_decrease_r2 : List Cond := [Cond.methodLink RX0 27 yX1_divideBy, Cond.instanceMethod yX1_divideBy, Cond.selects RX1 yX1_divideBy yX1_divideBy, Cond.code yX1_divideBy cX1_divideBy 5 none, Cond.methodLink RX1 23 yX1_trim, Cond.instanceMethod yX1_trim, Cond.selects RX1 yX1_trim yX1_trim, Cond.code yX1_trim cX1_trim 1 none, Cond.methodLink RX0 45 yX1_times, Cond.instanceMethod yX1_times, Cond.selects RX1 yX1_times yX1_times, Cond.code yX1_times cX1_times 5 none, Cond.constantLong RX1 21 (2147483647), Cond.methodLink RX1 17 yX1_append, Cond.instanceMethod yX1_append, Cond.selects RX1 yX1_append yX1_append, Cond.code yX1_append cX1_append 3 none, Cond.methodLink RX0 48 yX1_plusTimes, Cond.instanceMethod yX1_plusTimes, Cond.selects RX1 yX1_plusTimes yX1_plusTimes, Cond.code yX1_plusTimes cX1_plusTimes 7 none]
def wsX0_decrease : List Cond := .code yX0_decrease cX0_decrease 3 none :: ((wsX0_decrease_r1 ++ wsX0_decrease_r2) ++ wsX00 ++ wsX10)
def wsX1_isLess : List Cond := .code yX1_isLess cX1_isLess 8 (some .boolean) :: ([.fieldLink RX1 13 "PrivateCounts$Natural" "size" "I", .methodLink RX1 26 yX1_limbAt, .instanceMethod yX1_limbAt, .selects RX1 yX1_limbAt yX1_limbAt, .initialized RX1, .code yX1_limbAt cX1_limbAt 2 (some .int), .fieldLink RX1 9 "PrivateCounts$Natural" "limbs" "[I"] ++ wsX10)
def wsX0_isLessThan : List Cond := .code yX0_isLessThan cX0_isLessThan 3 (some .boolean) :: ([.fieldLink RX0 10 "PrivateCounts$Fraction" "numerator" "LPrivateCounts$Natural;", .fieldLink RX0 16 "PrivateCounts$Fraction" "denominator" "LPrivateCounts$Natural;", .methodLink RX0 34 yX1_isLess, .static yX1_isLess, .initialized RX1, .code yX1_isLess cX1_isLess 8 (some .boolean), .fieldLink RX1 13 "PrivateCounts$Natural" "size" "I", .methodLink RX1 26 yX1_limbAt, .instanceMethod yX1_limbAt, .selects RX1 yX1_limbAt yX1_limbAt, .code yX1_limbAt cX1_limbAt 2 (some .int), .fieldLink RX1 9 "PrivateCounts$Natural" "limbs" "[I"] ++ wsX00 ++ wsX10)
def wsX2_init : List Cond := .code yX2_init cX2_init 1 none :: ([.methodLink RX2 1 objectInit, .instanceMethod objectInit, .code objectInit ⟨#[0xb1]⟩ 1 none, .classLink RX2 7 RX1, .instantiable RX1 2, .initialized RX1, .fieldLink RX2 10 "PrivateCounts$Series" "missing" "LPrivateCounts$Natural;", .fieldLink RX2 16 "PrivateCounts$Series" "term" "LPrivateCounts$Natural;", .instanceMethod yX1_init, .code yX1_init cX1_init 1 none, .methodLink RX1 1 objectInit, .arrayClass .int, .fieldLink RX1 9 "PrivateCounts$Natural" "limbs" "[I", .fieldLink RX1 13 "PrivateCounts$Natural" "size" "I"] ++ wsX10 ++ wsX20)
def wsX2_reaches_r1 : List Cond := [Cond.fieldLink RX2 10 "PrivateCounts$Series" "missing" "LPrivateCounts$Natural;", Cond.fieldLink RX2 19 "PrivateCounts$Table" "b" "I", Cond.fieldLink RX2 25 "PrivateCounts$Table" "a" "I", Cond.fieldLink RX2 16 "PrivateCounts$Series" "term" "LPrivateCounts$Natural;", Cond.methodLink RX2 28 yX1_become, Cond.instanceMethod yX1_become, Cond.selects RX1 yX1_become yX1_become, Cond.initialized RX1, Cond.code yX1_become cX1_become 2 none, Cond.fieldLink RX1 13 "PrivateCounts$Natural" "size" "I", Cond.methodLink RX1 17 yX1_append, Cond.instanceMethod yX1_append, Cond.selects RX1 yX1_append yX1_append, Cond.code yX1_append cX1_append 3 none, Cond.fieldLink RX1 9 "PrivateCounts$Natural" "limbs" "[I", Cond.methodLink RX2 32 yX1_times, Cond.instanceMethod yX1_times, Cond.selects RX1 yX1_times yX1_times, Cond.code yX1_times cX1_times 5 none, Cond.constantLong RX1 21 (2147483647), Cond.methodLink RX1 23 yX1_trim, Cond.instanceMethod yX1_trim, Cond.selects RX1 yX1_trim yX1_trim, Cond.code yX1_trim cX1_trim 1 none]
def wsX2_reaches_r2 : List Cond := [Cond.methodLink RX1 26 yX1_limbAt, Cond.instanceMethod yX1_limbAt, Cond.selects RX1 yX1_limbAt yX1_limbAt, Cond.code yX1_limbAt cX1_limbAt 2 (some .int), Cond.methodLink RX2 35 yX1_isLess, Cond.static yX1_isLess, Cond.code yX1_isLess cX1_isLess 8 (some .boolean), Cond.methodLink RX2 39 yX1_plusTimes, Cond.instanceMethod yX1_plusTimes, Cond.selects RX1 yX1_plusTimes yX1_plusTimes, Cond.code yX1_plusTimes cX1_plusTimes 7 none]
def wsX2_reaches : List Cond := .code yX2_reaches cX2_reaches 6 (some .boolean) :: ((wsX2_reaches_r1 ++ wsX2_reaches_r2) ++ wsX20 ++ wsX30 ++ wsX10)
def wsX3_power : List Cond := .code yX3_power cX3_power 5 (some .long) :: ([])
def wsX3_become : List Cond := .code yX3_become cX3_become 5 none :: ([.fieldLink RX3 13 "PrivateCounts$Table" "a" "I", .fieldLink RX3 17 "PrivateCounts$Table" "b" "I", .fieldLink RX3 20 "PrivateCounts$Table" "low" "I", .fieldLink RX3 23 "PrivateCounts$Table" "high" "I", .fieldLink RX3 30 "PrivateCounts$Table" "total" "J", .methodLink RX3 26 yX3_power, .static yX3_power, .initialized RX3, .code yX3_power cX3_power 5 (some .long)] ++ wsX30)
def wsX3_init : List Cond := .code yX3_init cX3_init 1 none :: ([.methodLink RX3 1 objectInit, .instanceMethod objectInit, .code objectInit ⟨#[0xb1]⟩ 1 none, .methodLink RX3 7 yX3_become, .instanceMethod yX3_become, .selects RX3 yX3_become yX3_become, .initialized RX3, .code yX3_become cX3_become 5 none, .fieldLink RX3 13 "PrivateCounts$Table" "a" "I", .fieldLink RX3 17 "PrivateCounts$Table" "b" "I", .fieldLink RX3 20 "PrivateCounts$Table" "low" "I", .fieldLink RX3 23 "PrivateCounts$Table" "high" "I", .fieldLink RX3 30 "PrivateCounts$Table" "total" "J", .methodLink RX3 26 yX3_power, .static yX3_power, .code yX3_power cX3_power 5 (some .long)] ++ wsX30)
def wsX3_isAllowed : List Cond := .code yX3_isAllowed cX3_isAllowed 4 (some .boolean) :: ([])
def wsX3_holds : List Cond := .code yX3_holds cX3_holds 2 (some .boolean) :: ([.fieldLink RX3 20 "PrivateCounts$Table" "low" "I", .fieldLink RX3 23 "PrivateCounts$Table" "high" "I"] ++ wsX30)
def wsX3_hasCoin : List Cond := .code yX3_hasCoin cX3_hasCoin 3 (some .boolean) :: ([.fieldLink RX3 30 "PrivateCounts$Table" "total" "J"] ++ wsX30)
def wsX3_nearestTo : List Cond := .code yX3_nearestTo cX3_nearestTo 2 (some .int) :: ([.fieldLink RX3 20 "PrivateCounts$Table" "low" "I", .fieldLink RX3 23 "PrivateCounts$Table" "high" "I"] ++ wsX30)
def wsX3_weightOf : List Cond := .code yX3_weightOf cX3_weightOf 5 (some .long) :: ([.fieldLink RX3 20 "PrivateCounts$Table" "low" "I", .fieldLink RX3 23 "PrivateCounts$Table" "high" "I", .fieldLink RX3 30 "PrivateCounts$Table" "total" "J", .fieldLink RX3 17 "PrivateCounts$Table" "b" "I", .fieldLink RX3 13 "PrivateCounts$Table" "a" "I", .methodLink RX3 34 yX3_holds, .instanceMethod yX3_holds, .selects RX3 yX3_holds yX3_holds, .initialized RX3, .code yX3_holds cX3_holds 2 (some .boolean), .methodLink RX3 26 yX3_power, .static yX3_power, .code yX3_power cX3_power 5 (some .long)] ++ wsX30)
def wsX3_sumTo : List Cond := .code yX3_sumTo cX3_sumTo 6 (some .long) :: ([.fieldLink RX3 20 "PrivateCounts$Table" "low" "I", .fieldLink RX3 23 "PrivateCounts$Table" "high" "I", .methodLink RX3 38 yX3_weightOf, .instanceMethod yX3_weightOf, .selects RX3 yX3_weightOf yX3_weightOf, .initialized RX3, .code yX3_weightOf cX3_weightOf 5 (some .long), .fieldLink RX3 30 "PrivateCounts$Table" "total" "J", .fieldLink RX3 17 "PrivateCounts$Table" "b" "I", .fieldLink RX3 13 "PrivateCounts$Table" "a" "I", .methodLink RX3 34 yX3_holds, .instanceMethod yX3_holds, .selects RX3 yX3_holds yX3_holds, .code yX3_holds cX3_holds 2 (some .boolean), .methodLink RX3 26 yX3_power, .static yX3_power, .code yX3_power cX3_power 5 (some .long)] ++ wsX30)
def wsX3_outcomeOf : List Cond := .code yX3_outcomeOf cX3_outcomeOf 7 (some .int) :: ([.fieldLink RX3 20 "PrivateCounts$Table" "low" "I", .fieldLink RX3 23 "PrivateCounts$Table" "high" "I", .methodLink RX3 38 yX3_weightOf, .instanceMethod yX3_weightOf, .selects RX3 yX3_weightOf yX3_weightOf, .initialized RX3, .code yX3_weightOf cX3_weightOf 5 (some .long), .fieldLink RX3 30 "PrivateCounts$Table" "total" "J", .fieldLink RX3 17 "PrivateCounts$Table" "b" "I", .fieldLink RX3 13 "PrivateCounts$Table" "a" "I", .methodLink RX3 34 yX3_holds, .instanceMethod yX3_holds, .selects RX3 yX3_holds yX3_holds, .code yX3_holds cX3_holds 2 (some .boolean), .methodLink RX3 26 yX3_power, .static yX3_power, .code yX3_power cX3_power 5 (some .long)] ++ wsX30)
def wsX3_isWithinRatio : List Cond := .code yX3_isWithinRatio cX3_isWithinRatio 4 (some .boolean) :: ([.fieldLink RX3 20 "PrivateCounts$Table" "low" "I", .fieldLink RX3 23 "PrivateCounts$Table" "high" "I", .fieldLink RX3 13 "PrivateCounts$Table" "a" "I", .fieldLink RX3 17 "PrivateCounts$Table" "b" "I", .methodLink RX3 38 yX3_weightOf, .instanceMethod yX3_weightOf, .selects RX3 yX3_weightOf yX3_weightOf, .initialized RX3, .code yX3_weightOf cX3_weightOf 5 (some .long), .fieldLink RX3 30 "PrivateCounts$Table" "total" "J", .methodLink RX3 34 yX3_holds, .instanceMethod yX3_holds, .selects RX3 yX3_holds yX3_holds, .code yX3_holds cX3_holds 2 (some .boolean), .methodLink RX3 26 yX3_power, .static yX3_power, .code yX3_power cX3_power 5 (some .long)] ++ wsX30)
def wsX4_init_r1 : List Cond := [Cond.methodLink RX4 1 objectInit, Cond.instanceMethod objectInit, Cond.code objectInit ⟨#[0xb1]⟩ 1 none, Cond.arrayClass .int, Cond.fieldLink RX4 9 "PrivateCounts" "rows" "[I", Cond.fieldLink RX4 13 "PrivateCounts" "rowCount" "I", Cond.classLink RX4 17 RX3, Cond.instantiable RX3 5, Cond.initialized RX3, Cond.fieldLink RX4 20 "PrivateCounts" "weights" "LPrivateCounts$Table;", Cond.classLink RX4 24 RX2, Cond.instantiable RX2 2, Cond.initialized RX2, Cond.fieldLink RX4 27 "PrivateCounts" "series" "LPrivateCounts$Series;", Cond.classLink RX4 31 RX0, Cond.instantiable RX0 2, Cond.initialized RX0, Cond.fieldLink RX4 34 "PrivateCounts" "granted" "LPrivateCounts$Fraction;", Cond.fieldLink RX4 38 "PrivateCounts" "spent" "LPrivateCounts$Fraction;", Cond.fieldLink RX4 41 "PrivateCounts" "left" "LPrivateCounts$Fraction;", Cond.fieldLink RX4 44 "PrivateCounts" "answered" "I", Cond.fieldLink RX4 47 "PrivateCounts" "refusedForCost" "I", Cond.fieldLink RX4 50 "PrivateCounts" "refusedForBudget" "I", Cond.methodLink RX4 19 yX3_init]
def wsX4_init_r2 : List Cond := [Cond.instanceMethod yX3_init, Cond.code yX3_init cX3_init 1 none, Cond.methodLink RX3 1 objectInit, Cond.methodLink RX3 7 yX3_become, Cond.instanceMethod yX3_become, Cond.selects RX3 yX3_become yX3_become, Cond.code yX3_become cX3_become 5 none, Cond.fieldLink RX3 13 "PrivateCounts$Table" "a" "I", Cond.fieldLink RX3 17 "PrivateCounts$Table" "b" "I", Cond.fieldLink RX3 20 "PrivateCounts$Table" "low" "I", Cond.fieldLink RX3 23 "PrivateCounts$Table" "high" "I", Cond.fieldLink RX3 30 "PrivateCounts$Table" "total" "J", Cond.methodLink RX3 26 yX3_power, Cond.static yX3_power, Cond.code yX3_power cX3_power 5 (some .long), Cond.instanceMethod yX2_init, Cond.code yX2_init cX2_init 1 none, Cond.methodLink RX2 1 objectInit, Cond.classLink RX2 7 RX1, Cond.instantiable RX1 2, Cond.initialized RX1, Cond.fieldLink RX2 10 "PrivateCounts$Series" "missing" "LPrivateCounts$Natural;", Cond.fieldLink RX2 16 "PrivateCounts$Series" "term" "LPrivateCounts$Natural;", Cond.instanceMethod yX1_init]
def wsX4_init_r3 : List Cond := [Cond.code yX1_init cX1_init 1 none, Cond.methodLink RX1 1 objectInit, Cond.fieldLink RX1 9 "PrivateCounts$Natural" "limbs" "[I", Cond.fieldLink RX1 13 "PrivateCounts$Natural" "size" "I", Cond.methodLink RX4 33 yX0_init, Cond.instanceMethod yX0_init, Cond.code yX0_init cX0_init 1 none, Cond.methodLink RX0 1 objectInit, Cond.classLink RX0 7 RX1, Cond.fieldLink RX0 10 "PrivateCounts$Fraction" "numerator" "LPrivateCounts$Natural;", Cond.fieldLink RX0 16 "PrivateCounts$Fraction" "denominator" "LPrivateCounts$Natural;", Cond.methodLink RX0 19 yX1_become, Cond.instanceMethod yX1_become, Cond.selects RX1 yX1_become yX1_become, Cond.code yX1_become cX1_become 2 none, Cond.methodLink RX1 17 yX1_append, Cond.instanceMethod yX1_append, Cond.selects RX1 yX1_append yX1_append, Cond.code yX1_append cX1_append 3 none]
def wsX4_init : List Cond := .code yX4_init cX4_init 1 none :: ((wsX4_init_r1 ++ (wsX4_init_r2 ++ wsX4_init_r3)) ++ wsX40 ++ wsX30 ++ wsX20 ++ wsX00 ++ wsX10)
def wsX4_add : List Cond := .code yX4_add cX4_add 2 (some .int) :: ([.fieldLink RX4 13 "PrivateCounts" "rowCount" "I", .fieldLink RX4 9 "PrivateCounts" "rows" "[I"] ++ wsX40)
def wsX4_remove : List Cond := .code yX4_remove cX4_remove 4 (some .int) :: ([.classLink RX4 53 "java/lang/IndexOutOfBoundsException", .initialized "java/lang/IndexOutOfBoundsException", .fieldLink RX4 13 "PrivateCounts" "rowCount" "I", .fieldLink RX4 9 "PrivateCounts" "rows" "[I"] ++ wsX40 ++ (vx_atS RX4 57 "java/lang/IndexOutOfBoundsException" ["java/lang/RuntimeException", "java/lang/Exception"]).filter goodWord)
def wsX4_count : List Cond := .code yX4_count cX4_count 5 (some .int) :: ([.fieldLink RX4 13 "PrivateCounts" "rowCount" "I", .fieldLink RX4 9 "PrivateCounts" "rows" "[I"] ++ wsX40)
def wsX4_table : List Cond := .code yX4_table cX4_table 5 (some .long) :: ([.classLink RX4 64 "java/lang/IllegalArgumentException", .initialized "java/lang/IllegalArgumentException", .fieldLink RX4 20 "PrivateCounts" "weights" "LPrivateCounts$Table;", .fieldLink RX4 73 "PrivateCounts$Table" "total" "J", .methodLink RX4 60 yX3_isAllowed, .static yX3_isAllowed, .initialized RX3, .code yX3_isAllowed cX3_isAllowed 4 (some .boolean), .methodLink RX4 69 yX3_become, .instanceMethod yX3_become, .selects RX3 yX3_become yX3_become, .code yX3_become cX3_become 5 none, .fieldLink RX3 13 "PrivateCounts$Table" "a" "I", .fieldLink RX3 17 "PrivateCounts$Table" "b" "I", .fieldLink RX3 20 "PrivateCounts$Table" "low" "I", .fieldLink RX3 23 "PrivateCounts$Table" "high" "I", .fieldLink RX3 30 "PrivateCounts$Table" "total" "J", .methodLink RX3 26 yX3_power, .static yX3_power, .code yX3_power cX3_power 5 (some .long)] ++ wsX40 ++ wsX30 ++ (vx_atS RX4 68 "java/lang/IllegalArgumentException" ["java/lang/RuntimeException", "java/lang/Exception"]).filter goodWord)
def wsX4_all : List Cond := .code yX4_all cX4_all 1 (some .long) :: ([.fieldLink RX4 20 "PrivateCounts" "weights" "LPrivateCounts$Table;", .fieldLink RX4 73 "PrivateCounts$Table" "total" "J"] ++ wsX40 ++ wsX30)
def wsX4_weight : List Cond := .code yX4_weight cX4_weight 3 (some .long) :: ([.fieldLink RX4 20 "PrivateCounts" "weights" "LPrivateCounts$Table;", .methodLink RX4 77 yX3_weightOf, .instanceMethod yX3_weightOf, .selects RX3 yX3_weightOf yX3_weightOf, .initialized RX3, .code yX3_weightOf cX3_weightOf 5 (some .long), .fieldLink RX3 20 "PrivateCounts$Table" "low" "I", .fieldLink RX3 23 "PrivateCounts$Table" "high" "I", .fieldLink RX3 30 "PrivateCounts$Table" "total" "J", .fieldLink RX3 17 "PrivateCounts$Table" "b" "I", .fieldLink RX3 13 "PrivateCounts$Table" "a" "I", .methodLink RX3 34 yX3_holds, .instanceMethod yX3_holds, .selects RX3 yX3_holds yX3_holds, .code yX3_holds cX3_holds 2 (some .boolean), .methodLink RX3 26 yX3_power, .static yX3_power, .code yX3_power cX3_power 5 (some .long)] ++ wsX40 ++ wsX30)
def wsX4_upTo : List Cond := .code yX4_upTo cX4_upTo 3 (some .long) :: ([.fieldLink RX4 20 "PrivateCounts" "weights" "LPrivateCounts$Table;", .methodLink RX4 81 yX3_sumTo, .instanceMethod yX3_sumTo, .selects RX3 yX3_sumTo yX3_sumTo, .initialized RX3, .code yX3_sumTo cX3_sumTo 6 (some .long), .fieldLink RX3 20 "PrivateCounts$Table" "low" "I", .fieldLink RX3 23 "PrivateCounts$Table" "high" "I", .methodLink RX3 38 yX3_weightOf, .instanceMethod yX3_weightOf, .selects RX3 yX3_weightOf yX3_weightOf, .code yX3_weightOf cX3_weightOf 5 (some .long), .fieldLink RX3 30 "PrivateCounts$Table" "total" "J", .fieldLink RX3 17 "PrivateCounts$Table" "b" "I", .fieldLink RX3 13 "PrivateCounts$Table" "a" "I", .methodLink RX3 34 yX3_holds, .instanceMethod yX3_holds, .selects RX3 yX3_holds yX3_holds, .code yX3_holds cX3_holds 2 (some .boolean), .methodLink RX3 26 yX3_power, .static yX3_power, .code yX3_power cX3_power 5 (some .long)] ++ wsX40 ++ wsX30)
def wsX4_draw_r1 : List Cond := [Cond.classLink RX4 64 "java/lang/IllegalArgumentException", Cond.initialized "java/lang/IllegalArgumentException", Cond.fieldLink RX4 20 "PrivateCounts" "weights" "LPrivateCounts$Table;", Cond.methodLink RX4 84 yX3_holds, Cond.instanceMethod yX3_holds, Cond.selects RX3 yX3_holds yX3_holds, Cond.initialized RX3, Cond.code yX3_holds cX3_holds 2 (some .boolean), Cond.fieldLink RX3 20 "PrivateCounts$Table" "low" "I", Cond.fieldLink RX3 23 "PrivateCounts$Table" "high" "I", Cond.methodLink RX4 88 yX3_hasCoin, Cond.instanceMethod yX3_hasCoin, Cond.selects RX3 yX3_hasCoin yX3_hasCoin, Cond.code yX3_hasCoin cX3_hasCoin 3 (some .boolean), Cond.fieldLink RX3 30 "PrivateCounts$Table" "total" "J", Cond.methodLink RX4 94 yX3_outcomeOf, Cond.instanceMethod yX3_outcomeOf, Cond.selects RX3 yX3_outcomeOf yX3_outcomeOf, Cond.code yX3_outcomeOf cX3_outcomeOf 7 (some .int), Cond.methodLink RX3 38 yX3_weightOf, Cond.instanceMethod yX3_weightOf, Cond.selects RX3 yX3_weightOf yX3_weightOf, Cond.code yX3_weightOf cX3_weightOf 5 (some .long), Cond.fieldLink RX3 17 "PrivateCounts$Table" "b" "I"]
def wsX4_draw_r2 : List Cond := [Cond.fieldLink RX3 13 "PrivateCounts$Table" "a" "I", Cond.methodLink RX3 34 yX3_holds, Cond.methodLink RX3 26 yX3_power, Cond.static yX3_power, Cond.code yX3_power cX3_power 5 (some .long)]
def wsX4_draw : List Cond := .code yX4_draw cX4_draw 4 (some .int) :: ((wsX4_draw_r1 ++ wsX4_draw_r2) ++ wsX40 ++ wsX30 ++ (vx_atS RX4 68 "java/lang/IllegalArgumentException" ["java/lang/RuntimeException", "java/lang/Exception"]).filter goodWord)
def wsX4_isNear_r1 : List Cond := [Cond.classLink RX4 64 "java/lang/IllegalArgumentException", Cond.initialized "java/lang/IllegalArgumentException", Cond.fieldLink RX4 20 "PrivateCounts" "weights" "LPrivateCounts$Table;", Cond.methodLink RX4 84 yX3_holds, Cond.instanceMethod yX3_holds, Cond.selects RX3 yX3_holds yX3_holds, Cond.initialized RX3, Cond.code yX3_holds cX3_holds 2 (some .boolean), Cond.fieldLink RX3 20 "PrivateCounts$Table" "low" "I", Cond.fieldLink RX3 23 "PrivateCounts$Table" "high" "I", Cond.methodLink RX4 100 yX3_isWithinRatio, Cond.instanceMethod yX3_isWithinRatio, Cond.selects RX3 yX3_isWithinRatio yX3_isWithinRatio, Cond.code yX3_isWithinRatio cX3_isWithinRatio 4 (some .boolean), Cond.fieldLink RX3 13 "PrivateCounts$Table" "a" "I", Cond.fieldLink RX3 17 "PrivateCounts$Table" "b" "I", Cond.methodLink RX3 38 yX3_weightOf, Cond.instanceMethod yX3_weightOf, Cond.selects RX3 yX3_weightOf yX3_weightOf, Cond.code yX3_weightOf cX3_weightOf 5 (some .long), Cond.fieldLink RX3 30 "PrivateCounts$Table" "total" "J", Cond.methodLink RX3 34 yX3_holds, Cond.methodLink RX3 26 yX3_power, Cond.static yX3_power]
def wsX4_isNear_r2 : List Cond := [Cond.code yX3_power cX3_power 5 (some .long)]
def wsX4_isNear : List Cond := .code yX4_isNear cX4_isNear 3 (some .boolean) :: ((wsX4_isNear_r1 ++ wsX4_isNear_r2) ++ wsX40 ++ wsX30 ++ (vx_atS RX4 68 "java/lang/IllegalArgumentException" ["java/lang/RuntimeException", "java/lang/Exception"]).filter goodWord)
def wsX4_isDenominator : List Cond := .code yX4_isDenominator cX4_isDenominator 1 (some .boolean) :: ([])
def wsX4_isGrant : List Cond := .code yX4_isGrant cX4_isGrant 2 (some .boolean) :: ([.methodLink RX4 124 yX4_isDenominator, .static yX4_isDenominator, .initialized RX4, .code yX4_isDenominator cX4_isDenominator 1 (some .boolean)])
def wsX4_budget_r1 : List Cond := [Cond.classLink RX4 64 "java/lang/IllegalArgumentException", Cond.initialized "java/lang/IllegalArgumentException", Cond.fieldLink RX4 34 "PrivateCounts" "granted" "LPrivateCounts$Fraction;", Cond.fieldLink RX4 38 "PrivateCounts" "spent" "LPrivateCounts$Fraction;", Cond.fieldLink RX4 41 "PrivateCounts" "left" "LPrivateCounts$Fraction;", Cond.fieldLink RX4 44 "PrivateCounts" "answered" "I", Cond.fieldLink RX4 47 "PrivateCounts" "refusedForCost" "I", Cond.fieldLink RX4 50 "PrivateCounts" "refusedForBudget" "I", Cond.methodLink RX4 104 yX4_isGrant, Cond.static yX4_isGrant, Cond.initialized RX4, Cond.code yX4_isGrant cX4_isGrant 2 (some .boolean), Cond.methodLink RX4 124 yX4_isDenominator, Cond.static yX4_isDenominator, Cond.code yX4_isDenominator cX4_isDenominator 1 (some .boolean), Cond.methodLink RX4 109 yX0_become, Cond.instanceMethod yX0_become, Cond.selects RX0 yX0_become yX0_become, Cond.initialized RX0, Cond.code yX0_become cX0_become 4 none, Cond.fieldLink RX0 10 "PrivateCounts$Fraction" "numerator" "LPrivateCounts$Natural;", Cond.fieldLink RX0 16 "PrivateCounts$Fraction" "denominator" "LPrivateCounts$Natural;", Cond.methodLink RX0 23 yX0_commonDivisor, Cond.static yX0_commonDivisor]
def wsX4_budget_r2 : List Cond := [Cond.code yX0_commonDivisor cX0_commonDivisor 6 (some .int), Cond.methodLink RX0 19 yX1_become, Cond.instanceMethod yX1_become, Cond.selects RX1 yX1_become yX1_become, Cond.initialized RX1, Cond.code yX1_become cX1_become 2 none, Cond.fieldLink RX1 13 "PrivateCounts$Natural" "size" "I", Cond.methodLink RX1 17 yX1_append, Cond.instanceMethod yX1_append, Cond.selects RX1 yX1_append yX1_append, Cond.code yX1_append cX1_append 3 none, Cond.fieldLink RX1 9 "PrivateCounts$Natural" "limbs" "[I", Cond.methodLink RX0 27 yX1_divideBy, Cond.instanceMethod yX1_divideBy, Cond.selects RX1 yX1_divideBy yX1_divideBy, Cond.code yX1_divideBy cX1_divideBy 5 none, Cond.methodLink RX1 23 yX1_trim, Cond.instanceMethod yX1_trim, Cond.selects RX1 yX1_trim yX1_trim, Cond.code yX1_trim cX1_trim 1 none, Cond.methodLink RX1 26 yX1_limbAt, Cond.instanceMethod yX1_limbAt, Cond.selects RX1 yX1_limbAt yX1_limbAt, Cond.code yX1_limbAt cX1_limbAt 2 (some .int)]
def wsX4_budget : List Cond := .code yX4_budget cX4_budget 3 none :: ((wsX4_budget_r1 ++ wsX4_budget_r2) ++ wsX40 ++ wsX00 ++ wsX10 ++ (vx_atS RX4 68 "java/lang/IllegalArgumentException" ["java/lang/RuntimeException", "java/lang/Exception"]).filter goodWord)
def wsX4_raise_r1 : List Cond := [Cond.classLink RX4 64 "java/lang/IllegalArgumentException", Cond.initialized "java/lang/IllegalArgumentException", Cond.fieldLink RX4 34 "PrivateCounts" "granted" "LPrivateCounts$Fraction;", Cond.fieldLink RX4 41 "PrivateCounts" "left" "LPrivateCounts$Fraction;", Cond.methodLink RX4 104 yX4_isGrant, Cond.static yX4_isGrant, Cond.initialized RX4, Cond.code yX4_isGrant cX4_isGrant 2 (some .boolean), Cond.methodLink RX4 124 yX4_isDenominator, Cond.static yX4_isDenominator, Cond.code yX4_isDenominator cX4_isDenominator 1 (some .boolean), Cond.methodLink RX4 112 yX0_increase, Cond.instanceMethod yX0_increase, Cond.selects RX0 yX0_increase yX0_increase, Cond.initialized RX0, Cond.code yX0_increase cX0_increase 3 none, Cond.methodLink RX0 30 yX0_change, Cond.instanceMethod yX0_change, Cond.selects RX0 yX0_change yX0_change, Cond.code yX0_change cX0_change 9 none, Cond.fieldLink RX0 16 "PrivateCounts$Fraction" "denominator" "LPrivateCounts$Natural;", Cond.fieldLink RX0 10 "PrivateCounts$Fraction" "numerator" "LPrivateCounts$Natural;", Cond.methodLink RX0 23 yX0_commonDivisor, Cond.static yX0_commonDivisor]
def wsX4_raise_r2 : List Cond := [Cond.code yX0_commonDivisor cX0_commonDivisor 6 (some .int), Cond.methodLink RX0 38 yX0_quotient, Cond.static yX0_quotient, Cond.code yX0_quotient cX0_quotient 2 (some .int), Cond.methodLink RX0 41 yX1_restBy, Cond.instanceMethod yX1_restBy, Cond.selects RX1 yX1_restBy yX1_restBy, Cond.initialized RX1, Cond.code yX1_restBy cX1_restBy 5 (some .int), Cond.fieldLink RX1 13 "PrivateCounts$Natural" "size" "I", Cond.methodLink RX1 26 yX1_limbAt, Cond.instanceMethod yX1_limbAt, Cond.selects RX1 yX1_limbAt yX1_limbAt, Cond.code yX1_limbAt cX1_limbAt 2 (some .int), Cond.fieldLink RX1 9 "PrivateCounts$Natural" "limbs" "[I", Cond.methodLink RX0 27 yX1_divideBy, Cond.instanceMethod yX1_divideBy, Cond.selects RX1 yX1_divideBy yX1_divideBy, Cond.code yX1_divideBy cX1_divideBy 5 none, Cond.methodLink RX1 23 yX1_trim, Cond.instanceMethod yX1_trim, Cond.selects RX1 yX1_trim yX1_trim, Cond.code yX1_trim cX1_trim 1 none, Cond.methodLink RX0 45 yX1_times]
def wsX4_raise_r3 : List Cond := [Cond.instanceMethod yX1_times, Cond.selects RX1 yX1_times yX1_times, Cond.code yX1_times cX1_times 5 none, Cond.constantLong RX1 21 (2147483647), Cond.methodLink RX1 17 yX1_append, Cond.instanceMethod yX1_append, Cond.selects RX1 yX1_append yX1_append, Cond.code yX1_append cX1_append 3 none, Cond.methodLink RX0 48 yX1_plusTimes, Cond.instanceMethod yX1_plusTimes, Cond.selects RX1 yX1_plusTimes yX1_plusTimes, Cond.code yX1_plusTimes cX1_plusTimes 7 none]
def wsX4_raise : List Cond := .code yX4_raise cX4_raise 3 none :: ((wsX4_raise_r1 ++ (wsX4_raise_r2 ++ wsX4_raise_r3)) ++ wsX40 ++ wsX00 ++ wsX10 ++ (vx_atS RX4 68 "java/lang/IllegalArgumentException" ["java/lang/RuntimeException", "java/lang/Exception"]).filter goodWord)
def wsX4_isCost : List Cond := .code yX4_isCost cX4_isCost 2 (some .boolean) :: ([.methodLink RX4 124 yX4_isDenominator, .static yX4_isDenominator, .initialized RX4, .code yX4_isDenominator cX4_isDenominator 1 (some .boolean)])
def wsX4_isEnough_r1 : List Cond := [Cond.classLink RX4 64 "java/lang/IllegalArgumentException", Cond.initialized "java/lang/IllegalArgumentException", Cond.fieldLink RX4 27 "PrivateCounts" "series" "LPrivateCounts$Series;", Cond.fieldLink RX4 20 "PrivateCounts" "weights" "LPrivateCounts$Table;", Cond.methodLink RX4 115 yX4_isCost, Cond.static yX4_isCost, Cond.initialized RX4, Cond.code yX4_isCost cX4_isCost 2 (some .boolean), Cond.methodLink RX4 124 yX4_isDenominator, Cond.static yX4_isDenominator, Cond.code yX4_isDenominator cX4_isDenominator 1 (some .boolean), Cond.methodLink RX4 120 yX2_reaches, Cond.instanceMethod yX2_reaches, Cond.selects RX2 yX2_reaches yX2_reaches, Cond.initialized RX2, Cond.code yX2_reaches cX2_reaches 6 (some .boolean), Cond.fieldLink RX2 10 "PrivateCounts$Series" "missing" "LPrivateCounts$Natural;", Cond.fieldLink RX2 19 "PrivateCounts$Table" "b" "I", Cond.fieldLink RX2 25 "PrivateCounts$Table" "a" "I", Cond.fieldLink RX2 16 "PrivateCounts$Series" "term" "LPrivateCounts$Natural;", Cond.methodLink RX2 28 yX1_become, Cond.instanceMethod yX1_become, Cond.selects RX1 yX1_become yX1_become, Cond.initialized RX1]
def wsX4_isEnough_r2 : List Cond := [Cond.code yX1_become cX1_become 2 none, Cond.fieldLink RX1 13 "PrivateCounts$Natural" "size" "I", Cond.methodLink RX1 17 yX1_append, Cond.instanceMethod yX1_append, Cond.selects RX1 yX1_append yX1_append, Cond.code yX1_append cX1_append 3 none, Cond.fieldLink RX1 9 "PrivateCounts$Natural" "limbs" "[I", Cond.methodLink RX2 32 yX1_times, Cond.instanceMethod yX1_times, Cond.selects RX1 yX1_times yX1_times, Cond.code yX1_times cX1_times 5 none, Cond.constantLong RX1 21 (2147483647), Cond.methodLink RX1 23 yX1_trim, Cond.instanceMethod yX1_trim, Cond.selects RX1 yX1_trim yX1_trim, Cond.code yX1_trim cX1_trim 1 none, Cond.methodLink RX1 26 yX1_limbAt, Cond.instanceMethod yX1_limbAt, Cond.selects RX1 yX1_limbAt yX1_limbAt, Cond.code yX1_limbAt cX1_limbAt 2 (some .int), Cond.methodLink RX2 35 yX1_isLess, Cond.static yX1_isLess, Cond.code yX1_isLess cX1_isLess 8 (some .boolean), Cond.methodLink RX2 39 yX1_plusTimes]
def wsX4_isEnough_r3 : List Cond := [Cond.instanceMethod yX1_plusTimes, Cond.selects RX1 yX1_plusTimes yX1_plusTimes, Cond.code yX1_plusTimes cX1_plusTimes 7 none]
def wsX4_isEnough : List Cond := .code yX4_isEnough cX4_isEnough 3 (some .boolean) :: ((wsX4_isEnough_r1 ++ (wsX4_isEnough_r2 ++ wsX4_isEnough_r3)) ++ wsX40 ++ wsX20 ++ wsX30 ++ wsX10 ++ (vx_atS RX4 68 "java/lang/IllegalArgumentException" ["java/lang/RuntimeException", "java/lang/Exception"]).filter goodWord)
def wsX4_least_r1 : List Cond := [Cond.classLink RX4 64 "java/lang/IllegalArgumentException", Cond.initialized "java/lang/IllegalArgumentException", Cond.fieldLink RX4 27 "PrivateCounts" "series" "LPrivateCounts$Series;", Cond.fieldLink RX4 20 "PrivateCounts" "weights" "LPrivateCounts$Table;", Cond.methodLink RX4 124 yX4_isDenominator, Cond.static yX4_isDenominator, Cond.initialized RX4, Cond.code yX4_isDenominator cX4_isDenominator 1 (some .boolean), Cond.methodLink RX4 120 yX2_reaches, Cond.instanceMethod yX2_reaches, Cond.selects RX2 yX2_reaches yX2_reaches, Cond.initialized RX2, Cond.code yX2_reaches cX2_reaches 6 (some .boolean), Cond.fieldLink RX2 10 "PrivateCounts$Series" "missing" "LPrivateCounts$Natural;", Cond.fieldLink RX2 19 "PrivateCounts$Table" "b" "I", Cond.fieldLink RX2 25 "PrivateCounts$Table" "a" "I", Cond.fieldLink RX2 16 "PrivateCounts$Series" "term" "LPrivateCounts$Natural;", Cond.methodLink RX2 28 yX1_become, Cond.instanceMethod yX1_become, Cond.selects RX1 yX1_become yX1_become, Cond.initialized RX1, Cond.code yX1_become cX1_become 2 none, Cond.fieldLink RX1 13 "PrivateCounts$Natural" "size" "I", Cond.methodLink RX1 17 yX1_append]
def wsX4_least_r2 : List Cond := [Cond.instanceMethod yX1_append, Cond.selects RX1 yX1_append yX1_append, Cond.code yX1_append cX1_append 3 none, Cond.fieldLink RX1 9 "PrivateCounts$Natural" "limbs" "[I", Cond.methodLink RX2 32 yX1_times, Cond.instanceMethod yX1_times, Cond.selects RX1 yX1_times yX1_times, Cond.code yX1_times cX1_times 5 none, Cond.constantLong RX1 21 (2147483647), Cond.methodLink RX1 23 yX1_trim, Cond.instanceMethod yX1_trim, Cond.selects RX1 yX1_trim yX1_trim, Cond.code yX1_trim cX1_trim 1 none, Cond.methodLink RX1 26 yX1_limbAt, Cond.instanceMethod yX1_limbAt, Cond.selects RX1 yX1_limbAt yX1_limbAt, Cond.code yX1_limbAt cX1_limbAt 2 (some .int), Cond.methodLink RX2 35 yX1_isLess, Cond.static yX1_isLess, Cond.code yX1_isLess cX1_isLess 8 (some .boolean), Cond.methodLink RX2 39 yX1_plusTimes, Cond.instanceMethod yX1_plusTimes, Cond.selects RX1 yX1_plusTimes yX1_plusTimes, Cond.code yX1_plusTimes cX1_plusTimes 7 none]
def wsX4_least : List Cond := .code yX4_least cX4_least 6 (some .int) :: ((wsX4_least_r1 ++ wsX4_least_r2) ++ wsX40 ++ wsX20 ++ wsX30 ++ wsX10 ++ (vx_atS RX4 68 "java/lang/IllegalArgumentException" ["java/lang/RuntimeException", "java/lang/Exception"]).filter goodWord)
def wsX4_ask_r1 : List Cond := [Cond.classLink RX4 64 "java/lang/IllegalArgumentException", Cond.initialized "java/lang/IllegalArgumentException", Cond.fieldLink RX4 20 "PrivateCounts" "weights" "LPrivateCounts$Table;", Cond.fieldLink RX4 27 "PrivateCounts" "series" "LPrivateCounts$Series;", Cond.fieldLink RX4 47 "PrivateCounts" "refusedForCost" "I", Cond.constant RX4 131 (-2147483648), Cond.fieldLink RX4 41 "PrivateCounts" "left" "LPrivateCounts$Fraction;", Cond.fieldLink RX4 50 "PrivateCounts" "refusedForBudget" "I", Cond.fieldLink RX4 38 "PrivateCounts" "spent" "LPrivateCounts$Fraction;", Cond.fieldLink RX4 44 "PrivateCounts" "answered" "I", Cond.methodLink RX4 115 yX4_isCost, Cond.static yX4_isCost, Cond.initialized RX4, Cond.code yX4_isCost cX4_isCost 2 (some .boolean), Cond.methodLink RX4 124 yX4_isDenominator, Cond.static yX4_isDenominator, Cond.code yX4_isDenominator cX4_isDenominator 1 (some .boolean), Cond.methodLink RX4 88 yX3_hasCoin, Cond.instanceMethod yX3_hasCoin, Cond.selects RX3 yX3_hasCoin yX3_hasCoin, Cond.initialized RX3, Cond.code yX3_hasCoin cX3_hasCoin 3 (some .boolean), Cond.fieldLink RX3 30 "PrivateCounts$Table" "total" "J", Cond.methodLink RX4 120 yX2_reaches]
def wsX4_ask_r2 : List Cond := [Cond.instanceMethod yX2_reaches, Cond.selects RX2 yX2_reaches yX2_reaches, Cond.initialized RX2, Cond.code yX2_reaches cX2_reaches 6 (some .boolean), Cond.fieldLink RX2 10 "PrivateCounts$Series" "missing" "LPrivateCounts$Natural;", Cond.fieldLink RX2 19 "PrivateCounts$Table" "b" "I", Cond.fieldLink RX2 25 "PrivateCounts$Table" "a" "I", Cond.fieldLink RX2 16 "PrivateCounts$Series" "term" "LPrivateCounts$Natural;", Cond.methodLink RX2 28 yX1_become, Cond.instanceMethod yX1_become, Cond.selects RX1 yX1_become yX1_become, Cond.initialized RX1, Cond.code yX1_become cX1_become 2 none, Cond.fieldLink RX1 13 "PrivateCounts$Natural" "size" "I", Cond.methodLink RX1 17 yX1_append, Cond.instanceMethod yX1_append, Cond.selects RX1 yX1_append yX1_append, Cond.code yX1_append cX1_append 3 none, Cond.fieldLink RX1 9 "PrivateCounts$Natural" "limbs" "[I", Cond.methodLink RX2 32 yX1_times, Cond.instanceMethod yX1_times, Cond.selects RX1 yX1_times yX1_times, Cond.code yX1_times cX1_times 5 none, Cond.constantLong RX1 21 (2147483647)]
def wsX4_ask_r3 : List Cond := [Cond.methodLink RX1 23 yX1_trim, Cond.instanceMethod yX1_trim, Cond.selects RX1 yX1_trim yX1_trim, Cond.code yX1_trim cX1_trim 1 none, Cond.methodLink RX1 26 yX1_limbAt, Cond.instanceMethod yX1_limbAt, Cond.selects RX1 yX1_limbAt yX1_limbAt, Cond.code yX1_limbAt cX1_limbAt 2 (some .int), Cond.methodLink RX2 35 yX1_isLess, Cond.static yX1_isLess, Cond.code yX1_isLess cX1_isLess 8 (some .boolean), Cond.methodLink RX2 39 yX1_plusTimes, Cond.instanceMethod yX1_plusTimes, Cond.selects RX1 yX1_plusTimes yX1_plusTimes, Cond.code yX1_plusTimes cX1_plusTimes 7 none, Cond.methodLink RX4 132 yX0_isLessThan, Cond.instanceMethod yX0_isLessThan, Cond.selects RX0 yX0_isLessThan yX0_isLessThan, Cond.initialized RX0, Cond.code yX0_isLessThan cX0_isLessThan 3 (some .boolean), Cond.fieldLink RX0 10 "PrivateCounts$Fraction" "numerator" "LPrivateCounts$Natural;", Cond.fieldLink RX0 16 "PrivateCounts$Fraction" "denominator" "LPrivateCounts$Natural;", Cond.methodLink RX0 34 yX1_isLess, Cond.methodLink RX4 112 yX0_increase]
def wsX4_ask_r4 : List Cond := [Cond.instanceMethod yX0_increase, Cond.selects RX0 yX0_increase yX0_increase, Cond.code yX0_increase cX0_increase 3 none, Cond.methodLink RX0 30 yX0_change, Cond.instanceMethod yX0_change, Cond.selects RX0 yX0_change yX0_change, Cond.code yX0_change cX0_change 9 none, Cond.methodLink RX0 23 yX0_commonDivisor, Cond.static yX0_commonDivisor, Cond.code yX0_commonDivisor cX0_commonDivisor 6 (some .int), Cond.methodLink RX0 38 yX0_quotient, Cond.static yX0_quotient, Cond.code yX0_quotient cX0_quotient 2 (some .int), Cond.methodLink RX0 41 yX1_restBy, Cond.instanceMethod yX1_restBy, Cond.selects RX1 yX1_restBy yX1_restBy, Cond.code yX1_restBy cX1_restBy 5 (some .int), Cond.methodLink RX0 27 yX1_divideBy, Cond.instanceMethod yX1_divideBy, Cond.selects RX1 yX1_divideBy yX1_divideBy, Cond.code yX1_divideBy cX1_divideBy 5 none, Cond.methodLink RX0 45 yX1_times, Cond.methodLink RX0 48 yX1_plusTimes, Cond.methodLink RX4 135 yX0_decrease]
def wsX4_ask_r5 : List Cond := [Cond.instanceMethod yX0_decrease, Cond.selects RX0 yX0_decrease yX0_decrease, Cond.code yX0_decrease cX0_decrease 3 none, Cond.methodLink RX4 138 yX4_count, Cond.instanceMethod yX4_count, Cond.selects RX4 yX4_count yX4_count, Cond.code yX4_count cX4_count 5 (some .int), Cond.fieldLink RX4 13 "PrivateCounts" "rowCount" "I", Cond.fieldLink RX4 9 "PrivateCounts" "rows" "[I", Cond.methodLink RX4 142 yX3_nearestTo, Cond.instanceMethod yX3_nearestTo, Cond.selects RX3 yX3_nearestTo yX3_nearestTo, Cond.code yX3_nearestTo cX3_nearestTo 2 (some .int), Cond.fieldLink RX3 20 "PrivateCounts$Table" "low" "I", Cond.fieldLink RX3 23 "PrivateCounts$Table" "high" "I", Cond.methodLink RX4 94 yX3_outcomeOf, Cond.instanceMethod yX3_outcomeOf, Cond.selects RX3 yX3_outcomeOf yX3_outcomeOf, Cond.code yX3_outcomeOf cX3_outcomeOf 7 (some .int), Cond.methodLink RX3 38 yX3_weightOf, Cond.instanceMethod yX3_weightOf, Cond.selects RX3 yX3_weightOf yX3_weightOf, Cond.code yX3_weightOf cX3_weightOf 5 (some .long), Cond.fieldLink RX3 17 "PrivateCounts$Table" "b" "I"]
def wsX4_ask_r6 : List Cond := [Cond.fieldLink RX3 13 "PrivateCounts$Table" "a" "I", Cond.methodLink RX3 34 yX3_holds, Cond.instanceMethod yX3_holds, Cond.selects RX3 yX3_holds yX3_holds, Cond.code yX3_holds cX3_holds 2 (some .boolean), Cond.methodLink RX3 26 yX3_power, Cond.static yX3_power, Cond.code yX3_power cX3_power 5 (some .long)]
def wsX4_ask : List Cond := .code yX4_ask cX4_ask 7 (some .int) :: ((wsX4_ask_r1 ++ (wsX4_ask_r2 ++ (wsX4_ask_r3 ++ (wsX4_ask_r4 ++ (wsX4_ask_r5 ++ wsX4_ask_r6))))) ++ wsX40 ++ wsX30 ++ wsX20 ++ wsX10 ++ wsX00 ++ (vx_atS RX4 68 "java/lang/IllegalArgumentException" ["java/lang/RuntimeException", "java/lang/Exception"]).filter goodWord)
def wsX4_limb : List Cond := .code yX4_limb cX4_limb 6 (some .int) :: ([.classLink RX4 53 "java/lang/IndexOutOfBoundsException", .initialized "java/lang/IndexOutOfBoundsException", .fieldLink RX4 34 "PrivateCounts" "granted" "LPrivateCounts$Fraction;", .fieldLink RX4 38 "PrivateCounts" "spent" "LPrivateCounts$Fraction;", .fieldLink RX4 41 "PrivateCounts" "left" "LPrivateCounts$Fraction;", .fieldLink RX4 148 "PrivateCounts$Fraction" "numerator" "LPrivateCounts$Natural;", .fieldLink RX4 152 "PrivateCounts$Fraction" "denominator" "LPrivateCounts$Natural;", .fieldLink RX4 155 "PrivateCounts$Natural" "size" "I", .methodLink RX4 160 yX1_limbAt, .instanceMethod yX1_limbAt, .selects RX1 yX1_limbAt yX1_limbAt, .initialized RX1, .code yX1_limbAt cX1_limbAt 2 (some .int), .fieldLink RX1 13 "PrivateCounts$Natural" "size" "I", .fieldLink RX1 9 "PrivateCounts$Natural" "limbs" "[I"] ++ wsX40 ++ wsX00 ++ wsX10 ++ (vx_atS RX4 57 "java/lang/IndexOutOfBoundsException" ["java/lang/RuntimeException", "java/lang/Exception"]).filter goodWord)
def wsX4_told : List Cond := .code yX4_told cX4_told 2 (some .int) :: ([.classLink RX4 53 "java/lang/IndexOutOfBoundsException", .initialized "java/lang/IndexOutOfBoundsException", .fieldLink RX4 44 "PrivateCounts" "answered" "I", .fieldLink RX4 47 "PrivateCounts" "refusedForCost" "I", .fieldLink RX4 50 "PrivateCounts" "refusedForBudget" "I", .fieldLink RX4 13 "PrivateCounts" "rowCount" "I", .fieldLink RX4 20 "PrivateCounts" "weights" "LPrivateCounts$Table;", .fieldLink RX4 163 "PrivateCounts$Table" "low" "I", .fieldLink RX4 166 "PrivateCounts$Table" "high" "I", .fieldLink RX4 169 "PrivateCounts$Table" "a" "I", .fieldLink RX4 172 "PrivateCounts$Table" "b" "I"] ++ wsX40 ++ wsX30 ++ (vx_atS RX4 57 "java/lang/IndexOutOfBoundsException" ["java/lang/RuntimeException", "java/lang/Exception"]).filter goodWord)
def wsX5_trim : List Cond := .code yX5_trim cX5_trim 4 none :: ([.fieldLink RX5 23 "PrivateCountsModel" "figure" "[J", .fieldLink RX5 27 "PrivateCountsModel" "length" "[I"] ++ wsX50)
def wsX5_put : List Cond := .code yX5_put cX5_put 4 none :: ([.fieldLink RX5 23 "PrivateCountsModel" "figure" "[J", .constantLong RX5 49 (2147483647), .methodLink RX5 51 yX5_trim, .instanceMethod yX5_trim, .selects RX5 yX5_trim yX5_trim, .initialized RX5, .code yX5_trim cX5_trim 4 none, .fieldLink RX5 27 "PrivateCountsModel" "length" "[I"] ++ wsX50)
def wsX5_init_r1 : List Cond := [Cond.methodLink RX5 1 objectInit, Cond.instanceMethod objectInit, Cond.code objectInit ⟨#[0xb1]⟩ 1 none, Cond.arrayClass .int, Cond.fieldLink RX5 7 "PrivateCountsModel" "row" "[I", Cond.fieldLink RX5 13 "PrivateCountsModel" "a" "I", Cond.fieldLink RX5 17 "PrivateCountsModel" "b" "I", Cond.fieldLink RX5 20 "PrivateCountsModel" "high" "I", Cond.arrayClass .long, Cond.fieldLink RX5 23 "PrivateCountsModel" "figure" "[J", Cond.fieldLink RX5 27 "PrivateCountsModel" "length" "[I", Cond.fieldLink RX5 30 "PrivateCountsModel" "top" "[J", Cond.fieldLink RX5 33 "PrivateCountsModel" "below" "[J", Cond.fieldLink RX5 36 "PrivateCountsModel" "term" "[I", Cond.fieldLink RX5 39 "PrivateCountsModel" "whole" "[I", Cond.methodLink RX5 42 yX5_put, Cond.instanceMethod yX5_put, Cond.selects RX5 yX5_put yX5_put, Cond.initialized RX5, Cond.code yX5_put cX5_put 4 none, Cond.constantLong RX5 49 (2147483647), Cond.methodLink RX5 51 yX5_trim, Cond.instanceMethod yX5_trim, Cond.selects RX5 yX5_trim yX5_trim]
def wsX5_init_r2 : List Cond := [Cond.code yX5_trim cX5_trim 4 none]
def wsX5_init : List Cond := .code yX5_init cX5_init 2 none :: ((wsX5_init_r1 ++ wsX5_init_r2) ++ wsX50)
def wsX5_thrown : List Cond := .code yX5_thrown cX5_thrown 1 (some .int) :: ([.fieldLink RX5 46 "PrivateCountsModel" "thrown" "I"] ++ wsX50)
def wsX5_copy : List Cond := .code yX5_copy cX5_copy 4 none :: ([.fieldLink RX5 27 "PrivateCountsModel" "length" "[I", .fieldLink RX5 23 "PrivateCountsModel" "figure" "[J"] ++ wsX50)
def wsX5_take : List Cond := .code yX5_take cX5_take 4 none :: ([.fieldLink RX5 23 "PrivateCountsModel" "figure" "[J", .fieldLink RX5 30 "PrivateCountsModel" "top" "[J", .methodLink RX5 51 yX5_trim, .instanceMethod yX5_trim, .selects RX5 yX5_trim yX5_trim, .initialized RX5, .code yX5_trim cX5_trim 4 none, .fieldLink RX5 27 "PrivateCountsModel" "length" "[I"] ++ wsX50)
def wsX5_figureOf : List Cond := .code yX5_figureOf cX5_figureOf 3 (some .long) :: ([.fieldLink RX5 27 "PrivateCountsModel" "length" "[I", .fieldLink RX5 23 "PrivateCountsModel" "figure" "[J"] ++ wsX50)
def wsX5_compare : List Cond := .code yX5_compare cX5_compare 7 (some .int) :: ([.fieldLink RX5 27 "PrivateCountsModel" "length" "[I", .methodLink RX5 55 yX5_figureOf, .instanceMethod yX5_figureOf, .selects RX5 yX5_figureOf yX5_figureOf, .initialized RX5, .code yX5_figureOf cX5_figureOf 3 (some .long), .fieldLink RX5 23 "PrivateCountsModel" "figure" "[J"] ++ wsX50)
def wsX5_plus : List Cond := .code yX5_plus cX5_plus 10 none :: ([.fieldLink RX5 27 "PrivateCountsModel" "length" "[I", .fieldLink RX5 30 "PrivateCountsModel" "top" "[J", .constantLong RX5 49 (2147483647), .methodLink RX5 55 yX5_figureOf, .instanceMethod yX5_figureOf, .selects RX5 yX5_figureOf yX5_figureOf, .initialized RX5, .code yX5_figureOf cX5_figureOf 3 (some .long), .fieldLink RX5 23 "PrivateCountsModel" "figure" "[J", .methodLink RX5 59 yX5_take, .instanceMethod yX5_take, .selects RX5 yX5_take yX5_take, .code yX5_take cX5_take 4 none, .methodLink RX5 51 yX5_trim, .instanceMethod yX5_trim, .selects RX5 yX5_trim yX5_trim, .code yX5_trim cX5_trim 4 none] ++ wsX50)
def wsX5_minus : List Cond := .code yX5_minus cX5_minus 10 none :: ([.fieldLink RX5 27 "PrivateCountsModel" "length" "[I", .fieldLink RX5 30 "PrivateCountsModel" "top" "[J", .constantLong RX5 49 (2147483647), .methodLink RX5 55 yX5_figureOf, .instanceMethod yX5_figureOf, .selects RX5 yX5_figureOf yX5_figureOf, .initialized RX5, .code yX5_figureOf cX5_figureOf 3 (some .long), .fieldLink RX5 23 "PrivateCountsModel" "figure" "[J", .methodLink RX5 59 yX5_take, .instanceMethod yX5_take, .selects RX5 yX5_take yX5_take, .code yX5_take cX5_take 4 none, .methodLink RX5 51 yX5_trim, .instanceMethod yX5_trim, .selects RX5 yX5_trim yX5_trim, .code yX5_trim cX5_trim 4 none] ++ wsX50)
def wsX5_times : List Cond := .code yX5_times cX5_times 11 none :: ([.fieldLink RX5 27 "PrivateCountsModel" "length" "[I", .fieldLink RX5 30 "PrivateCountsModel" "top" "[J", .fieldLink RX5 23 "PrivateCountsModel" "figure" "[J", .constantLong RX5 49 (2147483647), .methodLink RX5 59 yX5_take, .instanceMethod yX5_take, .selects RX5 yX5_take yX5_take, .initialized RX5, .code yX5_take cX5_take 4 none, .methodLink RX5 51 yX5_trim, .instanceMethod yX5_trim, .selects RX5 yX5_trim yX5_trim, .code yX5_trim cX5_trim 4 none] ++ wsX50)
def wsX5_divide : List Cond := .code yX5_divide cX5_divide 17 none :: ([.fieldLink RX5 27 "PrivateCountsModel" "length" "[I", .fieldLink RX5 30 "PrivateCountsModel" "top" "[J", .fieldLink RX5 33 "PrivateCountsModel" "below" "[J", .fieldLink RX5 23 "PrivateCountsModel" "figure" "[J", .constantLong RX5 49 (2147483647), .methodLink RX5 55 yX5_figureOf, .instanceMethod yX5_figureOf, .selects RX5 yX5_figureOf yX5_figureOf, .initialized RX5, .code yX5_figureOf cX5_figureOf 3 (some .long), .methodLink RX5 51 yX5_trim, .instanceMethod yX5_trim, .selects RX5 yX5_trim yX5_trim, .code yX5_trim cX5_trim 4 none, .methodLink RX5 59 yX5_take, .instanceMethod yX5_take, .selects RX5 yX5_take yX5_take, .code yX5_take cX5_take 4 none] ++ wsX50)
def wsX5_halve : List Cond := .code yX5_halve cX5_halve 7 none :: ([.fieldLink RX5 27 "PrivateCountsModel" "length" "[I", .fieldLink RX5 23 "PrivateCountsModel" "figure" "[J", .methodLink RX5 51 yX5_trim, .instanceMethod yX5_trim, .selects RX5 yX5_trim yX5_trim, .initialized RX5, .code yX5_trim cX5_trim 4 none] ++ wsX50)
def wsX5_divisor_r1 : List Cond := [Cond.fieldLink RX5 27 "PrivateCountsModel" "length" "[I", Cond.fieldLink RX5 23 "PrivateCountsModel" "figure" "[J", Cond.constantLong RX5 65 (2), Cond.methodLink RX5 62 yX5_copy, Cond.instanceMethod yX5_copy, Cond.selects RX5 yX5_copy yX5_copy, Cond.initialized RX5, Cond.code yX5_copy cX5_copy 4 none, Cond.methodLink RX5 67 yX5_halve, Cond.instanceMethod yX5_halve, Cond.selects RX5 yX5_halve yX5_halve, Cond.code yX5_halve cX5_halve 7 none, Cond.methodLink RX5 51 yX5_trim, Cond.instanceMethod yX5_trim, Cond.selects RX5 yX5_trim yX5_trim, Cond.code yX5_trim cX5_trim 4 none, Cond.methodLink RX5 71 yX5_compare, Cond.instanceMethod yX5_compare, Cond.selects RX5 yX5_compare yX5_compare, Cond.code yX5_compare cX5_compare 7 (some .int), Cond.methodLink RX5 55 yX5_figureOf, Cond.instanceMethod yX5_figureOf, Cond.selects RX5 yX5_figureOf yX5_figureOf, Cond.code yX5_figureOf cX5_figureOf 3 (some .long)]
def wsX5_divisor_r2 : List Cond := [Cond.methodLink RX5 75 yX5_minus, Cond.instanceMethod yX5_minus, Cond.selects RX5 yX5_minus yX5_minus, Cond.code yX5_minus cX5_minus 10 none, Cond.fieldLink RX5 30 "PrivateCountsModel" "top" "[J", Cond.constantLong RX5 49 (2147483647), Cond.methodLink RX5 59 yX5_take, Cond.instanceMethod yX5_take, Cond.selects RX5 yX5_take yX5_take, Cond.code yX5_take cX5_take 4 none, Cond.methodLink RX5 79 yX5_plus, Cond.instanceMethod yX5_plus, Cond.selects RX5 yX5_plus yX5_plus, Cond.code yX5_plus cX5_plus 10 none]
def wsX5_divisor : List Cond := .code yX5_divisor cX5_divisor 5 none :: ((wsX5_divisor_r1 ++ wsX5_divisor_r2) ++ wsX50)
def wsX5_lowest_r1 : List Cond := [Cond.fieldLink RX5 27 "PrivateCountsModel" "length" "[I", Cond.methodLink RX5 42 yX5_put, Cond.instanceMethod yX5_put, Cond.selects RX5 yX5_put yX5_put, Cond.initialized RX5, Cond.code yX5_put cX5_put 4 none, Cond.fieldLink RX5 23 "PrivateCountsModel" "figure" "[J", Cond.constantLong RX5 49 (2147483647), Cond.methodLink RX5 51 yX5_trim, Cond.instanceMethod yX5_trim, Cond.selects RX5 yX5_trim yX5_trim, Cond.code yX5_trim cX5_trim 4 none, Cond.methodLink RX5 82 yX5_divisor, Cond.instanceMethod yX5_divisor, Cond.selects RX5 yX5_divisor yX5_divisor, Cond.code yX5_divisor cX5_divisor 5 none, Cond.constantLong RX5 65 (2), Cond.methodLink RX5 62 yX5_copy, Cond.instanceMethod yX5_copy, Cond.selects RX5 yX5_copy yX5_copy, Cond.code yX5_copy cX5_copy 4 none, Cond.methodLink RX5 67 yX5_halve, Cond.instanceMethod yX5_halve, Cond.selects RX5 yX5_halve yX5_halve]
def wsX5_lowest_r2 : List Cond := [Cond.code yX5_halve cX5_halve 7 none, Cond.methodLink RX5 71 yX5_compare, Cond.instanceMethod yX5_compare, Cond.selects RX5 yX5_compare yX5_compare, Cond.code yX5_compare cX5_compare 7 (some .int), Cond.methodLink RX5 55 yX5_figureOf, Cond.instanceMethod yX5_figureOf, Cond.selects RX5 yX5_figureOf yX5_figureOf, Cond.code yX5_figureOf cX5_figureOf 3 (some .long), Cond.methodLink RX5 75 yX5_minus, Cond.instanceMethod yX5_minus, Cond.selects RX5 yX5_minus yX5_minus, Cond.code yX5_minus cX5_minus 10 none, Cond.fieldLink RX5 30 "PrivateCountsModel" "top" "[J", Cond.methodLink RX5 59 yX5_take, Cond.instanceMethod yX5_take, Cond.selects RX5 yX5_take yX5_take, Cond.code yX5_take cX5_take 4 none, Cond.methodLink RX5 79 yX5_plus, Cond.instanceMethod yX5_plus, Cond.selects RX5 yX5_plus yX5_plus, Cond.code yX5_plus cX5_plus 10 none, Cond.methodLink RX5 85 yX5_divide, Cond.instanceMethod yX5_divide]
def wsX5_lowest_r3 : List Cond := [Cond.selects RX5 yX5_divide yX5_divide, Cond.code yX5_divide cX5_divide 17 none, Cond.fieldLink RX5 33 "PrivateCountsModel" "below" "[J"]
def wsX5_lowest : List Cond := .code yX5_lowest cX5_lowest 4 none :: ((wsX5_lowest_r1 ++ (wsX5_lowest_r2 ++ wsX5_lowest_r3)) ++ wsX50)
def wsX5_set_r1 : List Cond := [Cond.methodLink RX5 42 yX5_put, Cond.instanceMethod yX5_put, Cond.selects RX5 yX5_put yX5_put, Cond.initialized RX5, Cond.code yX5_put cX5_put 4 none, Cond.fieldLink RX5 23 "PrivateCountsModel" "figure" "[J", Cond.constantLong RX5 49 (2147483647), Cond.methodLink RX5 51 yX5_trim, Cond.instanceMethod yX5_trim, Cond.selects RX5 yX5_trim yX5_trim, Cond.code yX5_trim cX5_trim 4 none, Cond.fieldLink RX5 27 "PrivateCountsModel" "length" "[I", Cond.methodLink RX5 89 yX5_lowest, Cond.instanceMethod yX5_lowest, Cond.selects RX5 yX5_lowest yX5_lowest, Cond.code yX5_lowest cX5_lowest 4 none, Cond.methodLink RX5 82 yX5_divisor, Cond.instanceMethod yX5_divisor, Cond.selects RX5 yX5_divisor yX5_divisor, Cond.code yX5_divisor cX5_divisor 5 none, Cond.constantLong RX5 65 (2), Cond.methodLink RX5 62 yX5_copy, Cond.instanceMethod yX5_copy, Cond.selects RX5 yX5_copy yX5_copy]
def wsX5_set_r2 : List Cond := [Cond.code yX5_copy cX5_copy 4 none, Cond.methodLink RX5 67 yX5_halve, Cond.instanceMethod yX5_halve, Cond.selects RX5 yX5_halve yX5_halve, Cond.code yX5_halve cX5_halve 7 none, Cond.methodLink RX5 71 yX5_compare, Cond.instanceMethod yX5_compare, Cond.selects RX5 yX5_compare yX5_compare, Cond.code yX5_compare cX5_compare 7 (some .int), Cond.methodLink RX5 55 yX5_figureOf, Cond.instanceMethod yX5_figureOf, Cond.selects RX5 yX5_figureOf yX5_figureOf, Cond.code yX5_figureOf cX5_figureOf 3 (some .long), Cond.methodLink RX5 75 yX5_minus, Cond.instanceMethod yX5_minus, Cond.selects RX5 yX5_minus yX5_minus, Cond.code yX5_minus cX5_minus 10 none, Cond.fieldLink RX5 30 "PrivateCountsModel" "top" "[J", Cond.methodLink RX5 59 yX5_take, Cond.instanceMethod yX5_take, Cond.selects RX5 yX5_take yX5_take, Cond.code yX5_take cX5_take 4 none, Cond.methodLink RX5 79 yX5_plus, Cond.instanceMethod yX5_plus]
def wsX5_set_r3 : List Cond := [Cond.selects RX5 yX5_plus yX5_plus, Cond.code yX5_plus cX5_plus 10 none, Cond.methodLink RX5 85 yX5_divide, Cond.instanceMethod yX5_divide, Cond.selects RX5 yX5_divide yX5_divide, Cond.code yX5_divide cX5_divide 17 none, Cond.fieldLink RX5 33 "PrivateCountsModel" "below" "[J"]
def wsX5_set : List Cond := .code yX5_set cX5_set 4 none :: ((wsX5_set_r1 ++ (wsX5_set_r2 ++ wsX5_set_r3)) ++ wsX50)
def wsX5_cross : List Cond := .code yX5_cross cX5_cross 3 none :: ([.methodLink RX5 92 yX5_times, .instanceMethod yX5_times, .selects RX5 yX5_times yX5_times, .initialized RX5, .code yX5_times cX5_times 11 none, .fieldLink RX5 27 "PrivateCountsModel" "length" "[I", .fieldLink RX5 30 "PrivateCountsModel" "top" "[J", .fieldLink RX5 23 "PrivateCountsModel" "figure" "[J", .constantLong RX5 49 (2147483647), .methodLink RX5 59 yX5_take, .instanceMethod yX5_take, .selects RX5 yX5_take yX5_take, .code yX5_take cX5_take 4 none, .methodLink RX5 51 yX5_trim, .instanceMethod yX5_trim, .selects RX5 yX5_trim yX5_trim, .code yX5_trim cX5_trim 4 none] ++ wsX50)
def wsX5_add0_r1 : List Cond := [Cond.methodLink RX5 95 yX5_cross, Cond.instanceMethod yX5_cross, Cond.selects RX5 yX5_cross yX5_cross, Cond.initialized RX5, Cond.code yX5_cross cX5_cross 3 none, Cond.methodLink RX5 92 yX5_times, Cond.instanceMethod yX5_times, Cond.selects RX5 yX5_times yX5_times, Cond.code yX5_times cX5_times 11 none, Cond.fieldLink RX5 27 "PrivateCountsModel" "length" "[I", Cond.fieldLink RX5 30 "PrivateCountsModel" "top" "[J", Cond.fieldLink RX5 23 "PrivateCountsModel" "figure" "[J", Cond.constantLong RX5 49 (2147483647), Cond.methodLink RX5 59 yX5_take, Cond.instanceMethod yX5_take, Cond.selects RX5 yX5_take yX5_take, Cond.code yX5_take cX5_take 4 none, Cond.methodLink RX5 51 yX5_trim, Cond.instanceMethod yX5_trim, Cond.selects RX5 yX5_trim yX5_trim, Cond.code yX5_trim cX5_trim 4 none, Cond.methodLink RX5 79 yX5_plus, Cond.instanceMethod yX5_plus, Cond.selects RX5 yX5_plus yX5_plus]
def wsX5_add0_r2 : List Cond := [Cond.code yX5_plus cX5_plus 10 none, Cond.methodLink RX5 55 yX5_figureOf, Cond.instanceMethod yX5_figureOf, Cond.selects RX5 yX5_figureOf yX5_figureOf, Cond.code yX5_figureOf cX5_figureOf 3 (some .long), Cond.methodLink RX5 62 yX5_copy, Cond.instanceMethod yX5_copy, Cond.selects RX5 yX5_copy yX5_copy, Cond.code yX5_copy cX5_copy 4 none, Cond.methodLink RX5 89 yX5_lowest, Cond.instanceMethod yX5_lowest, Cond.selects RX5 yX5_lowest yX5_lowest, Cond.code yX5_lowest cX5_lowest 4 none, Cond.methodLink RX5 42 yX5_put, Cond.instanceMethod yX5_put, Cond.selects RX5 yX5_put yX5_put, Cond.code yX5_put cX5_put 4 none, Cond.methodLink RX5 82 yX5_divisor, Cond.instanceMethod yX5_divisor, Cond.selects RX5 yX5_divisor yX5_divisor, Cond.code yX5_divisor cX5_divisor 5 none, Cond.constantLong RX5 65 (2), Cond.methodLink RX5 67 yX5_halve, Cond.instanceMethod yX5_halve]
def wsX5_add0_r3 : List Cond := [Cond.selects RX5 yX5_halve yX5_halve, Cond.code yX5_halve cX5_halve 7 none, Cond.methodLink RX5 71 yX5_compare, Cond.instanceMethod yX5_compare, Cond.selects RX5 yX5_compare yX5_compare, Cond.code yX5_compare cX5_compare 7 (some .int), Cond.methodLink RX5 75 yX5_minus, Cond.instanceMethod yX5_minus, Cond.selects RX5 yX5_minus yX5_minus, Cond.code yX5_minus cX5_minus 10 none, Cond.methodLink RX5 85 yX5_divide, Cond.instanceMethod yX5_divide, Cond.selects RX5 yX5_divide yX5_divide, Cond.code yX5_divide cX5_divide 17 none, Cond.fieldLink RX5 33 "PrivateCountsModel" "below" "[J"]
def wsX5_add0 : List Cond := .code yX5_add0 cX5_add0 4 none :: ((wsX5_add0_r1 ++ (wsX5_add0_r2 ++ wsX5_add0_r3)) ++ wsX50)
def wsX5_subtract_r1 : List Cond := [Cond.methodLink RX5 95 yX5_cross, Cond.instanceMethod yX5_cross, Cond.selects RX5 yX5_cross yX5_cross, Cond.initialized RX5, Cond.code yX5_cross cX5_cross 3 none, Cond.methodLink RX5 92 yX5_times, Cond.instanceMethod yX5_times, Cond.selects RX5 yX5_times yX5_times, Cond.code yX5_times cX5_times 11 none, Cond.fieldLink RX5 27 "PrivateCountsModel" "length" "[I", Cond.fieldLink RX5 30 "PrivateCountsModel" "top" "[J", Cond.fieldLink RX5 23 "PrivateCountsModel" "figure" "[J", Cond.constantLong RX5 49 (2147483647), Cond.methodLink RX5 59 yX5_take, Cond.instanceMethod yX5_take, Cond.selects RX5 yX5_take yX5_take, Cond.code yX5_take cX5_take 4 none, Cond.methodLink RX5 51 yX5_trim, Cond.instanceMethod yX5_trim, Cond.selects RX5 yX5_trim yX5_trim, Cond.code yX5_trim cX5_trim 4 none, Cond.methodLink RX5 75 yX5_minus, Cond.instanceMethod yX5_minus, Cond.selects RX5 yX5_minus yX5_minus]
def wsX5_subtract_r2 : List Cond := [Cond.code yX5_minus cX5_minus 10 none, Cond.methodLink RX5 55 yX5_figureOf, Cond.instanceMethod yX5_figureOf, Cond.selects RX5 yX5_figureOf yX5_figureOf, Cond.code yX5_figureOf cX5_figureOf 3 (some .long), Cond.methodLink RX5 62 yX5_copy, Cond.instanceMethod yX5_copy, Cond.selects RX5 yX5_copy yX5_copy, Cond.code yX5_copy cX5_copy 4 none, Cond.methodLink RX5 89 yX5_lowest, Cond.instanceMethod yX5_lowest, Cond.selects RX5 yX5_lowest yX5_lowest, Cond.code yX5_lowest cX5_lowest 4 none, Cond.methodLink RX5 42 yX5_put, Cond.instanceMethod yX5_put, Cond.selects RX5 yX5_put yX5_put, Cond.code yX5_put cX5_put 4 none, Cond.methodLink RX5 82 yX5_divisor, Cond.instanceMethod yX5_divisor, Cond.selects RX5 yX5_divisor yX5_divisor, Cond.code yX5_divisor cX5_divisor 5 none, Cond.constantLong RX5 65 (2), Cond.methodLink RX5 67 yX5_halve, Cond.instanceMethod yX5_halve]
def wsX5_subtract_r3 : List Cond := [Cond.selects RX5 yX5_halve yX5_halve, Cond.code yX5_halve cX5_halve 7 none, Cond.methodLink RX5 71 yX5_compare, Cond.instanceMethod yX5_compare, Cond.selects RX5 yX5_compare yX5_compare, Cond.code yX5_compare cX5_compare 7 (some .int), Cond.methodLink RX5 79 yX5_plus, Cond.instanceMethod yX5_plus, Cond.selects RX5 yX5_plus yX5_plus, Cond.code yX5_plus cX5_plus 10 none, Cond.methodLink RX5 85 yX5_divide, Cond.instanceMethod yX5_divide, Cond.selects RX5 yX5_divide yX5_divide, Cond.code yX5_divide cX5_divide 17 none, Cond.fieldLink RX5 33 "PrivateCountsModel" "below" "[J"]
def wsX5_subtract : List Cond := .code yX5_subtract cX5_subtract 4 none :: ((wsX5_subtract_r1 ++ (wsX5_subtract_r2 ++ wsX5_subtract_r3)) ++ wsX50)
def wsX5_isMore_r1 : List Cond := [Cond.methodLink RX5 95 yX5_cross, Cond.instanceMethod yX5_cross, Cond.selects RX5 yX5_cross yX5_cross, Cond.initialized RX5, Cond.code yX5_cross cX5_cross 3 none, Cond.methodLink RX5 92 yX5_times, Cond.instanceMethod yX5_times, Cond.selects RX5 yX5_times yX5_times, Cond.code yX5_times cX5_times 11 none, Cond.fieldLink RX5 27 "PrivateCountsModel" "length" "[I", Cond.fieldLink RX5 30 "PrivateCountsModel" "top" "[J", Cond.fieldLink RX5 23 "PrivateCountsModel" "figure" "[J", Cond.constantLong RX5 49 (2147483647), Cond.methodLink RX5 59 yX5_take, Cond.instanceMethod yX5_take, Cond.selects RX5 yX5_take yX5_take, Cond.code yX5_take cX5_take 4 none, Cond.methodLink RX5 51 yX5_trim, Cond.instanceMethod yX5_trim, Cond.selects RX5 yX5_trim yX5_trim, Cond.code yX5_trim cX5_trim 4 none, Cond.methodLink RX5 71 yX5_compare, Cond.instanceMethod yX5_compare, Cond.selects RX5 yX5_compare yX5_compare]
def wsX5_isMore_r2 : List Cond := [Cond.code yX5_compare cX5_compare 7 (some .int), Cond.methodLink RX5 55 yX5_figureOf, Cond.instanceMethod yX5_figureOf, Cond.selects RX5 yX5_figureOf yX5_figureOf, Cond.code yX5_figureOf cX5_figureOf 3 (some .long)]
def wsX5_isMore : List Cond := .code yX5_isMore cX5_isMore 3 (some .boolean) :: ((wsX5_isMore_r1 ++ wsX5_isMore_r2) ++ wsX50)
def wsX5_add : List Cond := .code yX5_add cX5_add 2 (some .int) :: ([.fieldLink RX5 46 "PrivateCountsModel" "thrown" "I", .fieldLink RX5 98 "PrivateCountsModel" "rows" "I", .fieldLink RX5 7 "PrivateCountsModel" "row" "[I"] ++ wsX50)
def wsX5_remove : List Cond := .code yX5_remove cX5_remove 4 (some .int) :: ([.fieldLink RX5 98 "PrivateCountsModel" "rows" "I", .fieldLink RX5 46 "PrivateCountsModel" "thrown" "I", .fieldLink RX5 7 "PrivateCountsModel" "row" "[I"] ++ wsX50)
def wsX5_countRows : List Cond := .code yX5_countRows cX5_countRows 5 (some .int) :: ([.fieldLink RX5 98 "PrivateCountsModel" "rows" "I", .fieldLink RX5 7 "PrivateCountsModel" "row" "[I"] ++ wsX50)
def wsX5_count : List Cond := .code yX5_count cX5_count 3 (some .int) :: ([.fieldLink RX5 46 "PrivateCountsModel" "thrown" "I", .methodLink RX5 101 yX5_countRows, .instanceMethod yX5_countRows, .selects RX5 yX5_countRows yX5_countRows, .initialized RX5, .code yX5_countRows cX5_countRows 5 (some .int), .fieldLink RX5 98 "PrivateCountsModel" "rows" "I", .fieldLink RX5 7 "PrivateCountsModel" "row" "[I"] ++ wsX50)
def wsX5_power : List Cond := .code yX5_power cX5_power 6 (some .long) :: ([])
def wsX5_allOf : List Cond := .code yX5_allOf cX5_allOf 1 (some .long) :: ([.fieldLink RX5 13 "PrivateCountsModel" "a" "I", .fieldLink RX5 17 "PrivateCountsModel" "b" "I", .fieldLink RX5 20 "PrivateCountsModel" "high" "I", .fieldLink RX5 104 "PrivateCountsModel" "low" "I", .methodLink RX5 107 yX5_power, .static yX5_power, .initialized RX5, .code yX5_power cX5_power 6 (some .long)] ++ wsX50)
def wsX5_table : List Cond := .code yX5_table cX5_table 6 (some .long) :: ([.fieldLink RX5 46 "PrivateCountsModel" "thrown" "I", .fieldLink RX5 13 "PrivateCountsModel" "a" "I", .fieldLink RX5 17 "PrivateCountsModel" "b" "I", .fieldLink RX5 104 "PrivateCountsModel" "low" "I", .fieldLink RX5 20 "PrivateCountsModel" "high" "I", .methodLink RX5 111 yX5_allOf, .instanceMethod yX5_allOf, .selects RX5 yX5_allOf yX5_allOf, .initialized RX5, .code yX5_allOf cX5_allOf 1 (some .long), .methodLink RX5 107 yX5_power, .static yX5_power, .code yX5_power cX5_power 6 (some .long)] ++ wsX50)
def wsX5_all : List Cond := .code yX5_all cX5_all 1 (some .long) :: ([.fieldLink RX5 46 "PrivateCountsModel" "thrown" "I", .methodLink RX5 111 yX5_allOf, .instanceMethod yX5_allOf, .selects RX5 yX5_allOf yX5_allOf, .initialized RX5, .code yX5_allOf cX5_allOf 1 (some .long), .fieldLink RX5 13 "PrivateCountsModel" "a" "I", .fieldLink RX5 17 "PrivateCountsModel" "b" "I", .fieldLink RX5 20 "PrivateCountsModel" "high" "I", .fieldLink RX5 104 "PrivateCountsModel" "low" "I", .methodLink RX5 107 yX5_power, .static yX5_power, .code yX5_power cX5_power 6 (some .long)] ++ wsX50)
def wsX5_isOut : List Cond := .code yX5_isOut cX5_isOut 2 (some .boolean) :: ([.fieldLink RX5 104 "PrivateCountsModel" "low" "I", .fieldLink RX5 20 "PrivateCountsModel" "high" "I"] ++ wsX50)
def wsX5_weightOf : List Cond := .code yX5_weightOf cX5_weightOf 6 (some .long) :: ([.fieldLink RX5 104 "PrivateCountsModel" "low" "I", .fieldLink RX5 20 "PrivateCountsModel" "high" "I", .fieldLink RX5 17 "PrivateCountsModel" "b" "I", .fieldLink RX5 13 "PrivateCountsModel" "a" "I", .methodLink RX5 115 yX5_isOut, .instanceMethod yX5_isOut, .selects RX5 yX5_isOut yX5_isOut, .initialized RX5, .code yX5_isOut cX5_isOut 2 (some .boolean), .methodLink RX5 111 yX5_allOf, .instanceMethod yX5_allOf, .selects RX5 yX5_allOf yX5_allOf, .code yX5_allOf cX5_allOf 1 (some .long), .methodLink RX5 107 yX5_power, .static yX5_power, .code yX5_power cX5_power 6 (some .long)] ++ wsX50)
def wsX5_weight : List Cond := .code yX5_weight cX5_weight 3 (some .long) :: ([.fieldLink RX5 46 "PrivateCountsModel" "thrown" "I", .methodLink RX5 119 yX5_weightOf, .instanceMethod yX5_weightOf, .selects RX5 yX5_weightOf yX5_weightOf, .initialized RX5, .code yX5_weightOf cX5_weightOf 6 (some .long), .fieldLink RX5 104 "PrivateCountsModel" "low" "I", .fieldLink RX5 20 "PrivateCountsModel" "high" "I", .fieldLink RX5 17 "PrivateCountsModel" "b" "I", .fieldLink RX5 13 "PrivateCountsModel" "a" "I", .methodLink RX5 115 yX5_isOut, .instanceMethod yX5_isOut, .selects RX5 yX5_isOut yX5_isOut, .code yX5_isOut cX5_isOut 2 (some .boolean), .methodLink RX5 111 yX5_allOf, .instanceMethod yX5_allOf, .selects RX5 yX5_allOf yX5_allOf, .code yX5_allOf cX5_allOf 1 (some .long), .methodLink RX5 107 yX5_power, .static yX5_power, .code yX5_power cX5_power 6 (some .long)] ++ wsX50)
def wsX5_upTo : List Cond := .code yX5_upTo cX5_upTo 6 (some .long) :: ([.fieldLink RX5 46 "PrivateCountsModel" "thrown" "I", .fieldLink RX5 104 "PrivateCountsModel" "low" "I", .fieldLink RX5 20 "PrivateCountsModel" "high" "I", .methodLink RX5 119 yX5_weightOf, .instanceMethod yX5_weightOf, .selects RX5 yX5_weightOf yX5_weightOf, .initialized RX5, .code yX5_weightOf cX5_weightOf 6 (some .long), .fieldLink RX5 17 "PrivateCountsModel" "b" "I", .fieldLink RX5 13 "PrivateCountsModel" "a" "I", .methodLink RX5 115 yX5_isOut, .instanceMethod yX5_isOut, .selects RX5 yX5_isOut yX5_isOut, .code yX5_isOut cX5_isOut 2 (some .boolean), .methodLink RX5 111 yX5_allOf, .instanceMethod yX5_allOf, .selects RX5 yX5_allOf yX5_allOf, .code yX5_allOf cX5_allOf 1 (some .long), .methodLink RX5 107 yX5_power, .static yX5_power, .code yX5_power cX5_power 6 (some .long)] ++ wsX50)
def wsX5_drawn : List Cond := .code yX5_drawn cX5_drawn 7 (some .int) :: ([.fieldLink RX5 104 "PrivateCountsModel" "low" "I", .methodLink RX5 119 yX5_weightOf, .instanceMethod yX5_weightOf, .selects RX5 yX5_weightOf yX5_weightOf, .initialized RX5, .code yX5_weightOf cX5_weightOf 6 (some .long), .fieldLink RX5 20 "PrivateCountsModel" "high" "I", .fieldLink RX5 17 "PrivateCountsModel" "b" "I", .fieldLink RX5 13 "PrivateCountsModel" "a" "I", .methodLink RX5 115 yX5_isOut, .instanceMethod yX5_isOut, .selects RX5 yX5_isOut yX5_isOut, .code yX5_isOut cX5_isOut 2 (some .boolean), .methodLink RX5 111 yX5_allOf, .instanceMethod yX5_allOf, .selects RX5 yX5_allOf yX5_allOf, .code yX5_allOf cX5_allOf 1 (some .long), .methodLink RX5 107 yX5_power, .static yX5_power, .code yX5_power cX5_power 6 (some .long)] ++ wsX50)
def wsX5_noCoin : List Cond := .code yX5_noCoin cX5_noCoin 3 (some .boolean) :: ([.methodLink RX5 111 yX5_allOf, .instanceMethod yX5_allOf, .selects RX5 yX5_allOf yX5_allOf, .initialized RX5, .code yX5_allOf cX5_allOf 1 (some .long), .fieldLink RX5 13 "PrivateCountsModel" "a" "I", .fieldLink RX5 17 "PrivateCountsModel" "b" "I", .fieldLink RX5 20 "PrivateCountsModel" "high" "I", .fieldLink RX5 104 "PrivateCountsModel" "low" "I", .methodLink RX5 107 yX5_power, .static yX5_power, .code yX5_power cX5_power 6 (some .long)] ++ wsX50)
def wsX5_draw_r1 : List Cond := [Cond.fieldLink RX5 46 "PrivateCountsModel" "thrown" "I", Cond.methodLink RX5 115 yX5_isOut, Cond.instanceMethod yX5_isOut, Cond.selects RX5 yX5_isOut yX5_isOut, Cond.initialized RX5, Cond.code yX5_isOut cX5_isOut 2 (some .boolean), Cond.fieldLink RX5 104 "PrivateCountsModel" "low" "I", Cond.fieldLink RX5 20 "PrivateCountsModel" "high" "I", Cond.methodLink RX5 122 yX5_noCoin, Cond.instanceMethod yX5_noCoin, Cond.selects RX5 yX5_noCoin yX5_noCoin, Cond.code yX5_noCoin cX5_noCoin 3 (some .boolean), Cond.methodLink RX5 111 yX5_allOf, Cond.instanceMethod yX5_allOf, Cond.selects RX5 yX5_allOf yX5_allOf, Cond.code yX5_allOf cX5_allOf 1 (some .long), Cond.fieldLink RX5 13 "PrivateCountsModel" "a" "I", Cond.fieldLink RX5 17 "PrivateCountsModel" "b" "I", Cond.methodLink RX5 107 yX5_power, Cond.static yX5_power, Cond.code yX5_power cX5_power 6 (some .long), Cond.methodLink RX5 126 yX5_drawn, Cond.instanceMethod yX5_drawn, Cond.selects RX5 yX5_drawn yX5_drawn]
def wsX5_draw_r2 : List Cond := [Cond.code yX5_drawn cX5_drawn 7 (some .int), Cond.methodLink RX5 119 yX5_weightOf, Cond.instanceMethod yX5_weightOf, Cond.selects RX5 yX5_weightOf yX5_weightOf, Cond.code yX5_weightOf cX5_weightOf 6 (some .long)]
def wsX5_draw : List Cond := .code yX5_draw cX5_draw 4 (some .int) :: ((wsX5_draw_r1 ++ wsX5_draw_r2) ++ wsX50)
def wsX5_isNear : List Cond := .code yX5_isNear cX5_isNear 5 (some .boolean) :: ([.fieldLink RX5 46 "PrivateCountsModel" "thrown" "I", .fieldLink RX5 104 "PrivateCountsModel" "low" "I", .fieldLink RX5 20 "PrivateCountsModel" "high" "I", .fieldLink RX5 13 "PrivateCountsModel" "a" "I", .fieldLink RX5 17 "PrivateCountsModel" "b" "I", .methodLink RX5 115 yX5_isOut, .instanceMethod yX5_isOut, .selects RX5 yX5_isOut yX5_isOut, .initialized RX5, .code yX5_isOut cX5_isOut 2 (some .boolean), .methodLink RX5 119 yX5_weightOf, .instanceMethod yX5_weightOf, .selects RX5 yX5_weightOf yX5_weightOf, .code yX5_weightOf cX5_weightOf 6 (some .long), .methodLink RX5 111 yX5_allOf, .instanceMethod yX5_allOf, .selects RX5 yX5_allOf yX5_allOf, .code yX5_allOf cX5_allOf 1 (some .long), .methodLink RX5 107 yX5_power, .static yX5_power, .code yX5_power cX5_power 6 (some .long)] ++ wsX50)
def wsX5_reaches : List Cond := .code yX5_reaches cX5_reaches 8 (some .boolean) :: ([.fieldLink RX5 13 "PrivateCountsModel" "a" "I", .fieldLink RX5 39 "PrivateCountsModel" "whole" "[I", .constantLong RX5 130 (65535), .fieldLink RX5 17 "PrivateCountsModel" "b" "I"] ++ wsX50)
def wsX5_enough : List Cond := .code yX5_enough cX5_enough 13 (some .boolean) :: ([.fieldLink RX5 36 "PrivateCountsModel" "term" "[I", .fieldLink RX5 39 "PrivateCountsModel" "whole" "[I", .constant RX5 132 (65535), .constantLong RX5 130 (65535), .constantLong RX5 133 (65536), .methodLink RX5 135 yX5_reaches, .instanceMethod yX5_reaches, .selects RX5 yX5_reaches yX5_reaches, .initialized RX5, .code yX5_reaches cX5_reaches 8 (some .boolean), .fieldLink RX5 13 "PrivateCountsModel" "a" "I", .fieldLink RX5 17 "PrivateCountsModel" "b" "I"] ++ wsX50)
def wsX5_noCost : List Cond := .code yX5_noCost cX5_noCost 2 (some .boolean) :: ([])
def wsX5_isEnough : List Cond := .code yX5_isEnough cX5_isEnough 3 (some .boolean) :: ([.fieldLink RX5 46 "PrivateCountsModel" "thrown" "I", .methodLink RX5 139 yX5_noCost, .static yX5_noCost, .initialized RX5, .code yX5_noCost cX5_noCost 2 (some .boolean), .methodLink RX5 143 yX5_enough, .instanceMethod yX5_enough, .selects RX5 yX5_enough yX5_enough, .code yX5_enough cX5_enough 13 (some .boolean), .fieldLink RX5 36 "PrivateCountsModel" "term" "[I", .fieldLink RX5 39 "PrivateCountsModel" "whole" "[I", .constant RX5 132 (65535), .constantLong RX5 130 (65535), .constantLong RX5 133 (65536), .methodLink RX5 135 yX5_reaches, .instanceMethod yX5_reaches, .selects RX5 yX5_reaches yX5_reaches, .code yX5_reaches cX5_reaches 8 (some .boolean), .fieldLink RX5 13 "PrivateCountsModel" "a" "I", .fieldLink RX5 17 "PrivateCountsModel" "b" "I"] ++ wsX50)
def wsX5_least : List Cond := .code yX5_least cX5_least 6 (some .int) :: ([.fieldLink RX5 46 "PrivateCountsModel" "thrown" "I", .methodLink RX5 143 yX5_enough, .instanceMethod yX5_enough, .selects RX5 yX5_enough yX5_enough, .initialized RX5, .code yX5_enough cX5_enough 13 (some .boolean), .fieldLink RX5 36 "PrivateCountsModel" "term" "[I", .fieldLink RX5 39 "PrivateCountsModel" "whole" "[I", .constant RX5 132 (65535), .constantLong RX5 130 (65535), .constantLong RX5 133 (65536), .methodLink RX5 135 yX5_reaches, .instanceMethod yX5_reaches, .selects RX5 yX5_reaches yX5_reaches, .code yX5_reaches cX5_reaches 8 (some .boolean), .fieldLink RX5 13 "PrivateCountsModel" "a" "I", .fieldLink RX5 17 "PrivateCountsModel" "b" "I"] ++ wsX50)
def wsX5_noPart : List Cond := .code yX5_noPart cX5_noPart 2 (some .boolean) :: ([])
def wsX5_budget_r1 : List Cond := [Cond.fieldLink RX5 46 "PrivateCountsModel" "thrown" "I", Cond.fieldLink RX5 152 "PrivateCountsModel" "answered" "I", Cond.fieldLink RX5 155 "PrivateCountsModel" "tooLittle" "I", Cond.fieldLink RX5 158 "PrivateCountsModel" "tooMuch" "I", Cond.methodLink RX5 146 yX5_noPart, Cond.static yX5_noPart, Cond.initialized RX5, Cond.code yX5_noPart cX5_noPart 2 (some .boolean), Cond.methodLink RX5 149 yX5_set, Cond.instanceMethod yX5_set, Cond.selects RX5 yX5_set yX5_set, Cond.code yX5_set cX5_set 4 none, Cond.methodLink RX5 42 yX5_put, Cond.instanceMethod yX5_put, Cond.selects RX5 yX5_put yX5_put, Cond.code yX5_put cX5_put 4 none, Cond.fieldLink RX5 23 "PrivateCountsModel" "figure" "[J", Cond.constantLong RX5 49 (2147483647), Cond.methodLink RX5 51 yX5_trim, Cond.instanceMethod yX5_trim, Cond.selects RX5 yX5_trim yX5_trim, Cond.code yX5_trim cX5_trim 4 none, Cond.fieldLink RX5 27 "PrivateCountsModel" "length" "[I", Cond.methodLink RX5 89 yX5_lowest]
def wsX5_budget_r2 : List Cond := [Cond.instanceMethod yX5_lowest, Cond.selects RX5 yX5_lowest yX5_lowest, Cond.code yX5_lowest cX5_lowest 4 none, Cond.methodLink RX5 82 yX5_divisor, Cond.instanceMethod yX5_divisor, Cond.selects RX5 yX5_divisor yX5_divisor, Cond.code yX5_divisor cX5_divisor 5 none, Cond.constantLong RX5 65 (2), Cond.methodLink RX5 62 yX5_copy, Cond.instanceMethod yX5_copy, Cond.selects RX5 yX5_copy yX5_copy, Cond.code yX5_copy cX5_copy 4 none, Cond.methodLink RX5 67 yX5_halve, Cond.instanceMethod yX5_halve, Cond.selects RX5 yX5_halve yX5_halve, Cond.code yX5_halve cX5_halve 7 none, Cond.methodLink RX5 71 yX5_compare, Cond.instanceMethod yX5_compare, Cond.selects RX5 yX5_compare yX5_compare, Cond.code yX5_compare cX5_compare 7 (some .int), Cond.methodLink RX5 55 yX5_figureOf, Cond.instanceMethod yX5_figureOf, Cond.selects RX5 yX5_figureOf yX5_figureOf, Cond.code yX5_figureOf cX5_figureOf 3 (some .long)]
def wsX5_budget_r3 : List Cond := [Cond.methodLink RX5 75 yX5_minus, Cond.instanceMethod yX5_minus, Cond.selects RX5 yX5_minus yX5_minus, Cond.code yX5_minus cX5_minus 10 none, Cond.fieldLink RX5 30 "PrivateCountsModel" "top" "[J", Cond.methodLink RX5 59 yX5_take, Cond.instanceMethod yX5_take, Cond.selects RX5 yX5_take yX5_take, Cond.code yX5_take cX5_take 4 none, Cond.methodLink RX5 79 yX5_plus, Cond.instanceMethod yX5_plus, Cond.selects RX5 yX5_plus yX5_plus, Cond.code yX5_plus cX5_plus 10 none, Cond.methodLink RX5 85 yX5_divide, Cond.instanceMethod yX5_divide, Cond.selects RX5 yX5_divide yX5_divide, Cond.code yX5_divide cX5_divide 17 none, Cond.fieldLink RX5 33 "PrivateCountsModel" "below" "[J"]
def wsX5_budget : List Cond := .code yX5_budget cX5_budget 3 none :: ((wsX5_budget_r1 ++ (wsX5_budget_r2 ++ wsX5_budget_r3)) ++ wsX50)
def wsX5_raise_r1 : List Cond := [Cond.fieldLink RX5 46 "PrivateCountsModel" "thrown" "I", Cond.methodLink RX5 146 yX5_noPart, Cond.static yX5_noPart, Cond.initialized RX5, Cond.code yX5_noPart cX5_noPart 2 (some .boolean), Cond.methodLink RX5 149 yX5_set, Cond.instanceMethod yX5_set, Cond.selects RX5 yX5_set yX5_set, Cond.code yX5_set cX5_set 4 none, Cond.methodLink RX5 42 yX5_put, Cond.instanceMethod yX5_put, Cond.selects RX5 yX5_put yX5_put, Cond.code yX5_put cX5_put 4 none, Cond.fieldLink RX5 23 "PrivateCountsModel" "figure" "[J", Cond.constantLong RX5 49 (2147483647), Cond.methodLink RX5 51 yX5_trim, Cond.instanceMethod yX5_trim, Cond.selects RX5 yX5_trim yX5_trim, Cond.code yX5_trim cX5_trim 4 none, Cond.fieldLink RX5 27 "PrivateCountsModel" "length" "[I", Cond.methodLink RX5 89 yX5_lowest, Cond.instanceMethod yX5_lowest, Cond.selects RX5 yX5_lowest yX5_lowest, Cond.code yX5_lowest cX5_lowest 4 none]
def wsX5_raise_r2 : List Cond := [Cond.methodLink RX5 82 yX5_divisor, Cond.instanceMethod yX5_divisor, Cond.selects RX5 yX5_divisor yX5_divisor, Cond.code yX5_divisor cX5_divisor 5 none, Cond.constantLong RX5 65 (2), Cond.methodLink RX5 62 yX5_copy, Cond.instanceMethod yX5_copy, Cond.selects RX5 yX5_copy yX5_copy, Cond.code yX5_copy cX5_copy 4 none, Cond.methodLink RX5 67 yX5_halve, Cond.instanceMethod yX5_halve, Cond.selects RX5 yX5_halve yX5_halve, Cond.code yX5_halve cX5_halve 7 none, Cond.methodLink RX5 71 yX5_compare, Cond.instanceMethod yX5_compare, Cond.selects RX5 yX5_compare yX5_compare, Cond.code yX5_compare cX5_compare 7 (some .int), Cond.methodLink RX5 55 yX5_figureOf, Cond.instanceMethod yX5_figureOf, Cond.selects RX5 yX5_figureOf yX5_figureOf, Cond.code yX5_figureOf cX5_figureOf 3 (some .long), Cond.methodLink RX5 75 yX5_minus, Cond.instanceMethod yX5_minus, Cond.selects RX5 yX5_minus yX5_minus]
def wsX5_raise_r3 : List Cond := [Cond.code yX5_minus cX5_minus 10 none, Cond.fieldLink RX5 30 "PrivateCountsModel" "top" "[J", Cond.methodLink RX5 59 yX5_take, Cond.instanceMethod yX5_take, Cond.selects RX5 yX5_take yX5_take, Cond.code yX5_take cX5_take 4 none, Cond.methodLink RX5 79 yX5_plus, Cond.instanceMethod yX5_plus, Cond.selects RX5 yX5_plus yX5_plus, Cond.code yX5_plus cX5_plus 10 none, Cond.methodLink RX5 85 yX5_divide, Cond.instanceMethod yX5_divide, Cond.selects RX5 yX5_divide yX5_divide, Cond.code yX5_divide cX5_divide 17 none, Cond.fieldLink RX5 33 "PrivateCountsModel" "below" "[J", Cond.methodLink RX5 161 yX5_add0, Cond.instanceMethod yX5_add0, Cond.selects RX5 yX5_add0 yX5_add0, Cond.code yX5_add0 cX5_add0 4 none, Cond.methodLink RX5 95 yX5_cross, Cond.instanceMethod yX5_cross, Cond.selects RX5 yX5_cross yX5_cross, Cond.code yX5_cross cX5_cross 3 none, Cond.methodLink RX5 92 yX5_times]
def wsX5_raise_r4 : List Cond := [Cond.instanceMethod yX5_times, Cond.selects RX5 yX5_times yX5_times, Cond.code yX5_times cX5_times 11 none]
def wsX5_raise : List Cond := .code yX5_raise cX5_raise 3 none :: ((wsX5_raise_r1 ++ (wsX5_raise_r2 ++ (wsX5_raise_r3 ++ wsX5_raise_r4))) ++ wsX50)
def wsX5_ask_r1 : List Cond := [Cond.fieldLink RX5 46 "PrivateCountsModel" "thrown" "I", Cond.fieldLink RX5 155 "PrivateCountsModel" "tooLittle" "I", Cond.constant RX5 164 (-2147483648), Cond.fieldLink RX5 158 "PrivateCountsModel" "tooMuch" "I", Cond.fieldLink RX5 152 "PrivateCountsModel" "answered" "I", Cond.fieldLink RX5 104 "PrivateCountsModel" "low" "I", Cond.fieldLink RX5 20 "PrivateCountsModel" "high" "I", Cond.methodLink RX5 139 yX5_noCost, Cond.static yX5_noCost, Cond.initialized RX5, Cond.code yX5_noCost cX5_noCost 2 (some .boolean), Cond.methodLink RX5 122 yX5_noCoin, Cond.instanceMethod yX5_noCoin, Cond.selects RX5 yX5_noCoin yX5_noCoin, Cond.code yX5_noCoin cX5_noCoin 3 (some .boolean), Cond.methodLink RX5 111 yX5_allOf, Cond.instanceMethod yX5_allOf, Cond.selects RX5 yX5_allOf yX5_allOf, Cond.code yX5_allOf cX5_allOf 1 (some .long), Cond.fieldLink RX5 13 "PrivateCountsModel" "a" "I", Cond.fieldLink RX5 17 "PrivateCountsModel" "b" "I", Cond.methodLink RX5 107 yX5_power, Cond.static yX5_power, Cond.code yX5_power cX5_power 6 (some .long)]
def wsX5_ask_r2 : List Cond := [Cond.methodLink RX5 143 yX5_enough, Cond.instanceMethod yX5_enough, Cond.selects RX5 yX5_enough yX5_enough, Cond.code yX5_enough cX5_enough 13 (some .boolean), Cond.fieldLink RX5 36 "PrivateCountsModel" "term" "[I", Cond.fieldLink RX5 39 "PrivateCountsModel" "whole" "[I", Cond.constant RX5 132 (65535), Cond.constantLong RX5 130 (65535), Cond.constantLong RX5 133 (65536), Cond.methodLink RX5 135 yX5_reaches, Cond.instanceMethod yX5_reaches, Cond.selects RX5 yX5_reaches yX5_reaches, Cond.code yX5_reaches cX5_reaches 8 (some .boolean), Cond.methodLink RX5 149 yX5_set, Cond.instanceMethod yX5_set, Cond.selects RX5 yX5_set yX5_set, Cond.code yX5_set cX5_set 4 none, Cond.methodLink RX5 42 yX5_put, Cond.instanceMethod yX5_put, Cond.selects RX5 yX5_put yX5_put, Cond.code yX5_put cX5_put 4 none, Cond.fieldLink RX5 23 "PrivateCountsModel" "figure" "[J", Cond.constantLong RX5 49 (2147483647), Cond.methodLink RX5 51 yX5_trim]
def wsX5_ask_r3 : List Cond := [Cond.instanceMethod yX5_trim, Cond.selects RX5 yX5_trim yX5_trim, Cond.code yX5_trim cX5_trim 4 none, Cond.fieldLink RX5 27 "PrivateCountsModel" "length" "[I", Cond.methodLink RX5 89 yX5_lowest, Cond.instanceMethod yX5_lowest, Cond.selects RX5 yX5_lowest yX5_lowest, Cond.code yX5_lowest cX5_lowest 4 none, Cond.methodLink RX5 82 yX5_divisor, Cond.instanceMethod yX5_divisor, Cond.selects RX5 yX5_divisor yX5_divisor, Cond.code yX5_divisor cX5_divisor 5 none, Cond.constantLong RX5 65 (2), Cond.methodLink RX5 62 yX5_copy, Cond.instanceMethod yX5_copy, Cond.selects RX5 yX5_copy yX5_copy, Cond.code yX5_copy cX5_copy 4 none, Cond.methodLink RX5 67 yX5_halve, Cond.instanceMethod yX5_halve, Cond.selects RX5 yX5_halve yX5_halve, Cond.code yX5_halve cX5_halve 7 none, Cond.methodLink RX5 71 yX5_compare, Cond.instanceMethod yX5_compare, Cond.selects RX5 yX5_compare yX5_compare]
def wsX5_ask_r4 : List Cond := [Cond.code yX5_compare cX5_compare 7 (some .int), Cond.methodLink RX5 55 yX5_figureOf, Cond.instanceMethod yX5_figureOf, Cond.selects RX5 yX5_figureOf yX5_figureOf, Cond.code yX5_figureOf cX5_figureOf 3 (some .long), Cond.methodLink RX5 75 yX5_minus, Cond.instanceMethod yX5_minus, Cond.selects RX5 yX5_minus yX5_minus, Cond.code yX5_minus cX5_minus 10 none, Cond.fieldLink RX5 30 "PrivateCountsModel" "top" "[J", Cond.methodLink RX5 59 yX5_take, Cond.instanceMethod yX5_take, Cond.selects RX5 yX5_take yX5_take, Cond.code yX5_take cX5_take 4 none, Cond.methodLink RX5 79 yX5_plus, Cond.instanceMethod yX5_plus, Cond.selects RX5 yX5_plus yX5_plus, Cond.code yX5_plus cX5_plus 10 none, Cond.methodLink RX5 85 yX5_divide, Cond.instanceMethod yX5_divide, Cond.selects RX5 yX5_divide yX5_divide, Cond.code yX5_divide cX5_divide 17 none, Cond.fieldLink RX5 33 "PrivateCountsModel" "below" "[J", Cond.methodLink RX5 161 yX5_add0]
def wsX5_ask_r5 : List Cond := [Cond.instanceMethod yX5_add0, Cond.selects RX5 yX5_add0 yX5_add0, Cond.code yX5_add0 cX5_add0 4 none, Cond.methodLink RX5 95 yX5_cross, Cond.instanceMethod yX5_cross, Cond.selects RX5 yX5_cross yX5_cross, Cond.code yX5_cross cX5_cross 3 none, Cond.methodLink RX5 92 yX5_times, Cond.instanceMethod yX5_times, Cond.selects RX5 yX5_times yX5_times, Cond.code yX5_times cX5_times 11 none, Cond.methodLink RX5 165 yX5_isMore, Cond.instanceMethod yX5_isMore, Cond.selects RX5 yX5_isMore yX5_isMore, Cond.code yX5_isMore cX5_isMore 3 (some .boolean), Cond.methodLink RX5 101 yX5_countRows, Cond.instanceMethod yX5_countRows, Cond.selects RX5 yX5_countRows yX5_countRows, Cond.code yX5_countRows cX5_countRows 5 (some .int), Cond.fieldLink RX5 98 "PrivateCountsModel" "rows" "I", Cond.fieldLink RX5 7 "PrivateCountsModel" "row" "[I", Cond.methodLink RX5 126 yX5_drawn, Cond.instanceMethod yX5_drawn, Cond.selects RX5 yX5_drawn yX5_drawn]
def wsX5_ask_r6 : List Cond := [Cond.code yX5_drawn cX5_drawn 7 (some .int), Cond.methodLink RX5 119 yX5_weightOf, Cond.instanceMethod yX5_weightOf, Cond.selects RX5 yX5_weightOf yX5_weightOf, Cond.code yX5_weightOf cX5_weightOf 6 (some .long), Cond.methodLink RX5 115 yX5_isOut, Cond.instanceMethod yX5_isOut, Cond.selects RX5 yX5_isOut yX5_isOut, Cond.code yX5_isOut cX5_isOut 2 (some .boolean)]
def wsX5_ask : List Cond := .code yX5_ask cX5_ask 8 (some .int) :: ((wsX5_ask_r1 ++ (wsX5_ask_r2 ++ (wsX5_ask_r3 ++ (wsX5_ask_r4 ++ (wsX5_ask_r5 ++ wsX5_ask_r6))))) ++ wsX50)
def wsX5_limb_r1 : List Cond := [Cond.fieldLink RX5 46 "PrivateCountsModel" "thrown" "I", Cond.fieldLink RX5 27 "PrivateCountsModel" "length" "[I", Cond.fieldLink RX5 23 "PrivateCountsModel" "figure" "[J", Cond.methodLink RX5 168 yX5_subtract, Cond.instanceMethod yX5_subtract, Cond.selects RX5 yX5_subtract yX5_subtract, Cond.initialized RX5, Cond.code yX5_subtract cX5_subtract 4 none, Cond.methodLink RX5 95 yX5_cross, Cond.instanceMethod yX5_cross, Cond.selects RX5 yX5_cross yX5_cross, Cond.code yX5_cross cX5_cross 3 none, Cond.methodLink RX5 92 yX5_times, Cond.instanceMethod yX5_times, Cond.selects RX5 yX5_times yX5_times, Cond.code yX5_times cX5_times 11 none, Cond.fieldLink RX5 30 "PrivateCountsModel" "top" "[J", Cond.constantLong RX5 49 (2147483647), Cond.methodLink RX5 59 yX5_take, Cond.instanceMethod yX5_take, Cond.selects RX5 yX5_take yX5_take, Cond.code yX5_take cX5_take 4 none, Cond.methodLink RX5 51 yX5_trim, Cond.instanceMethod yX5_trim]
def wsX5_limb_r2 : List Cond := [Cond.selects RX5 yX5_trim yX5_trim, Cond.code yX5_trim cX5_trim 4 none, Cond.methodLink RX5 75 yX5_minus, Cond.instanceMethod yX5_minus, Cond.selects RX5 yX5_minus yX5_minus, Cond.code yX5_minus cX5_minus 10 none, Cond.methodLink RX5 55 yX5_figureOf, Cond.instanceMethod yX5_figureOf, Cond.selects RX5 yX5_figureOf yX5_figureOf, Cond.code yX5_figureOf cX5_figureOf 3 (some .long), Cond.methodLink RX5 62 yX5_copy, Cond.instanceMethod yX5_copy, Cond.selects RX5 yX5_copy yX5_copy, Cond.code yX5_copy cX5_copy 4 none, Cond.methodLink RX5 89 yX5_lowest, Cond.instanceMethod yX5_lowest, Cond.selects RX5 yX5_lowest yX5_lowest, Cond.code yX5_lowest cX5_lowest 4 none, Cond.methodLink RX5 42 yX5_put, Cond.instanceMethod yX5_put, Cond.selects RX5 yX5_put yX5_put, Cond.code yX5_put cX5_put 4 none, Cond.methodLink RX5 82 yX5_divisor, Cond.instanceMethod yX5_divisor]
def wsX5_limb_r3 : List Cond := [Cond.selects RX5 yX5_divisor yX5_divisor, Cond.code yX5_divisor cX5_divisor 5 none, Cond.constantLong RX5 65 (2), Cond.methodLink RX5 67 yX5_halve, Cond.instanceMethod yX5_halve, Cond.selects RX5 yX5_halve yX5_halve, Cond.code yX5_halve cX5_halve 7 none, Cond.methodLink RX5 71 yX5_compare, Cond.instanceMethod yX5_compare, Cond.selects RX5 yX5_compare yX5_compare, Cond.code yX5_compare cX5_compare 7 (some .int), Cond.methodLink RX5 79 yX5_plus, Cond.instanceMethod yX5_plus, Cond.selects RX5 yX5_plus yX5_plus, Cond.code yX5_plus cX5_plus 10 none, Cond.methodLink RX5 85 yX5_divide, Cond.instanceMethod yX5_divide, Cond.selects RX5 yX5_divide yX5_divide, Cond.code yX5_divide cX5_divide 17 none, Cond.fieldLink RX5 33 "PrivateCountsModel" "below" "[J"]
def wsX5_limb : List Cond := .code yX5_limb cX5_limb 5 (some .int) :: ((wsX5_limb_r1 ++ (wsX5_limb_r2 ++ wsX5_limb_r3)) ++ wsX50)
def wsX5_told : List Cond := .code yX5_told cX5_told 2 (some .int) :: ([.fieldLink RX5 46 "PrivateCountsModel" "thrown" "I", .fieldLink RX5 152 "PrivateCountsModel" "answered" "I", .fieldLink RX5 155 "PrivateCountsModel" "tooLittle" "I", .fieldLink RX5 158 "PrivateCountsModel" "tooMuch" "I", .fieldLink RX5 98 "PrivateCountsModel" "rows" "I", .fieldLink RX5 104 "PrivateCountsModel" "low" "I", .fieldLink RX5 20 "PrivateCountsModel" "high" "I", .fieldLink RX5 13 "PrivateCountsModel" "a" "I", .fieldLink RX5 17 "PrivateCountsModel" "b" "I"] ++ wsX50)
def wsL_remove : List Cond := .codeWith yL_remove cL_remove 4 (some .int) [(0, 9, 12, 13)] :: ([.classLink RL 13 "java/lang/IndexOutOfBoundsException", .methodLink RL 7 yX4_remove, .instanceMethod yX4_remove, .selects RX4 yX4_remove yX4_remove, .initialized RX4, .code yX4_remove cX4_remove 4 (some .int), .classLink RX4 53 "java/lang/IndexOutOfBoundsException", .initialized "java/lang/IndexOutOfBoundsException", .fieldLink RX4 13 "PrivateCounts" "rowCount" "I", .fieldLink RX4 9 "PrivateCounts" "rows" "[I"] ++ wsX40 ++ (vx_atS RX4 57 "java/lang/IndexOutOfBoundsException" ["java/lang/RuntimeException", "java/lang/Exception"]).filter goodWord)
def wsL_table_r1 : List Cond := [Cond.classLink RL 19 "java/lang/IllegalArgumentException", Cond.methodLink RL 15 yX4_table, Cond.instanceMethod yX4_table, Cond.selects RX4 yX4_table yX4_table, Cond.initialized RX4, Cond.code yX4_table cX4_table 5 (some .long), Cond.classLink RX4 64 "java/lang/IllegalArgumentException", Cond.initialized "java/lang/IllegalArgumentException", Cond.fieldLink RX4 20 "PrivateCounts" "weights" "LPrivateCounts$Table;", Cond.fieldLink RX4 73 "PrivateCounts$Table" "total" "J", Cond.methodLink RX4 60 yX3_isAllowed, Cond.static yX3_isAllowed, Cond.initialized RX3, Cond.code yX3_isAllowed cX3_isAllowed 4 (some .boolean), Cond.methodLink RX4 69 yX3_become, Cond.instanceMethod yX3_become, Cond.selects RX3 yX3_become yX3_become, Cond.code yX3_become cX3_become 5 none, Cond.fieldLink RX3 13 "PrivateCounts$Table" "a" "I", Cond.fieldLink RX3 17 "PrivateCounts$Table" "b" "I", Cond.fieldLink RX3 20 "PrivateCounts$Table" "low" "I", Cond.fieldLink RX3 23 "PrivateCounts$Table" "high" "I", Cond.fieldLink RX3 30 "PrivateCounts$Table" "total" "J", Cond.methodLink RX3 26 yX3_power]
def wsL_table_r2 : List Cond := [Cond.static yX3_power, Cond.code yX3_power cX3_power 5 (some .long)]
def wsL_table : List Cond := .codeWith yL_table cL_table 7 (some .int) [(0, 13, 16, 19)] :: ((wsL_table_r1 ++ wsL_table_r2) ++ wsX40 ++ wsX30 ++ (vx_atS RX4 68 "java/lang/IllegalArgumentException" ["java/lang/RuntimeException", "java/lang/Exception"]).filter goodWord)
def wsL_draw_r1 : List Cond := [Cond.classLink RL 19 "java/lang/IllegalArgumentException", Cond.methodLink RL 21 yX4_draw, Cond.instanceMethod yX4_draw, Cond.selects RX4 yX4_draw yX4_draw, Cond.initialized RX4, Cond.code yX4_draw cX4_draw 4 (some .int), Cond.classLink RX4 64 "java/lang/IllegalArgumentException", Cond.initialized "java/lang/IllegalArgumentException", Cond.fieldLink RX4 20 "PrivateCounts" "weights" "LPrivateCounts$Table;", Cond.methodLink RX4 84 yX3_holds, Cond.instanceMethod yX3_holds, Cond.selects RX3 yX3_holds yX3_holds, Cond.initialized RX3, Cond.code yX3_holds cX3_holds 2 (some .boolean), Cond.fieldLink RX3 20 "PrivateCounts$Table" "low" "I", Cond.fieldLink RX3 23 "PrivateCounts$Table" "high" "I", Cond.methodLink RX4 88 yX3_hasCoin, Cond.instanceMethod yX3_hasCoin, Cond.selects RX3 yX3_hasCoin yX3_hasCoin, Cond.code yX3_hasCoin cX3_hasCoin 3 (some .boolean), Cond.fieldLink RX3 30 "PrivateCounts$Table" "total" "J", Cond.methodLink RX4 94 yX3_outcomeOf, Cond.instanceMethod yX3_outcomeOf, Cond.selects RX3 yX3_outcomeOf yX3_outcomeOf]
def wsL_draw_r2 : List Cond := [Cond.code yX3_outcomeOf cX3_outcomeOf 7 (some .int), Cond.methodLink RX3 38 yX3_weightOf, Cond.instanceMethod yX3_weightOf, Cond.selects RX3 yX3_weightOf yX3_weightOf, Cond.code yX3_weightOf cX3_weightOf 5 (some .long), Cond.fieldLink RX3 17 "PrivateCounts$Table" "b" "I", Cond.fieldLink RX3 13 "PrivateCounts$Table" "a" "I", Cond.methodLink RX3 34 yX3_holds, Cond.methodLink RX3 26 yX3_power, Cond.static yX3_power, Cond.code yX3_power cX3_power 5 (some .long)]
def wsL_draw : List Cond := .codeWith yL_draw cL_draw 6 (some .int) [(0, 11, 14, 19)] :: ((wsL_draw_r1 ++ wsL_draw_r2) ++ wsX40 ++ wsX30 ++ (vx_atS RX4 68 "java/lang/IllegalArgumentException" ["java/lang/RuntimeException", "java/lang/Exception"]).filter goodWord)
def wsL_isNear_r1 : List Cond := [Cond.classLink RL 19 "java/lang/IllegalArgumentException", Cond.methodLink RL 25 yX4_isNear, Cond.instanceMethod yX4_isNear, Cond.selects RX4 yX4_isNear yX4_isNear, Cond.initialized RX4, Cond.code yX4_isNear cX4_isNear 3 (some .boolean), Cond.classLink RX4 64 "java/lang/IllegalArgumentException", Cond.initialized "java/lang/IllegalArgumentException", Cond.fieldLink RX4 20 "PrivateCounts" "weights" "LPrivateCounts$Table;", Cond.methodLink RX4 84 yX3_holds, Cond.instanceMethod yX3_holds, Cond.selects RX3 yX3_holds yX3_holds, Cond.initialized RX3, Cond.code yX3_holds cX3_holds 2 (some .boolean), Cond.fieldLink RX3 20 "PrivateCounts$Table" "low" "I", Cond.fieldLink RX3 23 "PrivateCounts$Table" "high" "I", Cond.methodLink RX4 100 yX3_isWithinRatio, Cond.instanceMethod yX3_isWithinRatio, Cond.selects RX3 yX3_isWithinRatio yX3_isWithinRatio, Cond.code yX3_isWithinRatio cX3_isWithinRatio 4 (some .boolean), Cond.fieldLink RX3 13 "PrivateCounts$Table" "a" "I", Cond.fieldLink RX3 17 "PrivateCounts$Table" "b" "I", Cond.methodLink RX3 38 yX3_weightOf, Cond.instanceMethod yX3_weightOf]
def wsL_isNear_r2 : List Cond := [Cond.selects RX3 yX3_weightOf yX3_weightOf, Cond.code yX3_weightOf cX3_weightOf 5 (some .long), Cond.fieldLink RX3 30 "PrivateCounts$Table" "total" "J", Cond.methodLink RX3 34 yX3_holds, Cond.methodLink RX3 26 yX3_power, Cond.static yX3_power, Cond.code yX3_power cX3_power 5 (some .long)]
def wsL_isNear : List Cond := .codeWith yL_isNear cL_isNear 5 (some .int) [(0, 17, 20, 19)] :: ((wsL_isNear_r1 ++ wsL_isNear_r2) ++ wsX40 ++ wsX30 ++ (vx_atS RX4 68 "java/lang/IllegalArgumentException" ["java/lang/RuntimeException", "java/lang/Exception"]).filter goodWord)
def wsL_budget_r1 : List Cond := [Cond.classLink RL 19 "java/lang/IllegalArgumentException", Cond.methodLink RL 29 yX4_budget, Cond.instanceMethod yX4_budget, Cond.selects RX4 yX4_budget yX4_budget, Cond.initialized RX4, Cond.code yX4_budget cX4_budget 3 none, Cond.classLink RX4 64 "java/lang/IllegalArgumentException", Cond.initialized "java/lang/IllegalArgumentException", Cond.fieldLink RX4 34 "PrivateCounts" "granted" "LPrivateCounts$Fraction;", Cond.fieldLink RX4 38 "PrivateCounts" "spent" "LPrivateCounts$Fraction;", Cond.fieldLink RX4 41 "PrivateCounts" "left" "LPrivateCounts$Fraction;", Cond.fieldLink RX4 44 "PrivateCounts" "answered" "I", Cond.fieldLink RX4 47 "PrivateCounts" "refusedForCost" "I", Cond.fieldLink RX4 50 "PrivateCounts" "refusedForBudget" "I", Cond.methodLink RX4 104 yX4_isGrant, Cond.static yX4_isGrant, Cond.code yX4_isGrant cX4_isGrant 2 (some .boolean), Cond.methodLink RX4 124 yX4_isDenominator, Cond.static yX4_isDenominator, Cond.code yX4_isDenominator cX4_isDenominator 1 (some .boolean), Cond.methodLink RX4 109 yX0_become, Cond.instanceMethod yX0_become, Cond.selects RX0 yX0_become yX0_become, Cond.initialized RX0]
def wsL_budget_r2 : List Cond := [Cond.code yX0_become cX0_become 4 none, Cond.fieldLink RX0 10 "PrivateCounts$Fraction" "numerator" "LPrivateCounts$Natural;", Cond.fieldLink RX0 16 "PrivateCounts$Fraction" "denominator" "LPrivateCounts$Natural;", Cond.methodLink RX0 23 yX0_commonDivisor, Cond.static yX0_commonDivisor, Cond.code yX0_commonDivisor cX0_commonDivisor 6 (some .int), Cond.methodLink RX0 19 yX1_become, Cond.instanceMethod yX1_become, Cond.selects RX1 yX1_become yX1_become, Cond.initialized RX1, Cond.code yX1_become cX1_become 2 none, Cond.fieldLink RX1 13 "PrivateCounts$Natural" "size" "I", Cond.methodLink RX1 17 yX1_append, Cond.instanceMethod yX1_append, Cond.selects RX1 yX1_append yX1_append, Cond.code yX1_append cX1_append 3 none, Cond.fieldLink RX1 9 "PrivateCounts$Natural" "limbs" "[I", Cond.methodLink RX0 27 yX1_divideBy, Cond.instanceMethod yX1_divideBy, Cond.selects RX1 yX1_divideBy yX1_divideBy, Cond.code yX1_divideBy cX1_divideBy 5 none, Cond.methodLink RX1 23 yX1_trim, Cond.instanceMethod yX1_trim, Cond.selects RX1 yX1_trim yX1_trim]
def wsL_budget_r3 : List Cond := [Cond.code yX1_trim cX1_trim 1 none, Cond.methodLink RX1 26 yX1_limbAt, Cond.instanceMethod yX1_limbAt, Cond.selects RX1 yX1_limbAt yX1_limbAt, Cond.code yX1_limbAt cX1_limbAt 2 (some .int)]
def wsL_budget : List Cond := .codeWith yL_budget cL_budget 4 (some .int) [(0, 6, 9, 19)] :: ((wsL_budget_r1 ++ (wsL_budget_r2 ++ wsL_budget_r3)) ++ wsX40 ++ wsX00 ++ wsX10 ++ (vx_atS RX4 68 "java/lang/IllegalArgumentException" ["java/lang/RuntimeException", "java/lang/Exception"]).filter goodWord)
def wsL_raise_r1 : List Cond := [Cond.classLink RL 19 "java/lang/IllegalArgumentException", Cond.methodLink RL 33 yX4_raise, Cond.instanceMethod yX4_raise, Cond.selects RX4 yX4_raise yX4_raise, Cond.initialized RX4, Cond.code yX4_raise cX4_raise 3 none, Cond.classLink RX4 64 "java/lang/IllegalArgumentException", Cond.initialized "java/lang/IllegalArgumentException", Cond.fieldLink RX4 34 "PrivateCounts" "granted" "LPrivateCounts$Fraction;", Cond.fieldLink RX4 41 "PrivateCounts" "left" "LPrivateCounts$Fraction;", Cond.methodLink RX4 104 yX4_isGrant, Cond.static yX4_isGrant, Cond.code yX4_isGrant cX4_isGrant 2 (some .boolean), Cond.methodLink RX4 124 yX4_isDenominator, Cond.static yX4_isDenominator, Cond.code yX4_isDenominator cX4_isDenominator 1 (some .boolean), Cond.methodLink RX4 112 yX0_increase, Cond.instanceMethod yX0_increase, Cond.selects RX0 yX0_increase yX0_increase, Cond.initialized RX0, Cond.code yX0_increase cX0_increase 3 none, Cond.methodLink RX0 30 yX0_change, Cond.instanceMethod yX0_change, Cond.selects RX0 yX0_change yX0_change]
def wsL_raise_r2 : List Cond := [Cond.code yX0_change cX0_change 9 none, Cond.fieldLink RX0 16 "PrivateCounts$Fraction" "denominator" "LPrivateCounts$Natural;", Cond.fieldLink RX0 10 "PrivateCounts$Fraction" "numerator" "LPrivateCounts$Natural;", Cond.methodLink RX0 23 yX0_commonDivisor, Cond.static yX0_commonDivisor, Cond.code yX0_commonDivisor cX0_commonDivisor 6 (some .int), Cond.methodLink RX0 38 yX0_quotient, Cond.static yX0_quotient, Cond.code yX0_quotient cX0_quotient 2 (some .int), Cond.methodLink RX0 41 yX1_restBy, Cond.instanceMethod yX1_restBy, Cond.selects RX1 yX1_restBy yX1_restBy, Cond.initialized RX1, Cond.code yX1_restBy cX1_restBy 5 (some .int), Cond.fieldLink RX1 13 "PrivateCounts$Natural" "size" "I", Cond.methodLink RX1 26 yX1_limbAt, Cond.instanceMethod yX1_limbAt, Cond.selects RX1 yX1_limbAt yX1_limbAt, Cond.code yX1_limbAt cX1_limbAt 2 (some .int), Cond.fieldLink RX1 9 "PrivateCounts$Natural" "limbs" "[I", Cond.methodLink RX0 27 yX1_divideBy, Cond.instanceMethod yX1_divideBy, Cond.selects RX1 yX1_divideBy yX1_divideBy, Cond.code yX1_divideBy cX1_divideBy 5 none]
def wsL_raise_r3 : List Cond := [Cond.methodLink RX1 23 yX1_trim, Cond.instanceMethod yX1_trim, Cond.selects RX1 yX1_trim yX1_trim, Cond.code yX1_trim cX1_trim 1 none, Cond.methodLink RX0 45 yX1_times, Cond.instanceMethod yX1_times, Cond.selects RX1 yX1_times yX1_times, Cond.code yX1_times cX1_times 5 none, Cond.constantLong RX1 21 (2147483647), Cond.methodLink RX1 17 yX1_append, Cond.instanceMethod yX1_append, Cond.selects RX1 yX1_append yX1_append, Cond.code yX1_append cX1_append 3 none, Cond.methodLink RX0 48 yX1_plusTimes, Cond.instanceMethod yX1_plusTimes, Cond.selects RX1 yX1_plusTimes yX1_plusTimes, Cond.code yX1_plusTimes cX1_plusTimes 7 none]
def wsL_raise : List Cond := .codeWith yL_raise cL_raise 4 (some .int) [(0, 6, 9, 19)] :: ((wsL_raise_r1 ++ (wsL_raise_r2 ++ wsL_raise_r3)) ++ wsX40 ++ wsX00 ++ wsX10 ++ (vx_atS RX4 68 "java/lang/IllegalArgumentException" ["java/lang/RuntimeException", "java/lang/Exception"]).filter goodWord)
def wsL_isEnough_r1 : List Cond := [Cond.classLink RL 19 "java/lang/IllegalArgumentException", Cond.methodLink RL 36 yX4_isEnough, Cond.instanceMethod yX4_isEnough, Cond.selects RX4 yX4_isEnough yX4_isEnough, Cond.initialized RX4, Cond.code yX4_isEnough cX4_isEnough 3 (some .boolean), Cond.classLink RX4 64 "java/lang/IllegalArgumentException", Cond.initialized "java/lang/IllegalArgumentException", Cond.fieldLink RX4 27 "PrivateCounts" "series" "LPrivateCounts$Series;", Cond.fieldLink RX4 20 "PrivateCounts" "weights" "LPrivateCounts$Table;", Cond.methodLink RX4 115 yX4_isCost, Cond.static yX4_isCost, Cond.code yX4_isCost cX4_isCost 2 (some .boolean), Cond.methodLink RX4 124 yX4_isDenominator, Cond.static yX4_isDenominator, Cond.code yX4_isDenominator cX4_isDenominator 1 (some .boolean), Cond.methodLink RX4 120 yX2_reaches, Cond.instanceMethod yX2_reaches, Cond.selects RX2 yX2_reaches yX2_reaches, Cond.initialized RX2, Cond.code yX2_reaches cX2_reaches 6 (some .boolean), Cond.fieldLink RX2 10 "PrivateCounts$Series" "missing" "LPrivateCounts$Natural;", Cond.fieldLink RX2 19 "PrivateCounts$Table" "b" "I", Cond.fieldLink RX2 25 "PrivateCounts$Table" "a" "I"]
def wsL_isEnough_r2 : List Cond := [Cond.fieldLink RX2 16 "PrivateCounts$Series" "term" "LPrivateCounts$Natural;", Cond.methodLink RX2 28 yX1_become, Cond.instanceMethod yX1_become, Cond.selects RX1 yX1_become yX1_become, Cond.initialized RX1, Cond.code yX1_become cX1_become 2 none, Cond.fieldLink RX1 13 "PrivateCounts$Natural" "size" "I", Cond.methodLink RX1 17 yX1_append, Cond.instanceMethod yX1_append, Cond.selects RX1 yX1_append yX1_append, Cond.code yX1_append cX1_append 3 none, Cond.fieldLink RX1 9 "PrivateCounts$Natural" "limbs" "[I", Cond.methodLink RX2 32 yX1_times, Cond.instanceMethod yX1_times, Cond.selects RX1 yX1_times yX1_times, Cond.code yX1_times cX1_times 5 none, Cond.constantLong RX1 21 (2147483647), Cond.methodLink RX1 23 yX1_trim, Cond.instanceMethod yX1_trim, Cond.selects RX1 yX1_trim yX1_trim, Cond.code yX1_trim cX1_trim 1 none, Cond.methodLink RX1 26 yX1_limbAt, Cond.instanceMethod yX1_limbAt, Cond.selects RX1 yX1_limbAt yX1_limbAt]
def wsL_isEnough_r3 : List Cond := [Cond.code yX1_limbAt cX1_limbAt 2 (some .int), Cond.methodLink RX2 35 yX1_isLess, Cond.static yX1_isLess, Cond.code yX1_isLess cX1_isLess 8 (some .boolean), Cond.methodLink RX2 39 yX1_plusTimes, Cond.instanceMethod yX1_plusTimes, Cond.selects RX1 yX1_plusTimes yX1_plusTimes, Cond.code yX1_plusTimes cX1_plusTimes 7 none]
def wsL_isEnough : List Cond := .codeWith yL_isEnough cL_isEnough 5 (some .int) [(0, 17, 20, 19)] :: ((wsL_isEnough_r1 ++ (wsL_isEnough_r2 ++ wsL_isEnough_r3)) ++ wsX40 ++ wsX20 ++ wsX30 ++ wsX10 ++ (vx_atS RX4 68 "java/lang/IllegalArgumentException" ["java/lang/RuntimeException", "java/lang/Exception"]).filter goodWord)
def wsL_least_r1 : List Cond := [Cond.classLink RL 19 "java/lang/IllegalArgumentException", Cond.methodLink RL 39 yX4_least, Cond.instanceMethod yX4_least, Cond.selects RX4 yX4_least yX4_least, Cond.initialized RX4, Cond.code yX4_least cX4_least 6 (some .int), Cond.classLink RX4 64 "java/lang/IllegalArgumentException", Cond.initialized "java/lang/IllegalArgumentException", Cond.fieldLink RX4 27 "PrivateCounts" "series" "LPrivateCounts$Series;", Cond.fieldLink RX4 20 "PrivateCounts" "weights" "LPrivateCounts$Table;", Cond.methodLink RX4 124 yX4_isDenominator, Cond.static yX4_isDenominator, Cond.code yX4_isDenominator cX4_isDenominator 1 (some .boolean), Cond.methodLink RX4 120 yX2_reaches, Cond.instanceMethod yX2_reaches, Cond.selects RX2 yX2_reaches yX2_reaches, Cond.initialized RX2, Cond.code yX2_reaches cX2_reaches 6 (some .boolean), Cond.fieldLink RX2 10 "PrivateCounts$Series" "missing" "LPrivateCounts$Natural;", Cond.fieldLink RX2 19 "PrivateCounts$Table" "b" "I", Cond.fieldLink RX2 25 "PrivateCounts$Table" "a" "I", Cond.fieldLink RX2 16 "PrivateCounts$Series" "term" "LPrivateCounts$Natural;", Cond.methodLink RX2 28 yX1_become, Cond.instanceMethod yX1_become]
def wsL_least_r2 : List Cond := [Cond.selects RX1 yX1_become yX1_become, Cond.initialized RX1, Cond.code yX1_become cX1_become 2 none, Cond.fieldLink RX1 13 "PrivateCounts$Natural" "size" "I", Cond.methodLink RX1 17 yX1_append, Cond.instanceMethod yX1_append, Cond.selects RX1 yX1_append yX1_append, Cond.code yX1_append cX1_append 3 none, Cond.fieldLink RX1 9 "PrivateCounts$Natural" "limbs" "[I", Cond.methodLink RX2 32 yX1_times, Cond.instanceMethod yX1_times, Cond.selects RX1 yX1_times yX1_times, Cond.code yX1_times cX1_times 5 none, Cond.constantLong RX1 21 (2147483647), Cond.methodLink RX1 23 yX1_trim, Cond.instanceMethod yX1_trim, Cond.selects RX1 yX1_trim yX1_trim, Cond.code yX1_trim cX1_trim 1 none, Cond.methodLink RX1 26 yX1_limbAt, Cond.instanceMethod yX1_limbAt, Cond.selects RX1 yX1_limbAt yX1_limbAt, Cond.code yX1_limbAt cX1_limbAt 2 (some .int), Cond.methodLink RX2 35 yX1_isLess, Cond.static yX1_isLess]
def wsL_least_r3 : List Cond := [Cond.code yX1_isLess cX1_isLess 8 (some .boolean), Cond.methodLink RX2 39 yX1_plusTimes, Cond.instanceMethod yX1_plusTimes, Cond.selects RX1 yX1_plusTimes yX1_plusTimes, Cond.code yX1_plusTimes cX1_plusTimes 7 none]
def wsL_least : List Cond := .codeWith yL_least cL_least 4 (some .int) [(0, 9, 12, 19)] :: ((wsL_least_r1 ++ (wsL_least_r2 ++ wsL_least_r3)) ++ wsX40 ++ wsX20 ++ wsX30 ++ wsX10 ++ (vx_atS RX4 68 "java/lang/IllegalArgumentException" ["java/lang/RuntimeException", "java/lang/Exception"]).filter goodWord)
def wsL_ask_r1 : List Cond := [Cond.classLink RL 19 "java/lang/IllegalArgumentException", Cond.methodLink RL 42 yX4_ask, Cond.instanceMethod yX4_ask, Cond.selects RX4 yX4_ask yX4_ask, Cond.initialized RX4, Cond.code yX4_ask cX4_ask 7 (some .int), Cond.classLink RX4 64 "java/lang/IllegalArgumentException", Cond.initialized "java/lang/IllegalArgumentException", Cond.fieldLink RX4 20 "PrivateCounts" "weights" "LPrivateCounts$Table;", Cond.fieldLink RX4 27 "PrivateCounts" "series" "LPrivateCounts$Series;", Cond.fieldLink RX4 47 "PrivateCounts" "refusedForCost" "I", Cond.constant RX4 131 (-2147483648), Cond.fieldLink RX4 41 "PrivateCounts" "left" "LPrivateCounts$Fraction;", Cond.fieldLink RX4 50 "PrivateCounts" "refusedForBudget" "I", Cond.fieldLink RX4 38 "PrivateCounts" "spent" "LPrivateCounts$Fraction;", Cond.fieldLink RX4 44 "PrivateCounts" "answered" "I", Cond.methodLink RX4 115 yX4_isCost, Cond.static yX4_isCost, Cond.code yX4_isCost cX4_isCost 2 (some .boolean), Cond.methodLink RX4 124 yX4_isDenominator, Cond.static yX4_isDenominator, Cond.code yX4_isDenominator cX4_isDenominator 1 (some .boolean), Cond.methodLink RX4 88 yX3_hasCoin, Cond.instanceMethod yX3_hasCoin]
def wsL_ask_r2 : List Cond := [Cond.selects RX3 yX3_hasCoin yX3_hasCoin, Cond.initialized RX3, Cond.code yX3_hasCoin cX3_hasCoin 3 (some .boolean), Cond.fieldLink RX3 30 "PrivateCounts$Table" "total" "J", Cond.methodLink RX4 120 yX2_reaches, Cond.instanceMethod yX2_reaches, Cond.selects RX2 yX2_reaches yX2_reaches, Cond.initialized RX2, Cond.code yX2_reaches cX2_reaches 6 (some .boolean), Cond.fieldLink RX2 10 "PrivateCounts$Series" "missing" "LPrivateCounts$Natural;", Cond.fieldLink RX2 19 "PrivateCounts$Table" "b" "I", Cond.fieldLink RX2 25 "PrivateCounts$Table" "a" "I", Cond.fieldLink RX2 16 "PrivateCounts$Series" "term" "LPrivateCounts$Natural;", Cond.methodLink RX2 28 yX1_become, Cond.instanceMethod yX1_become, Cond.selects RX1 yX1_become yX1_become, Cond.initialized RX1, Cond.code yX1_become cX1_become 2 none, Cond.fieldLink RX1 13 "PrivateCounts$Natural" "size" "I", Cond.methodLink RX1 17 yX1_append, Cond.instanceMethod yX1_append, Cond.selects RX1 yX1_append yX1_append, Cond.code yX1_append cX1_append 3 none, Cond.fieldLink RX1 9 "PrivateCounts$Natural" "limbs" "[I"]
def wsL_ask_r3 : List Cond := [Cond.methodLink RX2 32 yX1_times, Cond.instanceMethod yX1_times, Cond.selects RX1 yX1_times yX1_times, Cond.code yX1_times cX1_times 5 none, Cond.constantLong RX1 21 (2147483647), Cond.methodLink RX1 23 yX1_trim, Cond.instanceMethod yX1_trim, Cond.selects RX1 yX1_trim yX1_trim, Cond.code yX1_trim cX1_trim 1 none, Cond.methodLink RX1 26 yX1_limbAt, Cond.instanceMethod yX1_limbAt, Cond.selects RX1 yX1_limbAt yX1_limbAt, Cond.code yX1_limbAt cX1_limbAt 2 (some .int), Cond.methodLink RX2 35 yX1_isLess, Cond.static yX1_isLess, Cond.code yX1_isLess cX1_isLess 8 (some .boolean), Cond.methodLink RX2 39 yX1_plusTimes, Cond.instanceMethod yX1_plusTimes, Cond.selects RX1 yX1_plusTimes yX1_plusTimes, Cond.code yX1_plusTimes cX1_plusTimes 7 none, Cond.methodLink RX4 132 yX0_isLessThan, Cond.instanceMethod yX0_isLessThan, Cond.selects RX0 yX0_isLessThan yX0_isLessThan, Cond.initialized RX0]
def wsL_ask_r4 : List Cond := [Cond.code yX0_isLessThan cX0_isLessThan 3 (some .boolean), Cond.fieldLink RX0 10 "PrivateCounts$Fraction" "numerator" "LPrivateCounts$Natural;", Cond.fieldLink RX0 16 "PrivateCounts$Fraction" "denominator" "LPrivateCounts$Natural;", Cond.methodLink RX0 34 yX1_isLess, Cond.methodLink RX4 112 yX0_increase, Cond.instanceMethod yX0_increase, Cond.selects RX0 yX0_increase yX0_increase, Cond.code yX0_increase cX0_increase 3 none, Cond.methodLink RX0 30 yX0_change, Cond.instanceMethod yX0_change, Cond.selects RX0 yX0_change yX0_change, Cond.code yX0_change cX0_change 9 none, Cond.methodLink RX0 23 yX0_commonDivisor, Cond.static yX0_commonDivisor, Cond.code yX0_commonDivisor cX0_commonDivisor 6 (some .int), Cond.methodLink RX0 38 yX0_quotient, Cond.static yX0_quotient, Cond.code yX0_quotient cX0_quotient 2 (some .int), Cond.methodLink RX0 41 yX1_restBy, Cond.instanceMethod yX1_restBy, Cond.selects RX1 yX1_restBy yX1_restBy, Cond.code yX1_restBy cX1_restBy 5 (some .int), Cond.methodLink RX0 27 yX1_divideBy, Cond.instanceMethod yX1_divideBy]
def wsL_ask_r5 : List Cond := [Cond.selects RX1 yX1_divideBy yX1_divideBy, Cond.code yX1_divideBy cX1_divideBy 5 none, Cond.methodLink RX0 45 yX1_times, Cond.methodLink RX0 48 yX1_plusTimes, Cond.methodLink RX4 135 yX0_decrease, Cond.instanceMethod yX0_decrease, Cond.selects RX0 yX0_decrease yX0_decrease, Cond.code yX0_decrease cX0_decrease 3 none, Cond.methodLink RX4 138 yX4_count, Cond.instanceMethod yX4_count, Cond.selects RX4 yX4_count yX4_count, Cond.code yX4_count cX4_count 5 (some .int), Cond.fieldLink RX4 13 "PrivateCounts" "rowCount" "I", Cond.fieldLink RX4 9 "PrivateCounts" "rows" "[I", Cond.methodLink RX4 142 yX3_nearestTo, Cond.instanceMethod yX3_nearestTo, Cond.selects RX3 yX3_nearestTo yX3_nearestTo, Cond.code yX3_nearestTo cX3_nearestTo 2 (some .int), Cond.fieldLink RX3 20 "PrivateCounts$Table" "low" "I", Cond.fieldLink RX3 23 "PrivateCounts$Table" "high" "I", Cond.methodLink RX4 94 yX3_outcomeOf, Cond.instanceMethod yX3_outcomeOf, Cond.selects RX3 yX3_outcomeOf yX3_outcomeOf, Cond.code yX3_outcomeOf cX3_outcomeOf 7 (some .int)]
def wsL_ask_r6 : List Cond := [Cond.methodLink RX3 38 yX3_weightOf, Cond.instanceMethod yX3_weightOf, Cond.selects RX3 yX3_weightOf yX3_weightOf, Cond.code yX3_weightOf cX3_weightOf 5 (some .long), Cond.fieldLink RX3 17 "PrivateCounts$Table" "b" "I", Cond.fieldLink RX3 13 "PrivateCounts$Table" "a" "I", Cond.methodLink RX3 34 yX3_holds, Cond.instanceMethod yX3_holds, Cond.selects RX3 yX3_holds yX3_holds, Cond.code yX3_holds cX3_holds 2 (some .boolean), Cond.methodLink RX3 26 yX3_power, Cond.static yX3_power, Cond.code yX3_power cX3_power 5 (some .long)]
def wsL_ask : List Cond := .codeWith yL_ask cL_ask 9 (some .int) [(0, 16, 19, 19)] :: ((wsL_ask_r1 ++ (wsL_ask_r2 ++ (wsL_ask_r3 ++ (wsL_ask_r4 ++ (wsL_ask_r5 ++ wsL_ask_r6))))) ++ wsX40 ++ wsX30 ++ wsX20 ++ wsX10 ++ wsX00 ++ (vx_atS RX4 68 "java/lang/IllegalArgumentException" ["java/lang/RuntimeException", "java/lang/Exception"]).filter goodWord)
def wsL_limb : List Cond := .codeWith yL_limb cL_limb 6 (some .int) [(0, 12, 15, 13)] :: ([.classLink RL 13 "java/lang/IndexOutOfBoundsException", .methodLink RL 46 yX4_limb, .instanceMethod yX4_limb, .selects RX4 yX4_limb yX4_limb, .initialized RX4, .code yX4_limb cX4_limb 6 (some .int), .classLink RX4 53 "java/lang/IndexOutOfBoundsException", .initialized "java/lang/IndexOutOfBoundsException", .fieldLink RX4 34 "PrivateCounts" "granted" "LPrivateCounts$Fraction;", .fieldLink RX4 38 "PrivateCounts" "spent" "LPrivateCounts$Fraction;", .fieldLink RX4 41 "PrivateCounts" "left" "LPrivateCounts$Fraction;", .fieldLink RX4 148 "PrivateCounts$Fraction" "numerator" "LPrivateCounts$Natural;", .fieldLink RX4 152 "PrivateCounts$Fraction" "denominator" "LPrivateCounts$Natural;", .fieldLink RX4 155 "PrivateCounts$Natural" "size" "I", .methodLink RX4 160 yX1_limbAt, .instanceMethod yX1_limbAt, .selects RX1 yX1_limbAt yX1_limbAt, .initialized RX1, .code yX1_limbAt cX1_limbAt 2 (some .int), .fieldLink RX1 13 "PrivateCounts$Natural" "size" "I", .fieldLink RX1 9 "PrivateCounts$Natural" "limbs" "[I"] ++ wsX40 ++ wsX00 ++ wsX10 ++ (vx_atS RX4 57 "java/lang/IndexOutOfBoundsException" ["java/lang/RuntimeException", "java/lang/Exception"]).filter goodWord)
def wsL_told : List Cond := .codeWith yL_told cL_told 4 (some .int) [(0, 9, 12, 13)] :: ([.classLink RL 13 "java/lang/IndexOutOfBoundsException", .methodLink RL 50 yX4_told, .instanceMethod yX4_told, .selects RX4 yX4_told yX4_told, .initialized RX4, .code yX4_told cX4_told 2 (some .int), .classLink RX4 53 "java/lang/IndexOutOfBoundsException", .initialized "java/lang/IndexOutOfBoundsException", .fieldLink RX4 44 "PrivateCounts" "answered" "I", .fieldLink RX4 47 "PrivateCounts" "refusedForCost" "I", .fieldLink RX4 50 "PrivateCounts" "refusedForBudget" "I", .fieldLink RX4 13 "PrivateCounts" "rowCount" "I", .fieldLink RX4 20 "PrivateCounts" "weights" "LPrivateCounts$Table;", .fieldLink RX4 163 "PrivateCounts$Table" "low" "I", .fieldLink RX4 166 "PrivateCounts$Table" "high" "I", .fieldLink RX4 169 "PrivateCounts$Table" "a" "I", .fieldLink RX4 172 "PrivateCounts$Table" "b" "I"] ++ wsX40 ++ wsX30 ++ (vx_atS RX4 57 "java/lang/IndexOutOfBoundsException" ["java/lang/RuntimeException", "java/lang/Exception"]).filter goodWord)
def wsL_law0_r1 : List Cond := [Cond.classLink RL 8 RX4, Cond.instantiable RX4 10, Cond.initialized RX4, Cond.classLink RL 54 RX5, Cond.instantiable RX5 16, Cond.initialized RX5, Cond.arrayClass .long, Cond.constantLong RL 94 (4294967295), Cond.methodLink RL 53 yX4_init, Cond.instanceMethod yX4_init, Cond.code yX4_init cX4_init 1 none, Cond.methodLink RX4 1 objectInit, Cond.instanceMethod objectInit, Cond.code objectInit ⟨#[0xb1]⟩ 1 none, Cond.arrayClass .int, Cond.fieldLink RX4 9 "PrivateCounts" "rows" "[I", Cond.fieldLink RX4 13 "PrivateCounts" "rowCount" "I", Cond.classLink RX4 17 RX3, Cond.instantiable RX3 5, Cond.initialized RX3, Cond.fieldLink RX4 20 "PrivateCounts" "weights" "LPrivateCounts$Table;", Cond.classLink RX4 24 RX2, Cond.instantiable RX2 2, Cond.initialized RX2]
def wsL_law0_r2 : List Cond := [Cond.fieldLink RX4 27 "PrivateCounts" "series" "LPrivateCounts$Series;", Cond.classLink RX4 31 RX0, Cond.instantiable RX0 2, Cond.initialized RX0, Cond.fieldLink RX4 34 "PrivateCounts" "granted" "LPrivateCounts$Fraction;", Cond.fieldLink RX4 38 "PrivateCounts" "spent" "LPrivateCounts$Fraction;", Cond.fieldLink RX4 41 "PrivateCounts" "left" "LPrivateCounts$Fraction;", Cond.fieldLink RX4 44 "PrivateCounts" "answered" "I", Cond.fieldLink RX4 47 "PrivateCounts" "refusedForCost" "I", Cond.fieldLink RX4 50 "PrivateCounts" "refusedForBudget" "I", Cond.methodLink RX4 19 yX3_init, Cond.instanceMethod yX3_init, Cond.code yX3_init cX3_init 1 none, Cond.methodLink RX3 1 objectInit, Cond.methodLink RX3 7 yX3_become, Cond.instanceMethod yX3_become, Cond.selects RX3 yX3_become yX3_become, Cond.code yX3_become cX3_become 5 none, Cond.fieldLink RX3 13 "PrivateCounts$Table" "a" "I", Cond.fieldLink RX3 17 "PrivateCounts$Table" "b" "I", Cond.fieldLink RX3 20 "PrivateCounts$Table" "low" "I", Cond.fieldLink RX3 23 "PrivateCounts$Table" "high" "I", Cond.fieldLink RX3 30 "PrivateCounts$Table" "total" "J", Cond.methodLink RX3 26 yX3_power]
def wsL_law0_r3 : List Cond := [Cond.static yX3_power, Cond.code yX3_power cX3_power 5 (some .long), Cond.instanceMethod yX2_init, Cond.code yX2_init cX2_init 1 none, Cond.methodLink RX2 1 objectInit, Cond.classLink RX2 7 RX1, Cond.instantiable RX1 2, Cond.initialized RX1, Cond.fieldLink RX2 10 "PrivateCounts$Series" "missing" "LPrivateCounts$Natural;", Cond.fieldLink RX2 16 "PrivateCounts$Series" "term" "LPrivateCounts$Natural;", Cond.instanceMethod yX1_init, Cond.code yX1_init cX1_init 1 none, Cond.methodLink RX1 1 objectInit, Cond.fieldLink RX1 9 "PrivateCounts$Natural" "limbs" "[I", Cond.fieldLink RX1 13 "PrivateCounts$Natural" "size" "I", Cond.methodLink RX4 33 yX0_init, Cond.instanceMethod yX0_init, Cond.code yX0_init cX0_init 1 none, Cond.methodLink RX0 1 objectInit, Cond.classLink RX0 7 RX1, Cond.fieldLink RX0 10 "PrivateCounts$Fraction" "numerator" "LPrivateCounts$Natural;", Cond.fieldLink RX0 16 "PrivateCounts$Fraction" "denominator" "LPrivateCounts$Natural;", Cond.methodLink RX0 19 yX1_become, Cond.instanceMethod yX1_become]
def wsL_law0_r4 : List Cond := [Cond.selects RX1 yX1_become yX1_become, Cond.code yX1_become cX1_become 2 none, Cond.methodLink RX1 17 yX1_append, Cond.instanceMethod yX1_append, Cond.selects RX1 yX1_append yX1_append, Cond.code yX1_append cX1_append 3 none, Cond.methodLink RL 56 yX5_init, Cond.instanceMethod yX5_init, Cond.code yX5_init cX5_init 2 none, Cond.methodLink RX5 1 objectInit, Cond.fieldLink RX5 7 "PrivateCountsModel" "row" "[I", Cond.fieldLink RX5 13 "PrivateCountsModel" "a" "I", Cond.fieldLink RX5 17 "PrivateCountsModel" "b" "I", Cond.fieldLink RX5 20 "PrivateCountsModel" "high" "I", Cond.fieldLink RX5 23 "PrivateCountsModel" "figure" "[J", Cond.fieldLink RX5 27 "PrivateCountsModel" "length" "[I", Cond.fieldLink RX5 30 "PrivateCountsModel" "top" "[J", Cond.fieldLink RX5 33 "PrivateCountsModel" "below" "[J", Cond.fieldLink RX5 36 "PrivateCountsModel" "term" "[I", Cond.fieldLink RX5 39 "PrivateCountsModel" "whole" "[I", Cond.methodLink RX5 42 yX5_put, Cond.instanceMethod yX5_put, Cond.selects RX5 yX5_put yX5_put, Cond.code yX5_put cX5_put 4 none]
def wsL_law0_r5 : List Cond := [Cond.constantLong RX5 49 (2147483647), Cond.methodLink RX5 51 yX5_trim, Cond.instanceMethod yX5_trim, Cond.selects RX5 yX5_trim yX5_trim, Cond.code yX5_trim cX5_trim 4 none, Cond.methodLink RL 57 yX4_add, Cond.instanceMethod yX4_add, Cond.selects RX4 yX4_add yX4_add, Cond.code yX4_add cX4_add 2 (some .int), Cond.methodLink RL 60 yX5_add, Cond.instanceMethod yX5_add, Cond.selects RX5 yX5_add yX5_add, Cond.code yX5_add cX5_add 2 (some .int), Cond.fieldLink RX5 46 "PrivateCountsModel" "thrown" "I", Cond.fieldLink RX5 98 "PrivateCountsModel" "rows" "I", Cond.methodLink RL 61 yL_remove, Cond.static yL_remove, Cond.initialized RL, Cond.codeWith yL_remove cL_remove 4 (some .int) [(0, 9, 12, 13)], Cond.classLink RL 13 "java/lang/IndexOutOfBoundsException", Cond.methodLink RL 7 yX4_remove, Cond.instanceMethod yX4_remove, Cond.selects RX4 yX4_remove yX4_remove, Cond.code yX4_remove cX4_remove 4 (some .int)]
def wsL_law0_r6 : List Cond := [Cond.classLink RX4 53 "java/lang/IndexOutOfBoundsException", Cond.initialized "java/lang/IndexOutOfBoundsException", Cond.methodLink RL 66 yX5_remove, Cond.instanceMethod yX5_remove, Cond.selects RX5 yX5_remove yX5_remove, Cond.code yX5_remove cX5_remove 4 (some .int), Cond.methodLink RL 67 yX5_thrown, Cond.instanceMethod yX5_thrown, Cond.selects RX5 yX5_thrown yX5_thrown, Cond.code yX5_thrown cX5_thrown 1 (some .int), Cond.methodLink RL 71 yX4_count, Cond.instanceMethod yX4_count, Cond.selects RX4 yX4_count yX4_count, Cond.code yX4_count cX4_count 5 (some .int), Cond.methodLink RL 75 yX5_count, Cond.instanceMethod yX5_count, Cond.selects RX5 yX5_count yX5_count, Cond.code yX5_count cX5_count 3 (some .int), Cond.methodLink RX5 101 yX5_countRows, Cond.instanceMethod yX5_countRows, Cond.selects RX5 yX5_countRows yX5_countRows, Cond.code yX5_countRows cX5_countRows 5 (some .int), Cond.methodLink RL 76 yL_table, Cond.static yL_table]
def wsL_law0_r7 : List Cond := [Cond.codeWith yL_table cL_table 7 (some .int) [(0, 13, 16, 19)], Cond.classLink RL 19 "java/lang/IllegalArgumentException", Cond.methodLink RL 15 yX4_table, Cond.instanceMethod yX4_table, Cond.selects RX4 yX4_table yX4_table, Cond.code yX4_table cX4_table 5 (some .long), Cond.classLink RX4 64 "java/lang/IllegalArgumentException", Cond.initialized "java/lang/IllegalArgumentException", Cond.fieldLink RX4 73 "PrivateCounts$Table" "total" "J", Cond.methodLink RX4 60 yX3_isAllowed, Cond.static yX3_isAllowed, Cond.code yX3_isAllowed cX3_isAllowed 4 (some .boolean), Cond.methodLink RX4 69 yX3_become, Cond.methodLink RL 79 yX5_table, Cond.instanceMethod yX5_table, Cond.selects RX5 yX5_table yX5_table, Cond.code yX5_table cX5_table 6 (some .long), Cond.fieldLink RX5 104 "PrivateCountsModel" "low" "I", Cond.methodLink RX5 111 yX5_allOf, Cond.instanceMethod yX5_allOf, Cond.selects RX5 yX5_allOf yX5_allOf, Cond.code yX5_allOf cX5_allOf 1 (some .long), Cond.methodLink RX5 107 yX5_power, Cond.static yX5_power]
def wsL_law0_r8 : List Cond := [Cond.code yX5_power cX5_power 6 (some .long), Cond.methodLink RL 80 yX4_all, Cond.instanceMethod yX4_all, Cond.selects RX4 yX4_all yX4_all, Cond.code yX4_all cX4_all 1 (some .long), Cond.methodLink RL 84 yX5_all, Cond.instanceMethod yX5_all, Cond.selects RX5 yX5_all yX5_all, Cond.code yX5_all cX5_all 1 (some .long), Cond.methodLink RL 85 yX4_weight, Cond.instanceMethod yX4_weight, Cond.selects RX4 yX4_weight yX4_weight, Cond.code yX4_weight cX4_weight 3 (some .long), Cond.methodLink RX4 77 yX3_weightOf, Cond.instanceMethod yX3_weightOf, Cond.selects RX3 yX3_weightOf yX3_weightOf, Cond.code yX3_weightOf cX3_weightOf 5 (some .long), Cond.methodLink RX3 34 yX3_holds, Cond.instanceMethod yX3_holds, Cond.selects RX3 yX3_holds yX3_holds, Cond.code yX3_holds cX3_holds 2 (some .boolean), Cond.methodLink RL 89 yX5_weight, Cond.instanceMethod yX5_weight, Cond.selects RX5 yX5_weight yX5_weight]
def wsL_law0_r9 : List Cond := [Cond.code yX5_weight cX5_weight 3 (some .long), Cond.methodLink RX5 119 yX5_weightOf, Cond.instanceMethod yX5_weightOf, Cond.selects RX5 yX5_weightOf yX5_weightOf, Cond.code yX5_weightOf cX5_weightOf 6 (some .long), Cond.methodLink RX5 115 yX5_isOut, Cond.instanceMethod yX5_isOut, Cond.selects RX5 yX5_isOut yX5_isOut, Cond.code yX5_isOut cX5_isOut 2 (some .boolean), Cond.methodLink RL 90 yX4_upTo, Cond.instanceMethod yX4_upTo, Cond.selects RX4 yX4_upTo yX4_upTo, Cond.code yX4_upTo cX4_upTo 3 (some .long), Cond.methodLink RX4 81 yX3_sumTo, Cond.instanceMethod yX3_sumTo, Cond.selects RX3 yX3_sumTo yX3_sumTo, Cond.code yX3_sumTo cX3_sumTo 6 (some .long), Cond.methodLink RX3 38 yX3_weightOf, Cond.methodLink RL 93 yX5_upTo, Cond.instanceMethod yX5_upTo, Cond.selects RX5 yX5_upTo yX5_upTo, Cond.code yX5_upTo cX5_upTo 6 (some .long), Cond.methodLink RL 96 yL_draw, Cond.static yL_draw]
def wsL_law0_r10 : List Cond := [Cond.codeWith yL_draw cL_draw 6 (some .int) [(0, 11, 14, 19)], Cond.methodLink RL 21 yX4_draw, Cond.instanceMethod yX4_draw, Cond.selects RX4 yX4_draw yX4_draw, Cond.code yX4_draw cX4_draw 4 (some .int), Cond.methodLink RX4 84 yX3_holds, Cond.methodLink RX4 88 yX3_hasCoin, Cond.instanceMethod yX3_hasCoin, Cond.selects RX3 yX3_hasCoin yX3_hasCoin, Cond.code yX3_hasCoin cX3_hasCoin 3 (some .boolean), Cond.methodLink RX4 94 yX3_outcomeOf, Cond.instanceMethod yX3_outcomeOf, Cond.selects RX3 yX3_outcomeOf yX3_outcomeOf, Cond.code yX3_outcomeOf cX3_outcomeOf 7 (some .int), Cond.methodLink RL 99 yX5_draw, Cond.instanceMethod yX5_draw, Cond.selects RX5 yX5_draw yX5_draw, Cond.code yX5_draw cX5_draw 4 (some .int), Cond.methodLink RX5 122 yX5_noCoin, Cond.instanceMethod yX5_noCoin, Cond.selects RX5 yX5_noCoin yX5_noCoin, Cond.code yX5_noCoin cX5_noCoin 3 (some .boolean), Cond.methodLink RX5 126 yX5_drawn, Cond.instanceMethod yX5_drawn]
def wsL_law0_r11 : List Cond := [Cond.selects RX5 yX5_drawn yX5_drawn, Cond.code yX5_drawn cX5_drawn 7 (some .int), Cond.methodLink RL 100 yL_isNear, Cond.static yL_isNear, Cond.codeWith yL_isNear cL_isNear 5 (some .int) [(0, 17, 20, 19)], Cond.methodLink RL 25 yX4_isNear, Cond.instanceMethod yX4_isNear, Cond.selects RX4 yX4_isNear yX4_isNear, Cond.code yX4_isNear cX4_isNear 3 (some .boolean), Cond.methodLink RX4 100 yX3_isWithinRatio, Cond.instanceMethod yX3_isWithinRatio, Cond.selects RX3 yX3_isWithinRatio yX3_isWithinRatio, Cond.code yX3_isWithinRatio cX3_isWithinRatio 4 (some .boolean), Cond.methodLink RL 103 yX5_isNear, Cond.instanceMethod yX5_isNear, Cond.selects RX5 yX5_isNear yX5_isNear, Cond.code yX5_isNear cX5_isNear 5 (some .boolean), Cond.methodLink RL 104 yL_budget, Cond.static yL_budget, Cond.codeWith yL_budget cL_budget 4 (some .int) [(0, 6, 9, 19)], Cond.methodLink RL 29 yX4_budget, Cond.instanceMethod yX4_budget, Cond.selects RX4 yX4_budget yX4_budget, Cond.code yX4_budget cX4_budget 3 none]
def wsL_law0_r12 : List Cond := [Cond.methodLink RX4 104 yX4_isGrant, Cond.static yX4_isGrant, Cond.code yX4_isGrant cX4_isGrant 2 (some .boolean), Cond.methodLink RX4 124 yX4_isDenominator, Cond.static yX4_isDenominator, Cond.code yX4_isDenominator cX4_isDenominator 1 (some .boolean), Cond.methodLink RX4 109 yX0_become, Cond.instanceMethod yX0_become, Cond.selects RX0 yX0_become yX0_become, Cond.code yX0_become cX0_become 4 none, Cond.methodLink RX0 23 yX0_commonDivisor, Cond.static yX0_commonDivisor, Cond.code yX0_commonDivisor cX0_commonDivisor 6 (some .int), Cond.methodLink RX0 27 yX1_divideBy, Cond.instanceMethod yX1_divideBy, Cond.selects RX1 yX1_divideBy yX1_divideBy, Cond.code yX1_divideBy cX1_divideBy 5 none, Cond.methodLink RX1 23 yX1_trim, Cond.instanceMethod yX1_trim, Cond.selects RX1 yX1_trim yX1_trim, Cond.code yX1_trim cX1_trim 1 none, Cond.methodLink RX1 26 yX1_limbAt, Cond.instanceMethod yX1_limbAt, Cond.selects RX1 yX1_limbAt yX1_limbAt]
def wsL_law0_r13 : List Cond := [Cond.code yX1_limbAt cX1_limbAt 2 (some .int), Cond.methodLink RL 107 yX5_budget, Cond.instanceMethod yX5_budget, Cond.selects RX5 yX5_budget yX5_budget, Cond.code yX5_budget cX5_budget 3 none, Cond.fieldLink RX5 152 "PrivateCountsModel" "answered" "I", Cond.fieldLink RX5 155 "PrivateCountsModel" "tooLittle" "I", Cond.fieldLink RX5 158 "PrivateCountsModel" "tooMuch" "I", Cond.methodLink RX5 146 yX5_noPart, Cond.static yX5_noPart, Cond.code yX5_noPart cX5_noPart 2 (some .boolean), Cond.methodLink RX5 149 yX5_set, Cond.instanceMethod yX5_set, Cond.selects RX5 yX5_set yX5_set, Cond.code yX5_set cX5_set 4 none, Cond.methodLink RX5 89 yX5_lowest, Cond.instanceMethod yX5_lowest, Cond.selects RX5 yX5_lowest yX5_lowest, Cond.code yX5_lowest cX5_lowest 4 none, Cond.methodLink RX5 82 yX5_divisor, Cond.instanceMethod yX5_divisor, Cond.selects RX5 yX5_divisor yX5_divisor, Cond.code yX5_divisor cX5_divisor 5 none, Cond.constantLong RX5 65 (2)]
def wsL_law0_r14 : List Cond := [Cond.methodLink RX5 62 yX5_copy, Cond.instanceMethod yX5_copy, Cond.selects RX5 yX5_copy yX5_copy, Cond.code yX5_copy cX5_copy 4 none, Cond.methodLink RX5 67 yX5_halve, Cond.instanceMethod yX5_halve, Cond.selects RX5 yX5_halve yX5_halve, Cond.code yX5_halve cX5_halve 7 none, Cond.methodLink RX5 71 yX5_compare, Cond.instanceMethod yX5_compare, Cond.selects RX5 yX5_compare yX5_compare, Cond.code yX5_compare cX5_compare 7 (some .int), Cond.methodLink RX5 55 yX5_figureOf, Cond.instanceMethod yX5_figureOf, Cond.selects RX5 yX5_figureOf yX5_figureOf, Cond.code yX5_figureOf cX5_figureOf 3 (some .long), Cond.methodLink RX5 75 yX5_minus, Cond.instanceMethod yX5_minus, Cond.selects RX5 yX5_minus yX5_minus, Cond.code yX5_minus cX5_minus 10 none, Cond.methodLink RX5 59 yX5_take, Cond.instanceMethod yX5_take, Cond.selects RX5 yX5_take yX5_take, Cond.code yX5_take cX5_take 4 none]
def wsL_law0_r15 : List Cond := [Cond.methodLink RX5 79 yX5_plus, Cond.instanceMethod yX5_plus, Cond.selects RX5 yX5_plus yX5_plus, Cond.code yX5_plus cX5_plus 10 none, Cond.methodLink RX5 85 yX5_divide, Cond.instanceMethod yX5_divide, Cond.selects RX5 yX5_divide yX5_divide, Cond.code yX5_divide cX5_divide 17 none, Cond.methodLink RL 108 yL_raise, Cond.static yL_raise, Cond.codeWith yL_raise cL_raise 4 (some .int) [(0, 6, 9, 19)], Cond.methodLink RL 33 yX4_raise, Cond.instanceMethod yX4_raise, Cond.selects RX4 yX4_raise yX4_raise, Cond.code yX4_raise cX4_raise 3 none, Cond.methodLink RX4 112 yX0_increase, Cond.instanceMethod yX0_increase, Cond.selects RX0 yX0_increase yX0_increase, Cond.code yX0_increase cX0_increase 3 none, Cond.methodLink RX0 30 yX0_change, Cond.instanceMethod yX0_change, Cond.selects RX0 yX0_change yX0_change, Cond.code yX0_change cX0_change 9 none, Cond.methodLink RX0 38 yX0_quotient]
def wsL_law0_r16 : List Cond := [Cond.static yX0_quotient, Cond.code yX0_quotient cX0_quotient 2 (some .int), Cond.methodLink RX0 41 yX1_restBy, Cond.instanceMethod yX1_restBy, Cond.selects RX1 yX1_restBy yX1_restBy, Cond.code yX1_restBy cX1_restBy 5 (some .int), Cond.methodLink RX0 45 yX1_times, Cond.instanceMethod yX1_times, Cond.selects RX1 yX1_times yX1_times, Cond.code yX1_times cX1_times 5 none, Cond.constantLong RX1 21 (2147483647), Cond.methodLink RX0 48 yX1_plusTimes, Cond.instanceMethod yX1_plusTimes, Cond.selects RX1 yX1_plusTimes yX1_plusTimes, Cond.code yX1_plusTimes cX1_plusTimes 7 none, Cond.methodLink RL 110 yX5_raise, Cond.instanceMethod yX5_raise, Cond.selects RX5 yX5_raise yX5_raise, Cond.code yX5_raise cX5_raise 3 none, Cond.methodLink RX5 161 yX5_add0, Cond.instanceMethod yX5_add0, Cond.selects RX5 yX5_add0 yX5_add0, Cond.code yX5_add0 cX5_add0 4 none, Cond.methodLink RX5 95 yX5_cross]
def wsL_law0_r17 : List Cond := [Cond.instanceMethod yX5_cross, Cond.selects RX5 yX5_cross yX5_cross, Cond.code yX5_cross cX5_cross 3 none, Cond.methodLink RX5 92 yX5_times, Cond.instanceMethod yX5_times, Cond.selects RX5 yX5_times yX5_times, Cond.code yX5_times cX5_times 11 none, Cond.methodLink RL 111 yL_isEnough, Cond.static yL_isEnough, Cond.codeWith yL_isEnough cL_isEnough 5 (some .int) [(0, 17, 20, 19)], Cond.methodLink RL 36 yX4_isEnough, Cond.instanceMethod yX4_isEnough, Cond.selects RX4 yX4_isEnough yX4_isEnough, Cond.code yX4_isEnough cX4_isEnough 3 (some .boolean), Cond.methodLink RX4 115 yX4_isCost, Cond.static yX4_isCost, Cond.code yX4_isCost cX4_isCost 2 (some .boolean), Cond.methodLink RX4 120 yX2_reaches, Cond.instanceMethod yX2_reaches, Cond.selects RX2 yX2_reaches yX2_reaches, Cond.code yX2_reaches cX2_reaches 6 (some .boolean), Cond.fieldLink RX2 19 "PrivateCounts$Table" "b" "I", Cond.fieldLink RX2 25 "PrivateCounts$Table" "a" "I", Cond.methodLink RX2 28 yX1_become]
def wsL_law0_r18 : List Cond := [Cond.methodLink RX2 32 yX1_times, Cond.methodLink RX2 35 yX1_isLess, Cond.static yX1_isLess, Cond.code yX1_isLess cX1_isLess 8 (some .boolean), Cond.methodLink RX2 39 yX1_plusTimes, Cond.methodLink RL 113 yX5_isEnough, Cond.instanceMethod yX5_isEnough, Cond.selects RX5 yX5_isEnough yX5_isEnough, Cond.code yX5_isEnough cX5_isEnough 3 (some .boolean), Cond.methodLink RX5 139 yX5_noCost, Cond.static yX5_noCost, Cond.code yX5_noCost cX5_noCost 2 (some .boolean), Cond.methodLink RX5 143 yX5_enough, Cond.instanceMethod yX5_enough, Cond.selects RX5 yX5_enough yX5_enough, Cond.code yX5_enough cX5_enough 13 (some .boolean), Cond.constant RX5 132 (65535), Cond.constantLong RX5 130 (65535), Cond.constantLong RX5 133 (65536), Cond.methodLink RX5 135 yX5_reaches, Cond.instanceMethod yX5_reaches, Cond.selects RX5 yX5_reaches yX5_reaches, Cond.code yX5_reaches cX5_reaches 8 (some .boolean), Cond.methodLink RL 114 yL_least]
def wsL_law0_r19 : List Cond := [Cond.static yL_least, Cond.codeWith yL_least cL_least 4 (some .int) [(0, 9, 12, 19)], Cond.methodLink RL 39 yX4_least, Cond.instanceMethod yX4_least, Cond.selects RX4 yX4_least yX4_least, Cond.code yX4_least cX4_least 6 (some .int), Cond.methodLink RL 116 yX5_least, Cond.instanceMethod yX5_least, Cond.selects RX5 yX5_least yX5_least, Cond.code yX5_least cX5_least 6 (some .int), Cond.methodLink RL 117 yL_ask, Cond.static yL_ask, Cond.codeWith yL_ask cL_ask 9 (some .int) [(0, 16, 19, 19)], Cond.methodLink RL 42 yX4_ask, Cond.instanceMethod yX4_ask, Cond.selects RX4 yX4_ask yX4_ask, Cond.code yX4_ask cX4_ask 7 (some .int), Cond.constant RX4 131 (-2147483648), Cond.methodLink RX4 132 yX0_isLessThan, Cond.instanceMethod yX0_isLessThan, Cond.selects RX0 yX0_isLessThan yX0_isLessThan, Cond.code yX0_isLessThan cX0_isLessThan 3 (some .boolean), Cond.methodLink RX0 34 yX1_isLess, Cond.methodLink RX4 135 yX0_decrease]
def wsL_law0_r20 : List Cond := [Cond.instanceMethod yX0_decrease, Cond.selects RX0 yX0_decrease yX0_decrease, Cond.code yX0_decrease cX0_decrease 3 none, Cond.methodLink RX4 138 yX4_count, Cond.methodLink RX4 142 yX3_nearestTo, Cond.instanceMethod yX3_nearestTo, Cond.selects RX3 yX3_nearestTo yX3_nearestTo, Cond.code yX3_nearestTo cX3_nearestTo 2 (some .int), Cond.methodLink RL 120 yX5_ask, Cond.instanceMethod yX5_ask, Cond.selects RX5 yX5_ask yX5_ask, Cond.code yX5_ask cX5_ask 8 (some .int), Cond.constant RX5 164 (-2147483648), Cond.methodLink RX5 165 yX5_isMore, Cond.instanceMethod yX5_isMore, Cond.selects RX5 yX5_isMore yX5_isMore, Cond.code yX5_isMore cX5_isMore 3 (some .boolean), Cond.methodLink RL 121 yL_limb, Cond.static yL_limb, Cond.codeWith yL_limb cL_limb 6 (some .int) [(0, 12, 15, 13)], Cond.methodLink RL 46 yX4_limb, Cond.instanceMethod yX4_limb, Cond.selects RX4 yX4_limb yX4_limb, Cond.code yX4_limb cX4_limb 6 (some .int)]
def wsL_law0_r21 : List Cond := [Cond.fieldLink RX4 148 "PrivateCounts$Fraction" "numerator" "LPrivateCounts$Natural;", Cond.fieldLink RX4 152 "PrivateCounts$Fraction" "denominator" "LPrivateCounts$Natural;", Cond.fieldLink RX4 155 "PrivateCounts$Natural" "size" "I", Cond.methodLink RX4 160 yX1_limbAt, Cond.methodLink RL 124 yX5_limb, Cond.instanceMethod yX5_limb, Cond.selects RX5 yX5_limb yX5_limb, Cond.code yX5_limb cX5_limb 5 (some .int), Cond.methodLink RX5 168 yX5_subtract, Cond.instanceMethod yX5_subtract, Cond.selects RX5 yX5_subtract yX5_subtract, Cond.code yX5_subtract cX5_subtract 4 none, Cond.methodLink RL 125 yL_told, Cond.static yL_told, Cond.codeWith yL_told cL_told 4 (some .int) [(0, 9, 12, 13)], Cond.methodLink RL 50 yX4_told, Cond.instanceMethod yX4_told, Cond.selects RX4 yX4_told yX4_told, Cond.code yX4_told cX4_told 2 (some .int), Cond.fieldLink RX4 163 "PrivateCounts$Table" "low" "I", Cond.fieldLink RX4 166 "PrivateCounts$Table" "high" "I", Cond.fieldLink RX4 169 "PrivateCounts$Table" "a" "I", Cond.fieldLink RX4 172 "PrivateCounts$Table" "b" "I", Cond.methodLink RL 127 yX5_told]
def wsL_law0_r22 : List Cond := [Cond.instanceMethod yX5_told, Cond.selects RX5 yX5_told yX5_told, Cond.code yX5_told cX5_told 2 (some .int)]
def wsL_law0 : List Cond := (wsL_law0_r1 ++ (wsL_law0_r2 ++ (wsL_law0_r3 ++ (wsL_law0_r4 ++ (wsL_law0_r5 ++ (wsL_law0_r6 ++ (wsL_law0_r7 ++ (wsL_law0_r8 ++ (wsL_law0_r9 ++ (wsL_law0_r10 ++ (wsL_law0_r11 ++ (wsL_law0_r12 ++ (wsL_law0_r13 ++ (wsL_law0_r14 ++ (wsL_law0_r15 ++ (wsL_law0_r16 ++ (wsL_law0_r17 ++ (wsL_law0_r18 ++ (wsL_law0_r19 ++ (wsL_law0_r20 ++ (wsL_law0_r21 ++ wsL_law0_r22))))))))))))))))))))) ++ wsX40 ++ wsX50 ++ wsX30 ++ wsX20 ++ wsX00 ++ wsX10 ++ ([] : List Cond)
def wsL_law : List Cond := wsL_law0 ++ (vx_atS RX4 57 "java/lang/IndexOutOfBoundsException" ["java/lang/RuntimeException", "java/lang/Exception"]).filter goodWord ++ (vx_atS RX4 68 "java/lang/IllegalArgumentException" ["java/lang/RuntimeException", "java/lang/Exception"]).filter goodWord
abbrev vwCl : List vw_C := [(RX0, TX0, 2), (RX1, TX1, 2), (RX2, TX2, 2), (RX3, TX3, 5), (RX4, TX4, 10), (RX5, TX5, 16)]
end
section
set_option maxRecDepth 20000 in
theorem ggX0_init_X1_init : GoodIn wsX0_init wsX1_init := goodIn_r _ [10, 11, 2, 3, 12, 13, 14, 23, 24] (by decide +kernel) (by decide +kernel)
set_option maxRecDepth 20000 in
theorem gX0_init_X1_init_n9 : GoodIn wsX0_init (wsX1_init) := ggX0_init_X1_init
set_option maxRecDepth 20000 in
theorem ggX0_init_X1_become : GoodIn wsX0_init wsX1_become := goodIn_r _ [18, 14, 19, 20, 21, 6, 22, 13, 23, 24] (by decide +kernel) (by decide +kernel)
set_option maxRecDepth 20000 in
theorem gX0_init_X1_become : GoodIn wsX0_init (wsV RX0 19 RX1 yX1_become wsX1_become) := goodIn_app (goodIn_of _ (by decide +kernel)) ggX0_init_X1_become
theorem dX0_init_0 : decode cX0_init 0 = .ok (.aload_n 0, 1) := by decide +kernel
theorem dX0_init_1 : decode cX0_init 1 = .ok (.invokespecial 1, 3) := by decide +kernel
theorem dX0_init_4 : decode cX0_init 4 = .ok (.aload_n 0, 1) := by decide +kernel
theorem dX0_init_5 : decode cX0_init 5 = .ok (.new 7, 3) := by decide +kernel
theorem dX0_init_8 : decode cX0_init 8 = .ok (.dup, 1) := by decide +kernel
theorem dX0_init_9 : decode cX0_init 9 = .ok (.invokespecial 9, 3) := by decide +kernel
theorem dX0_init_12 : decode cX0_init 12 = .ok (.putfield 10, 3) := by decide +kernel
theorem dX0_init_15 : decode cX0_init 15 = .ok (.aload_n 0, 1) := by decide +kernel
theorem dX0_init_16 : decode cX0_init 16 = .ok (.new 7, 3) := by decide +kernel
theorem dX0_init_19 : decode cX0_init 19 = .ok (.dup, 1) := by decide +kernel
theorem dX0_init_20 : decode cX0_init 20 = .ok (.invokespecial 9, 3) := by decide +kernel
theorem dX0_init_23 : decode cX0_init 23 = .ok (.putfield 16, 3) := by decide +kernel
theorem dX0_init_26 : decode cX0_init 26 = .ok (.aload_n 0, 1) := by decide +kernel
theorem dX0_init_27 : decode cX0_init 27 = .ok (.getfield 16, 3) := by decide +kernel
theorem dX0_init_30 : decode cX0_init 30 = .ok (.iconst 1, 1) := by decide +kernel
theorem dX0_init_31 : decode cX0_init 31 = .ok (.invokevirtual 19, 3) := by decide +kernel
theorem dX0_init_34 : decode cX0_init 34 = .ok (.return_, 1) := by decide +kernel
set_option maxRecDepth 20000 in
theorem ggX0_become_X0_commonDivisor : GoodIn wsX0_become wsX0_commonDivisor := goodIn_r _ [6] (by decide +kernel) (by decide +kernel)
set_option maxRecDepth 20000 in
theorem gX0_become_X0_commonDivisor : GoodIn wsX0_become (va_wsS RX0 23 yX0_commonDivisor wsX0_commonDivisor) := goodIn_app (goodIn_of _ (by decide +kernel)) ggX0_become_X0_commonDivisor
set_option maxRecDepth 20000 in
theorem ggX0_become_X1_become : GoodIn wsX0_become wsX1_become := goodIn_r _ [11, 12, 13, 14, 15, 10, 16, 17, 32, 33] (by decide +kernel) (by decide +kernel)
set_option maxRecDepth 20000 in
theorem gX0_become_X1_become : GoodIn wsX0_become (wsV RX0 19 RX1 yX1_become wsX1_become) := goodIn_app (goodIn_of _ (by decide +kernel)) ggX0_become_X1_become
set_option maxRecDepth 20000 in
theorem ggX0_become_X1_divideBy : GoodIn wsX0_become wsX1_divideBy := goodIn_r _ [21, 12, 17, 22, 23, 24, 10, 25, 26, 27, 28, 29, 32, 33] (by decide +kernel) (by decide +kernel)
set_option maxRecDepth 20000 in
theorem gX0_become_X1_divideBy : GoodIn wsX0_become (wsV RX0 27 RX1 yX1_divideBy wsX1_divideBy) := goodIn_app (goodIn_of _ (by decide +kernel)) ggX0_become_X1_divideBy
theorem dX0_become_0 : decode cX0_become 0 = .ok (.iload_n 1, 1) := by decide +kernel
theorem dX0_become_1 : decode cX0_become 1 = .ok (.iload_n 2, 1) := by decide +kernel
theorem dX0_become_2 : decode cX0_become 2 = .ok (.invokestatic 23, 3) := by decide +kernel
theorem dX0_become_5 : decode cX0_become 5 = .ok (.istore_n 3, 1) := by decide +kernel
theorem dX0_become_6 : decode cX0_become 6 = .ok (.aload_n 0, 1) := by decide +kernel
theorem dX0_become_7 : decode cX0_become 7 = .ok (.getfield 10, 3) := by decide +kernel
theorem dX0_become_10 : decode cX0_become 10 = .ok (.iload_n 1, 1) := by decide +kernel
theorem dX0_become_11 : decode cX0_become 11 = .ok (.invokevirtual 19, 3) := by decide +kernel
theorem dX0_become_14 : decode cX0_become 14 = .ok (.aload_n 0, 1) := by decide +kernel
theorem dX0_become_15 : decode cX0_become 15 = .ok (.getfield 10, 3) := by decide +kernel
theorem dX0_become_18 : decode cX0_become 18 = .ok (.iload_n 3, 1) := by decide +kernel
theorem dX0_become_19 : decode cX0_become 19 = .ok (.invokevirtual 27, 3) := by decide +kernel
theorem dX0_become_22 : decode cX0_become 22 = .ok (.aload_n 0, 1) := by decide +kernel
theorem dX0_become_23 : decode cX0_become 23 = .ok (.getfield 16, 3) := by decide +kernel
theorem dX0_become_26 : decode cX0_become 26 = .ok (.iload_n 2, 1) := by decide +kernel
theorem dX0_become_27 : decode cX0_become 27 = .ok (.invokevirtual 19, 3) := by decide +kernel
theorem dX0_become_30 : decode cX0_become 30 = .ok (.aload_n 0, 1) := by decide +kernel
theorem dX0_become_31 : decode cX0_become 31 = .ok (.getfield 16, 3) := by decide +kernel
theorem dX0_become_34 : decode cX0_become 34 = .ok (.iload_n 3, 1) := by decide +kernel
theorem dX0_become_35 : decode cX0_become 35 = .ok (.invokevirtual 27, 3) := by decide +kernel
theorem dX0_become_38 : decode cX0_become 38 = .ok (.return_, 1) := by decide +kernel
set_option maxRecDepth 20000 in
theorem ggX0_increase_X0_change : GoodIn wsX0_increase wsX0_change := goodIn_r _ [5, 6, 7, 8, 9, 4, 10, 11, 12, 13, 14, 15, 16, 17, 18, 19, 20, 21, 22, 23, 24, 25, 26, 27, 28, 29, 30, 31, 32, 33, 34, 35, 36, 37, 38, 39, 40, 41, 42, 43, 44, 45, 46, 47, 48, 49] (by decide +kernel) (by decide +kernel)
set_option maxRecDepth 20000 in
theorem gX0_increase_X0_change : GoodIn wsX0_increase (wsV RX0 30 RX0 yX0_change wsX0_change) := goodIn_app (goodIn_of _ (by decide +kernel)) ggX0_increase_X0_change
theorem dX0_increase_0 : decode cX0_increase 0 = .ok (.aload_n 0, 1) := by decide +kernel
theorem dX0_increase_1 : decode cX0_increase 1 = .ok (.iload_n 1, 1) := by decide +kernel
theorem dX0_increase_2 : decode cX0_increase 2 = .ok (.iload_n 2, 1) := by decide +kernel
theorem dX0_increase_3 : decode cX0_increase 3 = .ok (.iconst 1, 1) := by decide +kernel
theorem dX0_increase_4 : decode cX0_increase 4 = .ok (.invokevirtual 30, 3) := by decide +kernel
theorem dX0_increase_7 : decode cX0_increase 7 = .ok (.return_, 1) := by decide +kernel
set_option maxRecDepth 20000 in
theorem ggX0_decrease_X0_change : GoodIn wsX0_decrease wsX0_change := goodIn_r _ [5, 6, 7, 8, 9, 4, 10, 11, 12, 13, 14, 15, 16, 17, 18, 19, 20, 21, 22, 23, 24, 25, 26, 27, 28, 29, 30, 31, 32, 33, 34, 35, 36, 37, 38, 39, 40, 41, 42, 43, 44, 45, 46, 47, 48, 49] (by decide +kernel) (by decide +kernel)
set_option maxRecDepth 20000 in
theorem gX0_decrease_X0_change : GoodIn wsX0_decrease (wsV RX0 30 RX0 yX0_change wsX0_change) := goodIn_app (goodIn_of _ (by decide +kernel)) ggX0_decrease_X0_change
theorem dX0_decrease_0 : decode cX0_decrease 0 = .ok (.aload_n 0, 1) := by decide +kernel
theorem dX0_decrease_1 : decode cX0_decrease 1 = .ok (.iload_n 1, 1) := by decide +kernel
theorem dX0_decrease_2 : decode cX0_decrease 2 = .ok (.iload_n 2, 1) := by decide +kernel
theorem dX0_decrease_3 : decode cX0_decrease 3 = .ok (.iconst (-1), 1) := by decide +kernel
theorem dX0_decrease_4 : decode cX0_decrease 4 = .ok (.invokevirtual 30, 3) := by decide +kernel
theorem dX0_decrease_7 : decode cX0_decrease 7 = .ok (.return_, 1) := by decide +kernel
set_option maxRecDepth 20000 in
theorem ggX0_isLessThan_X1_isLess : GoodIn wsX0_isLessThan wsX1_isLess := goodIn_r _ [6, 7, 8, 9, 10, 5, 11, 12, 15, 16] (by decide +kernel) (by decide +kernel)
set_option maxRecDepth 20000 in
theorem gX0_isLessThan_X1_isLess : GoodIn wsX0_isLessThan (va_wsS RX0 34 yX1_isLess wsX1_isLess) := goodIn_app (goodIn_of _ (by decide +kernel)) ggX0_isLessThan_X1_isLess
theorem dX0_isLessThan_0 : decode cX0_isLessThan 0 = .ok (.aload_n 0, 1) := by decide +kernel
theorem dX0_isLessThan_1 : decode cX0_isLessThan 1 = .ok (.getfield 10, 3) := by decide +kernel
theorem dX0_isLessThan_4 : decode cX0_isLessThan 4 = .ok (.iload_n 2, 1) := by decide +kernel
theorem dX0_isLessThan_5 : decode cX0_isLessThan 5 = .ok (.aload_n 0, 1) := by decide +kernel
theorem dX0_isLessThan_6 : decode cX0_isLessThan 6 = .ok (.getfield 16, 3) := by decide +kernel
theorem dX0_isLessThan_9 : decode cX0_isLessThan 9 = .ok (.iload_n 1, 1) := by decide +kernel
theorem dX0_isLessThan_10 : decode cX0_isLessThan 10 = .ok (.invokestatic 34, 3) := by decide +kernel
theorem dX0_isLessThan_13 : decode cX0_isLessThan 13 = .ok (.ireturn, 1) := by decide +kernel
set_option maxRecDepth 20000 in
theorem ggX0_change_X0_commonDivisor : GoodIn wsX0_change wsX0_commonDivisor := goodIn_r _ [6] (by decide +kernel) (by decide +kernel)
set_option maxRecDepth 20000 in
theorem gX0_change_X0_commonDivisor : GoodIn wsX0_change (va_wsS RX0 23 yX0_commonDivisor wsX0_commonDivisor) := goodIn_app (goodIn_of _ (by decide +kernel)) ggX0_change_X0_commonDivisor
set_option maxRecDepth 20000 in
theorem ggX0_change_X0_quotient : GoodIn wsX0_change wsX0_quotient := goodIn_r _ [9] (by decide +kernel) (by decide +kernel)
set_option maxRecDepth 20000 in
theorem gX0_change_X0_quotient : GoodIn wsX0_change (va_wsS RX0 38 yX0_quotient wsX0_quotient) := goodIn_app (goodIn_of _ (by decide +kernel)) ggX0_change_X0_quotient
set_option maxRecDepth 20000 in
theorem ggX0_change_X1_restBy : GoodIn wsX0_change wsX1_restBy := goodIn_r _ [14, 15, 16, 17, 18, 13, 19, 20, 44, 45] (by decide +kernel) (by decide +kernel)
set_option maxRecDepth 20000 in
theorem gX0_change_X1_restBy : GoodIn wsX0_change (wsV RX0 41 RX1 yX1_restBy wsX1_restBy) := goodIn_app (goodIn_of _ (by decide +kernel)) ggX0_change_X1_restBy
set_option maxRecDepth 20000 in
theorem ggX0_change_X1_divideBy : GoodIn wsX0_change wsX1_divideBy := goodIn_r _ [24, 15, 20, 25, 26, 27, 13, 28, 16, 17, 18, 19, 44, 45] (by decide +kernel) (by decide +kernel)
set_option maxRecDepth 20000 in
theorem gX0_change_X1_divideBy : GoodIn wsX0_change (wsV RX0 27 RX1 yX1_divideBy wsX1_divideBy) := goodIn_app (goodIn_of _ (by decide +kernel)) ggX0_change_X1_divideBy
set_option maxRecDepth 20000 in
theorem ggX0_change_X1_times : GoodIn wsX0_change wsX1_times := goodIn_r _ [32, 15, 20, 33, 34, 35, 36, 13, 37, 25, 26, 27, 28, 16, 17, 18, 19, 44, 45] (by decide +kernel) (by decide +kernel)
set_option maxRecDepth 20000 in
theorem gX0_change_X1_times : GoodIn wsX0_change (wsV RX0 45 RX1 yX1_times wsX1_times) := goodIn_app (goodIn_of _ (by decide +kernel)) ggX0_change_X1_times
set_option maxRecDepth 20000 in
theorem ggX0_change_X1_plusTimes : GoodIn wsX0_change wsX1_plusTimes := goodIn_r _ [41, 15, 20, 33, 16, 17, 18, 13, 19, 34, 35, 36, 37, 25, 26, 27, 28, 44, 45] (by decide +kernel) (by decide +kernel)
set_option maxRecDepth 20000 in
theorem gX0_change_X1_plusTimes : GoodIn wsX0_change (wsV RX0 48 RX1 yX1_plusTimes wsX1_plusTimes) := goodIn_app (goodIn_of _ (by decide +kernel)) ggX0_change_X1_plusTimes
theorem dX0_change_0 : decode cX0_change 0 = .ok (.iload_n 1, 1) := by decide +kernel
theorem dX0_change_1 : decode cX0_change 1 = .ok (.iload_n 2, 1) := by decide +kernel
theorem dX0_change_2 : decode cX0_change 2 = .ok (.invokestatic 23, 3) := by decide +kernel
theorem dX0_change_5 : decode cX0_change 5 = .ok (.istore 4, 2) := by decide +kernel
theorem dX0_change_7 : decode cX0_change 7 = .ok (.iload_n 1, 1) := by decide +kernel
theorem dX0_change_8 : decode cX0_change 8 = .ok (.iload 4, 2) := by decide +kernel
theorem dX0_change_10 : decode cX0_change 10 = .ok (.invokestatic 38, 3) := by decide +kernel
theorem dX0_change_13 : decode cX0_change 13 = .ok (.istore 5, 2) := by decide +kernel
theorem dX0_change_15 : decode cX0_change 15 = .ok (.iload_n 2, 1) := by decide +kernel
theorem dX0_change_16 : decode cX0_change 16 = .ok (.iload 4, 2) := by decide +kernel
theorem dX0_change_18 : decode cX0_change 18 = .ok (.invokestatic 38, 3) := by decide +kernel
theorem dX0_change_21 : decode cX0_change 21 = .ok (.istore 6, 2) := by decide +kernel
theorem dX0_change_23 : decode cX0_change 23 = .ok (.aload_n 0, 1) := by decide +kernel
theorem dX0_change_24 : decode cX0_change 24 = .ok (.getfield 16, 3) := by decide +kernel
theorem dX0_change_27 : decode cX0_change 27 = .ok (.iload 6, 2) := by decide +kernel
theorem dX0_change_29 : decode cX0_change 29 = .ok (.invokevirtual 41, 3) := by decide +kernel
theorem dX0_change_32 : decode cX0_change 32 = .ok (.iload 6, 2) := by decide +kernel
theorem dX0_change_34 : decode cX0_change 34 = .ok (.invokestatic 23, 3) := by decide +kernel
theorem dX0_change_37 : decode cX0_change 37 = .ok (.istore 7, 2) := by decide +kernel
theorem dX0_change_39 : decode cX0_change 39 = .ok (.aload_n 0, 1) := by decide +kernel
theorem dX0_change_40 : decode cX0_change 40 = .ok (.getfield 16, 3) := by decide +kernel
theorem dX0_change_43 : decode cX0_change 43 = .ok (.iload 7, 2) := by decide +kernel
theorem dX0_change_45 : decode cX0_change 45 = .ok (.invokevirtual 27, 3) := by decide +kernel
theorem dX0_change_48 : decode cX0_change 48 = .ok (.aload_n 0, 1) := by decide +kernel
theorem dX0_change_49 : decode cX0_change 49 = .ok (.getfield 10, 3) := by decide +kernel
theorem dX0_change_52 : decode cX0_change 52 = .ok (.iload 6, 2) := by decide +kernel
theorem dX0_change_54 : decode cX0_change 54 = .ok (.iload 7, 2) := by decide +kernel
theorem dX0_change_56 : decode cX0_change 56 = .ok (.invokestatic 38, 3) := by decide +kernel
theorem dX0_change_59 : decode cX0_change 59 = .ok (.invokevirtual 45, 3) := by decide +kernel
theorem dX0_change_62 : decode cX0_change 62 = .ok (.aload_n 0, 1) := by decide +kernel
theorem dX0_change_63 : decode cX0_change 63 = .ok (.getfield 10, 3) := by decide +kernel
theorem dX0_change_66 : decode cX0_change 66 = .ok (.aload_n 0, 1) := by decide +kernel
theorem dX0_change_67 : decode cX0_change 67 = .ok (.getfield 16, 3) := by decide +kernel
theorem dX0_change_70 : decode cX0_change 70 = .ok (.iload_n 3, 1) := by decide +kernel
theorem dX0_change_71 : decode cX0_change 71 = .ok (.iload 5, 2) := by decide +kernel
theorem dX0_change_73 : decode cX0_change 73 = .ok (.imul, 1) := by decide +kernel
theorem dX0_change_74 : decode cX0_change 74 = .ok (.invokevirtual 48, 3) := by decide +kernel
theorem dX0_change_77 : decode cX0_change 77 = .ok (.aload_n 0, 1) := by decide +kernel
theorem dX0_change_78 : decode cX0_change 78 = .ok (.getfield 10, 3) := by decide +kernel
theorem dX0_change_81 : decode cX0_change 81 = .ok (.iload 7, 2) := by decide +kernel
theorem dX0_change_83 : decode cX0_change 83 = .ok (.invokevirtual 41, 3) := by decide +kernel
theorem dX0_change_86 : decode cX0_change 86 = .ok (.iload 7, 2) := by decide +kernel
theorem dX0_change_88 : decode cX0_change 88 = .ok (.invokestatic 23, 3) := by decide +kernel
theorem dX0_change_91 : decode cX0_change 91 = .ok (.istore 8, 2) := by decide +kernel
theorem dX0_change_93 : decode cX0_change 93 = .ok (.aload_n 0, 1) := by decide +kernel
theorem dX0_change_94 : decode cX0_change 94 = .ok (.getfield 10, 3) := by decide +kernel
theorem dX0_change_97 : decode cX0_change 97 = .ok (.iload 8, 2) := by decide +kernel
theorem dX0_change_99 : decode cX0_change 99 = .ok (.invokevirtual 27, 3) := by decide +kernel
theorem dX0_change_102 : decode cX0_change 102 = .ok (.aload_n 0, 1) := by decide +kernel
theorem dX0_change_103 : decode cX0_change 103 = .ok (.getfield 16, 3) := by decide +kernel
theorem dX0_change_106 : decode cX0_change 106 = .ok (.iload 6, 2) := by decide +kernel
theorem dX0_change_108 : decode cX0_change 108 = .ok (.iload 8, 2) := by decide +kernel
theorem dX0_change_110 : decode cX0_change 110 = .ok (.invokestatic 38, 3) := by decide +kernel
theorem dX0_change_113 : decode cX0_change 113 = .ok (.invokevirtual 45, 3) := by decide +kernel
theorem dX0_change_116 : decode cX0_change 116 = .ok (.return_, 1) := by decide +kernel
theorem dX0_quotient_0 : decode cX0_quotient 0 = .ok (.iload_n 1, 1) := by decide +kernel
theorem dX0_quotient_1 : decode cX0_quotient 1 = .ok (.iconst 1, 1) := by decide +kernel
theorem dX0_quotient_2 : decode cX0_quotient 2 = .ok (.if_icmp .ge 7, 3) := by decide +kernel
theorem dX0_quotient_5 : decode cX0_quotient 5 = .ok (.iload_n 0, 1) := by decide +kernel
theorem dX0_quotient_6 : decode cX0_quotient 6 = .ok (.goto 6, 3) := by decide +kernel
theorem dX0_quotient_9 : decode cX0_quotient 9 = .ok (.iload_n 0, 1) := by decide +kernel
theorem dX0_quotient_10 : decode cX0_quotient 10 = .ok (.iload_n 1, 1) := by decide +kernel
theorem dX0_quotient_11 : decode cX0_quotient 11 = .ok (.idiv, 1) := by decide +kernel
theorem dX0_quotient_12 : decode cX0_quotient 12 = .ok (.ireturn, 1) := by decide +kernel
theorem dX0_commonDivisor_0 : decode cX0_commonDivisor 0 = .ok (.iload_n 0, 1) := by decide +kernel
theorem dX0_commonDivisor_1 : decode cX0_commonDivisor 1 = .ok (.istore_n 2, 1) := by decide +kernel
theorem dX0_commonDivisor_2 : decode cX0_commonDivisor 2 = .ok (.iload_n 1, 1) := by decide +kernel
theorem dX0_commonDivisor_3 : decode cX0_commonDivisor 3 = .ok (.istore_n 3, 1) := by decide +kernel
theorem dX0_commonDivisor_4 : decode cX0_commonDivisor 4 = .ok (.iconst 0, 1) := by decide +kernel
theorem dX0_commonDivisor_5 : decode cX0_commonDivisor 5 = .ok (.istore 4, 2) := by decide +kernel
theorem dX0_commonDivisor_7 : decode cX0_commonDivisor 7 = .ok (.iload 4, 2) := by decide +kernel
theorem dX0_commonDivisor_9 : decode cX0_commonDivisor 9 = .ok (.bipush 64, 2) := by decide +kernel
theorem dX0_commonDivisor_11 : decode cX0_commonDivisor 11 = .ok (.if_icmp .ge 23, 3) := by decide +kernel
theorem dX0_commonDivisor_14 : decode cX0_commonDivisor 14 = .ok (.iload_n 3, 1) := by decide +kernel
theorem dX0_commonDivisor_15 : decode cX0_commonDivisor 15 = .ok (.ifCond .le 19, 3) := by decide +kernel
theorem dX0_commonDivisor_18 : decode cX0_commonDivisor 18 = .ok (.iload_n 2, 1) := by decide +kernel
theorem dX0_commonDivisor_19 : decode cX0_commonDivisor 19 = .ok (.iload_n 3, 1) := by decide +kernel
theorem dX0_commonDivisor_20 : decode cX0_commonDivisor 20 = .ok (.irem, 1) := by decide +kernel
theorem dX0_commonDivisor_21 : decode cX0_commonDivisor 21 = .ok (.istore 5, 2) := by decide +kernel
theorem dX0_commonDivisor_23 : decode cX0_commonDivisor 23 = .ok (.iload_n 3, 1) := by decide +kernel
theorem dX0_commonDivisor_24 : decode cX0_commonDivisor 24 = .ok (.istore_n 2, 1) := by decide +kernel
theorem dX0_commonDivisor_25 : decode cX0_commonDivisor 25 = .ok (.iload 5, 2) := by decide +kernel
theorem dX0_commonDivisor_27 : decode cX0_commonDivisor 27 = .ok (.istore_n 3, 1) := by decide +kernel
theorem dX0_commonDivisor_28 : decode cX0_commonDivisor 28 = .ok (.iinc 4 1, 3) := by decide +kernel
theorem dX0_commonDivisor_31 : decode cX0_commonDivisor 31 = .ok (.goto (-24), 3) := by decide +kernel
theorem dX0_commonDivisor_34 : decode cX0_commonDivisor 34 = .ok (.iload_n 2, 1) := by decide +kernel
theorem dX0_commonDivisor_35 : decode cX0_commonDivisor 35 = .ok (.ireturn, 1) := by decide +kernel
theorem dX1_init_0 : decode cX1_init 0 = .ok (.aload_n 0, 1) := by decide +kernel
theorem dX1_init_1 : decode cX1_init 1 = .ok (.invokespecial 1, 3) := by decide +kernel
theorem dX1_init_4 : decode cX1_init 4 = .ok (.aload_n 0, 1) := by decide +kernel
theorem dX1_init_5 : decode cX1_init 5 = .ok (.bipush 64, 2) := by decide +kernel
theorem dX1_init_7 : decode cX1_init 7 = .ok (.newarray .int, 2) := by decide +kernel
theorem dX1_init_9 : decode cX1_init 9 = .ok (.putfield 9, 3) := by decide +kernel
theorem dX1_init_12 : decode cX1_init 12 = .ok (.aload_n 0, 1) := by decide +kernel
theorem dX1_init_13 : decode cX1_init 13 = .ok (.iconst 0, 1) := by decide +kernel
theorem dX1_init_14 : decode cX1_init 14 = .ok (.putfield 13, 3) := by decide +kernel
theorem dX1_init_17 : decode cX1_init 17 = .ok (.return_, 1) := by decide +kernel
set_option maxRecDepth 20000 in
theorem ggX1_become_X1_append : GoodIn wsX1_become wsX1_append := goodIn_r _ [6, 1, 7, 8, 9] (by decide +kernel) (by decide +kernel)
set_option maxRecDepth 20000 in
theorem gX1_become_X1_append : GoodIn wsX1_become (wsV RX1 17 RX1 yX1_append wsX1_append) := goodIn_app (goodIn_of _ (by decide +kernel)) ggX1_become_X1_append
theorem dX1_become_0 : decode cX1_become 0 = .ok (.aload_n 0, 1) := by decide +kernel
theorem dX1_become_1 : decode cX1_become 1 = .ok (.iconst 0, 1) := by decide +kernel
theorem dX1_become_2 : decode cX1_become 2 = .ok (.putfield 13, 3) := by decide +kernel
theorem dX1_become_5 : decode cX1_become 5 = .ok (.aload_n 0, 1) := by decide +kernel
theorem dX1_become_6 : decode cX1_become 6 = .ok (.iload_n 1, 1) := by decide +kernel
theorem dX1_become_7 : decode cX1_become 7 = .ok (.i2l, 1) := by decide +kernel
theorem dX1_become_8 : decode cX1_become 8 = .ok (.invokevirtual 17, 3) := by decide +kernel
theorem dX1_become_11 : decode cX1_become 11 = .ok (.return_, 1) := by decide +kernel
theorem dX1_limbAt_0 : decode cX1_limbAt 0 = .ok (.iload_n 1, 1) := by decide +kernel
theorem dX1_limbAt_1 : decode cX1_limbAt 1 = .ok (.ifCond .lt 29, 3) := by decide +kernel
theorem dX1_limbAt_4 : decode cX1_limbAt 4 = .ok (.iload_n 1, 1) := by decide +kernel
theorem dX1_limbAt_5 : decode cX1_limbAt 5 = .ok (.aload_n 0, 1) := by decide +kernel
theorem dX1_limbAt_6 : decode cX1_limbAt 6 = .ok (.getfield 13, 3) := by decide +kernel
theorem dX1_limbAt_9 : decode cX1_limbAt 9 = .ok (.if_icmp .ge 21, 3) := by decide +kernel
theorem dX1_limbAt_12 : decode cX1_limbAt 12 = .ok (.iload_n 1, 1) := by decide +kernel
theorem dX1_limbAt_13 : decode cX1_limbAt 13 = .ok (.aload_n 0, 1) := by decide +kernel
theorem dX1_limbAt_14 : decode cX1_limbAt 14 = .ok (.getfield 9, 3) := by decide +kernel
theorem dX1_limbAt_17 : decode cX1_limbAt 17 = .ok (.arraylength, 1) := by decide +kernel
theorem dX1_limbAt_18 : decode cX1_limbAt 18 = .ok (.if_icmp .ge 12, 3) := by decide +kernel
theorem dX1_limbAt_21 : decode cX1_limbAt 21 = .ok (.aload_n 0, 1) := by decide +kernel
theorem dX1_limbAt_22 : decode cX1_limbAt 22 = .ok (.getfield 9, 3) := by decide +kernel
theorem dX1_limbAt_25 : decode cX1_limbAt 25 = .ok (.iload_n 1, 1) := by decide +kernel
theorem dX1_limbAt_26 : decode cX1_limbAt 26 = .ok (.iaload, 1) := by decide +kernel
theorem dX1_limbAt_27 : decode cX1_limbAt 27 = .ok (.goto 4, 3) := by decide +kernel
theorem dX1_limbAt_30 : decode cX1_limbAt 30 = .ok (.iconst 0, 1) := by decide +kernel
theorem dX1_limbAt_31 : decode cX1_limbAt 31 = .ok (.ireturn, 1) := by decide +kernel
set_option maxRecDepth 20000 in
theorem ggX1_times_X1_append : GoodIn wsX1_times wsX1_append := goodIn_r _ [8, 1, 2, 17, 18] (by decide +kernel) (by decide +kernel)
set_option maxRecDepth 20000 in
theorem gX1_times_X1_append : GoodIn wsX1_times (wsV RX1 17 RX1 yX1_append wsX1_append) := goodIn_app (goodIn_of _ (by decide +kernel)) ggX1_times_X1_append
set_option maxRecDepth 20000 in
theorem ggX1_times_X1_trim : GoodIn wsX1_times wsX1_trim := goodIn_r _ [12, 1, 13, 14, 15, 7, 16, 2, 17, 18] (by decide +kernel) (by decide +kernel)
set_option maxRecDepth 20000 in
theorem gX1_times_X1_trim : GoodIn wsX1_times (wsV RX1 23 RX1 yX1_trim wsX1_trim) := goodIn_app (goodIn_of _ (by decide +kernel)) ggX1_times_X1_trim
theorem dX1_times_0 : decode cX1_times 0 = .ok (.lconst 0, 1) := by decide +kernel
theorem dX1_times_1 : decode cX1_times 1 = .ok (.lstore_n 2, 1) := by decide +kernel
theorem dX1_times_2 : decode cX1_times 2 = .ok (.iconst 0, 1) := by decide +kernel
theorem dX1_times_3 : decode cX1_times 3 = .ok (.istore 4, 2) := by decide +kernel
theorem dX1_times_5 : decode cX1_times 5 = .ok (.iload 4, 2) := by decide +kernel
theorem dX1_times_7 : decode cX1_times 7 = .ok (.aload_n 0, 1) := by decide +kernel
theorem dX1_times_8 : decode cX1_times 8 = .ok (.getfield 13, 3) := by decide +kernel
theorem dX1_times_11 : decode cX1_times 11 = .ok (.if_icmp .ge 51, 3) := by decide +kernel
theorem dX1_times_14 : decode cX1_times 14 = .ok (.iload 4, 2) := by decide +kernel
theorem dX1_times_16 : decode cX1_times 16 = .ok (.aload_n 0, 1) := by decide +kernel
theorem dX1_times_17 : decode cX1_times 17 = .ok (.getfield 9, 3) := by decide +kernel
theorem dX1_times_20 : decode cX1_times 20 = .ok (.arraylength, 1) := by decide +kernel
theorem dX1_times_21 : decode cX1_times 21 = .ok (.if_icmp .ge 41, 3) := by decide +kernel
theorem dX1_times_24 : decode cX1_times 24 = .ok (.lload_n 2, 1) := by decide +kernel
theorem dX1_times_25 : decode cX1_times 25 = .ok (.aload_n 0, 1) := by decide +kernel
theorem dX1_times_26 : decode cX1_times 26 = .ok (.getfield 9, 3) := by decide +kernel
theorem dX1_times_29 : decode cX1_times 29 = .ok (.iload 4, 2) := by decide +kernel
theorem dX1_times_31 : decode cX1_times 31 = .ok (.iaload, 1) := by decide +kernel
theorem dX1_times_32 : decode cX1_times 32 = .ok (.i2l, 1) := by decide +kernel
theorem dX1_times_33 : decode cX1_times 33 = .ok (.iload_n 1, 1) := by decide +kernel
theorem dX1_times_34 : decode cX1_times 34 = .ok (.i2l, 1) := by decide +kernel
theorem dX1_times_35 : decode cX1_times 35 = .ok (.lmul, 1) := by decide +kernel
theorem dX1_times_36 : decode cX1_times 36 = .ok (.ladd, 1) := by decide +kernel
theorem dX1_times_37 : decode cX1_times 37 = .ok (.lstore_n 2, 1) := by decide +kernel
theorem dX1_times_38 : decode cX1_times 38 = .ok (.aload_n 0, 1) := by decide +kernel
theorem dX1_times_39 : decode cX1_times 39 = .ok (.getfield 9, 3) := by decide +kernel
theorem dX1_times_42 : decode cX1_times 42 = .ok (.iload 4, 2) := by decide +kernel
theorem dX1_times_44 : decode cX1_times 44 = .ok (.lload_n 2, 1) := by decide +kernel
theorem dX1_times_45 : decode cX1_times 45 = .ok (.ldc2_w 21, 3) := by decide +kernel
theorem dX1_times_48 : decode cX1_times 48 = .ok (.land, 1) := by decide +kernel
theorem dX1_times_49 : decode cX1_times 49 = .ok (.l2i, 1) := by decide +kernel
theorem dX1_times_50 : decode cX1_times 50 = .ok (.iastore, 1) := by decide +kernel
theorem dX1_times_51 : decode cX1_times 51 = .ok (.lload_n 2, 1) := by decide +kernel
theorem dX1_times_52 : decode cX1_times 52 = .ok (.bipush 31, 2) := by decide +kernel
theorem dX1_times_54 : decode cX1_times 54 = .ok (.lshr, 1) := by decide +kernel
theorem dX1_times_55 : decode cX1_times 55 = .ok (.lstore_n 2, 1) := by decide +kernel
theorem dX1_times_56 : decode cX1_times 56 = .ok (.iinc 4 1, 3) := by decide +kernel
theorem dX1_times_59 : decode cX1_times 59 = .ok (.goto (-54), 3) := by decide +kernel
theorem dX1_times_62 : decode cX1_times 62 = .ok (.aload_n 0, 1) := by decide +kernel
theorem dX1_times_63 : decode cX1_times 63 = .ok (.lload_n 2, 1) := by decide +kernel
theorem dX1_times_64 : decode cX1_times 64 = .ok (.invokevirtual 17, 3) := by decide +kernel
theorem dX1_times_67 : decode cX1_times 67 = .ok (.aload_n 0, 1) := by decide +kernel
theorem dX1_times_68 : decode cX1_times 68 = .ok (.invokevirtual 23, 3) := by decide +kernel
theorem dX1_times_71 : decode cX1_times 71 = .ok (.return_, 1) := by decide +kernel
set_option maxRecDepth 20000 in
theorem ggX1_plusTimes_X1_limbAt : GoodIn wsX1_plusTimes wsX1_limbAt := goodIn_r _ [8, 1, 2, 17, 18] (by decide +kernel) (by decide +kernel)
set_option maxRecDepth 20000 in
theorem gX1_plusTimes_X1_limbAt : GoodIn wsX1_plusTimes (wsV RX1 26 RX1 yX1_limbAt wsX1_limbAt) := goodIn_app (goodIn_of _ (by decide +kernel)) ggX1_plusTimes_X1_limbAt
set_option maxRecDepth 20000 in
theorem ggX1_plusTimes_X1_append : GoodIn wsX1_plusTimes wsX1_append := goodIn_r _ [12, 1, 2, 17, 18] (by decide +kernel) (by decide +kernel)
set_option maxRecDepth 20000 in
theorem gX1_plusTimes_X1_append : GoodIn wsX1_plusTimes (wsV RX1 17 RX1 yX1_append wsX1_append) := goodIn_app (goodIn_of _ (by decide +kernel)) ggX1_plusTimes_X1_append
set_option maxRecDepth 20000 in
theorem ggX1_plusTimes_X1_trim : GoodIn wsX1_plusTimes wsX1_trim := goodIn_r _ [16, 1, 4, 5, 6, 7, 8, 2, 17, 18] (by decide +kernel) (by decide +kernel)
set_option maxRecDepth 20000 in
theorem gX1_plusTimes_X1_trim : GoodIn wsX1_plusTimes (wsV RX1 23 RX1 yX1_trim wsX1_trim) := goodIn_app (goodIn_of _ (by decide +kernel)) ggX1_plusTimes_X1_trim
theorem dX1_plusTimes_0 : decode cX1_plusTimes 0 = .ok (.aload_n 0, 1) := by decide +kernel
theorem dX1_plusTimes_1 : decode cX1_plusTimes 1 = .ok (.getfield 13, 3) := by decide +kernel
theorem dX1_plusTimes_4 : decode cX1_plusTimes 4 = .ok (.aload_n 1, 1) := by decide +kernel
theorem dX1_plusTimes_5 : decode cX1_plusTimes 5 = .ok (.getfield 13, 3) := by decide +kernel
theorem dX1_plusTimes_8 : decode cX1_plusTimes 8 = .ok (.if_icmp .le 10, 3) := by decide +kernel
theorem dX1_plusTimes_11 : decode cX1_plusTimes 11 = .ok (.aload_n 0, 1) := by decide +kernel
theorem dX1_plusTimes_12 : decode cX1_plusTimes 12 = .ok (.getfield 13, 3) := by decide +kernel
theorem dX1_plusTimes_15 : decode cX1_plusTimes 15 = .ok (.goto 7, 3) := by decide +kernel
theorem dX1_plusTimes_18 : decode cX1_plusTimes 18 = .ok (.aload_n 1, 1) := by decide +kernel
theorem dX1_plusTimes_19 : decode cX1_plusTimes 19 = .ok (.getfield 13, 3) := by decide +kernel
theorem dX1_plusTimes_22 : decode cX1_plusTimes 22 = .ok (.istore_n 3, 1) := by decide +kernel
theorem dX1_plusTimes_23 : decode cX1_plusTimes 23 = .ok (.lconst 0, 1) := by decide +kernel
theorem dX1_plusTimes_24 : decode cX1_plusTimes 24 = .ok (.lstore 4, 2) := by decide +kernel
theorem dX1_plusTimes_26 : decode cX1_plusTimes 26 = .ok (.iconst 0, 1) := by decide +kernel
theorem dX1_plusTimes_27 : decode cX1_plusTimes 27 = .ok (.istore 6, 2) := by decide +kernel
theorem dX1_plusTimes_29 : decode cX1_plusTimes 29 = .ok (.iload 6, 2) := by decide +kernel
theorem dX1_plusTimes_31 : decode cX1_plusTimes 31 = .ok (.iload_n 3, 1) := by decide +kernel
theorem dX1_plusTimes_32 : decode cX1_plusTimes 32 = .ok (.if_icmp .ge 63, 3) := by decide +kernel
theorem dX1_plusTimes_35 : decode cX1_plusTimes 35 = .ok (.iload 6, 2) := by decide +kernel
theorem dX1_plusTimes_37 : decode cX1_plusTimes 37 = .ok (.aload_n 0, 1) := by decide +kernel
theorem dX1_plusTimes_38 : decode cX1_plusTimes 38 = .ok (.getfield 9, 3) := by decide +kernel
theorem dX1_plusTimes_41 : decode cX1_plusTimes 41 = .ok (.arraylength, 1) := by decide +kernel
theorem dX1_plusTimes_42 : decode cX1_plusTimes 42 = .ok (.if_icmp .ge 53, 3) := by decide +kernel
theorem dX1_plusTimes_45 : decode cX1_plusTimes 45 = .ok (.lload 4, 2) := by decide +kernel
theorem dX1_plusTimes_47 : decode cX1_plusTimes 47 = .ok (.aload_n 0, 1) := by decide +kernel
theorem dX1_plusTimes_48 : decode cX1_plusTimes 48 = .ok (.iload 6, 2) := by decide +kernel
theorem dX1_plusTimes_50 : decode cX1_plusTimes 50 = .ok (.invokevirtual 26, 3) := by decide +kernel
theorem dX1_plusTimes_53 : decode cX1_plusTimes 53 = .ok (.i2l, 1) := by decide +kernel
theorem dX1_plusTimes_54 : decode cX1_plusTimes 54 = .ok (.aload_n 1, 1) := by decide +kernel
theorem dX1_plusTimes_55 : decode cX1_plusTimes 55 = .ok (.iload 6, 2) := by decide +kernel
theorem dX1_plusTimes_57 : decode cX1_plusTimes 57 = .ok (.invokevirtual 26, 3) := by decide +kernel
theorem dX1_plusTimes_60 : decode cX1_plusTimes 60 = .ok (.i2l, 1) := by decide +kernel
theorem dX1_plusTimes_61 : decode cX1_plusTimes 61 = .ok (.iload_n 2, 1) := by decide +kernel
theorem dX1_plusTimes_62 : decode cX1_plusTimes 62 = .ok (.i2l, 1) := by decide +kernel
theorem dX1_plusTimes_63 : decode cX1_plusTimes 63 = .ok (.lmul, 1) := by decide +kernel
theorem dX1_plusTimes_64 : decode cX1_plusTimes 64 = .ok (.ladd, 1) := by decide +kernel
theorem dX1_plusTimes_65 : decode cX1_plusTimes 65 = .ok (.ladd, 1) := by decide +kernel
theorem dX1_plusTimes_66 : decode cX1_plusTimes 66 = .ok (.lstore 4, 2) := by decide +kernel
theorem dX1_plusTimes_68 : decode cX1_plusTimes 68 = .ok (.aload_n 0, 1) := by decide +kernel
theorem dX1_plusTimes_69 : decode cX1_plusTimes 69 = .ok (.getfield 9, 3) := by decide +kernel
theorem dX1_plusTimes_72 : decode cX1_plusTimes 72 = .ok (.iload 6, 2) := by decide +kernel
theorem dX1_plusTimes_74 : decode cX1_plusTimes 74 = .ok (.lload 4, 2) := by decide +kernel
theorem dX1_plusTimes_76 : decode cX1_plusTimes 76 = .ok (.ldc2_w 21, 3) := by decide +kernel
theorem dX1_plusTimes_79 : decode cX1_plusTimes 79 = .ok (.land, 1) := by decide +kernel
theorem dX1_plusTimes_80 : decode cX1_plusTimes 80 = .ok (.l2i, 1) := by decide +kernel
theorem dX1_plusTimes_81 : decode cX1_plusTimes 81 = .ok (.iastore, 1) := by decide +kernel
theorem dX1_plusTimes_82 : decode cX1_plusTimes 82 = .ok (.lload 4, 2) := by decide +kernel
theorem dX1_plusTimes_84 : decode cX1_plusTimes 84 = .ok (.bipush 31, 2) := by decide +kernel
theorem dX1_plusTimes_86 : decode cX1_plusTimes 86 = .ok (.lshr, 1) := by decide +kernel
theorem dX1_plusTimes_87 : decode cX1_plusTimes 87 = .ok (.lstore 4, 2) := by decide +kernel
theorem dX1_plusTimes_89 : decode cX1_plusTimes 89 = .ok (.iinc 6 1, 3) := by decide +kernel
theorem dX1_plusTimes_92 : decode cX1_plusTimes 92 = .ok (.goto (-63), 3) := by decide +kernel
theorem dX1_plusTimes_95 : decode cX1_plusTimes 95 = .ok (.aload_n 0, 1) := by decide +kernel
theorem dX1_plusTimes_96 : decode cX1_plusTimes 96 = .ok (.iload_n 3, 1) := by decide +kernel
theorem dX1_plusTimes_97 : decode cX1_plusTimes 97 = .ok (.putfield 13, 3) := by decide +kernel
theorem dX1_plusTimes_100 : decode cX1_plusTimes 100 = .ok (.aload_n 0, 1) := by decide +kernel
theorem dX1_plusTimes_101 : decode cX1_plusTimes 101 = .ok (.lload 4, 2) := by decide +kernel
theorem dX1_plusTimes_103 : decode cX1_plusTimes 103 = .ok (.invokevirtual 17, 3) := by decide +kernel
theorem dX1_plusTimes_106 : decode cX1_plusTimes 106 = .ok (.aload_n 0, 1) := by decide +kernel
theorem dX1_plusTimes_107 : decode cX1_plusTimes 107 = .ok (.invokevirtual 23, 3) := by decide +kernel
theorem dX1_plusTimes_110 : decode cX1_plusTimes 110 = .ok (.return_, 1) := by decide +kernel
set_option maxRecDepth 20000 in
theorem ggX1_divideBy_X1_trim : GoodIn wsX1_divideBy wsX1_trim := goodIn_r _ [7, 1, 8, 9, 10, 6, 11, 2, 12, 13] (by decide +kernel) (by decide +kernel)
set_option maxRecDepth 20000 in
theorem gX1_divideBy_X1_trim : GoodIn wsX1_divideBy (wsV RX1 23 RX1 yX1_trim wsX1_trim) := goodIn_app (goodIn_of _ (by decide +kernel)) ggX1_divideBy_X1_trim
theorem dX1_divideBy_0 : decode cX1_divideBy 0 = .ok (.iload_n 1, 1) := by decide +kernel
theorem dX1_divideBy_1 : decode cX1_divideBy 1 = .ok (.iconst 1, 1) := by decide +kernel
theorem dX1_divideBy_2 : decode cX1_divideBy 2 = .ok (.if_icmp .ge 4, 3) := by decide +kernel
theorem dX1_divideBy_5 : decode cX1_divideBy 5 = .ok (.return_, 1) := by decide +kernel
theorem dX1_divideBy_6 : decode cX1_divideBy 6 = .ok (.lconst 0, 1) := by decide +kernel
theorem dX1_divideBy_7 : decode cX1_divideBy 7 = .ok (.lstore_n 2, 1) := by decide +kernel
theorem dX1_divideBy_8 : decode cX1_divideBy 8 = .ok (.aload_n 0, 1) := by decide +kernel
theorem dX1_divideBy_9 : decode cX1_divideBy 9 = .ok (.getfield 13, 3) := by decide +kernel
theorem dX1_divideBy_12 : decode cX1_divideBy 12 = .ok (.iconst 1, 1) := by decide +kernel
theorem dX1_divideBy_13 : decode cX1_divideBy 13 = .ok (.isub, 1) := by decide +kernel
theorem dX1_divideBy_14 : decode cX1_divideBy 14 = .ok (.istore 4, 2) := by decide +kernel
theorem dX1_divideBy_16 : decode cX1_divideBy 16 = .ok (.iload 4, 2) := by decide +kernel
theorem dX1_divideBy_18 : decode cX1_divideBy 18 = .ok (.ifCond .lt 50, 3) := by decide +kernel
theorem dX1_divideBy_21 : decode cX1_divideBy 21 = .ok (.iload 4, 2) := by decide +kernel
theorem dX1_divideBy_23 : decode cX1_divideBy 23 = .ok (.aload_n 0, 1) := by decide +kernel
theorem dX1_divideBy_24 : decode cX1_divideBy 24 = .ok (.getfield 9, 3) := by decide +kernel
theorem dX1_divideBy_27 : decode cX1_divideBy 27 = .ok (.arraylength, 1) := by decide +kernel
theorem dX1_divideBy_28 : decode cX1_divideBy 28 = .ok (.if_icmp .ge 40, 3) := by decide +kernel
theorem dX1_divideBy_31 : decode cX1_divideBy 31 = .ok (.lload_n 2, 1) := by decide +kernel
theorem dX1_divideBy_32 : decode cX1_divideBy 32 = .ok (.bipush 31, 2) := by decide +kernel
theorem dX1_divideBy_34 : decode cX1_divideBy 34 = .ok (.lshl, 1) := by decide +kernel
theorem dX1_divideBy_35 : decode cX1_divideBy 35 = .ok (.aload_n 0, 1) := by decide +kernel
theorem dX1_divideBy_36 : decode cX1_divideBy 36 = .ok (.getfield 9, 3) := by decide +kernel
theorem dX1_divideBy_39 : decode cX1_divideBy 39 = .ok (.iload 4, 2) := by decide +kernel
theorem dX1_divideBy_41 : decode cX1_divideBy 41 = .ok (.iaload, 1) := by decide +kernel
theorem dX1_divideBy_42 : decode cX1_divideBy 42 = .ok (.i2l, 1) := by decide +kernel
theorem dX1_divideBy_43 : decode cX1_divideBy 43 = .ok (.ladd, 1) := by decide +kernel
theorem dX1_divideBy_44 : decode cX1_divideBy 44 = .ok (.lstore_n 2, 1) := by decide +kernel
theorem dX1_divideBy_45 : decode cX1_divideBy 45 = .ok (.aload_n 0, 1) := by decide +kernel
theorem dX1_divideBy_46 : decode cX1_divideBy 46 = .ok (.getfield 9, 3) := by decide +kernel
theorem dX1_divideBy_49 : decode cX1_divideBy 49 = .ok (.iload 4, 2) := by decide +kernel
theorem dX1_divideBy_51 : decode cX1_divideBy 51 = .ok (.lload_n 2, 1) := by decide +kernel
theorem dX1_divideBy_52 : decode cX1_divideBy 52 = .ok (.iload_n 1, 1) := by decide +kernel
theorem dX1_divideBy_53 : decode cX1_divideBy 53 = .ok (.i2l, 1) := by decide +kernel
theorem dX1_divideBy_54 : decode cX1_divideBy 54 = .ok (.ldiv, 1) := by decide +kernel
theorem dX1_divideBy_55 : decode cX1_divideBy 55 = .ok (.l2i, 1) := by decide +kernel
theorem dX1_divideBy_56 : decode cX1_divideBy 56 = .ok (.iastore, 1) := by decide +kernel
theorem dX1_divideBy_57 : decode cX1_divideBy 57 = .ok (.lload_n 2, 1) := by decide +kernel
theorem dX1_divideBy_58 : decode cX1_divideBy 58 = .ok (.iload_n 1, 1) := by decide +kernel
theorem dX1_divideBy_59 : decode cX1_divideBy 59 = .ok (.i2l, 1) := by decide +kernel
theorem dX1_divideBy_60 : decode cX1_divideBy 60 = .ok (.lrem, 1) := by decide +kernel
theorem dX1_divideBy_61 : decode cX1_divideBy 61 = .ok (.lstore_n 2, 1) := by decide +kernel
theorem dX1_divideBy_62 : decode cX1_divideBy 62 = .ok (.iinc 4 (-1), 3) := by decide +kernel
theorem dX1_divideBy_65 : decode cX1_divideBy 65 = .ok (.goto (-49), 3) := by decide +kernel
theorem dX1_divideBy_68 : decode cX1_divideBy 68 = .ok (.aload_n 0, 1) := by decide +kernel
theorem dX1_divideBy_69 : decode cX1_divideBy 69 = .ok (.invokevirtual 23, 3) := by decide +kernel
theorem dX1_divideBy_72 : decode cX1_divideBy 72 = .ok (.return_, 1) := by decide +kernel
set_option maxRecDepth 20000 in
theorem ggX1_restBy_X1_limbAt : GoodIn wsX1_restBy wsX1_limbAt := goodIn_r _ [6, 1, 7, 8, 9] (by decide +kernel) (by decide +kernel)
set_option maxRecDepth 20000 in
theorem gX1_restBy_X1_limbAt : GoodIn wsX1_restBy (wsV RX1 26 RX1 yX1_limbAt wsX1_limbAt) := goodIn_app (goodIn_of _ (by decide +kernel)) ggX1_restBy_X1_limbAt
theorem dX1_restBy_0 : decode cX1_restBy 0 = .ok (.iload_n 1, 1) := by decide +kernel
theorem dX1_restBy_1 : decode cX1_restBy 1 = .ok (.iconst 1, 1) := by decide +kernel
theorem dX1_restBy_2 : decode cX1_restBy 2 = .ok (.if_icmp .ge 5, 3) := by decide +kernel
theorem dX1_restBy_5 : decode cX1_restBy 5 = .ok (.iconst 0, 1) := by decide +kernel
theorem dX1_restBy_6 : decode cX1_restBy 6 = .ok (.ireturn, 1) := by decide +kernel
theorem dX1_restBy_7 : decode cX1_restBy 7 = .ok (.lconst 0, 1) := by decide +kernel
theorem dX1_restBy_8 : decode cX1_restBy 8 = .ok (.lstore_n 2, 1) := by decide +kernel
theorem dX1_restBy_9 : decode cX1_restBy 9 = .ok (.aload_n 0, 1) := by decide +kernel
theorem dX1_restBy_10 : decode cX1_restBy 10 = .ok (.getfield 13, 3) := by decide +kernel
theorem dX1_restBy_13 : decode cX1_restBy 13 = .ok (.iconst 1, 1) := by decide +kernel
theorem dX1_restBy_14 : decode cX1_restBy 14 = .ok (.isub, 1) := by decide +kernel
theorem dX1_restBy_15 : decode cX1_restBy 15 = .ok (.istore 4, 2) := by decide +kernel
theorem dX1_restBy_17 : decode cX1_restBy 17 = .ok (.iload 4, 2) := by decide +kernel
theorem dX1_restBy_19 : decode cX1_restBy 19 = .ok (.ifCond .lt 25, 3) := by decide +kernel
theorem dX1_restBy_22 : decode cX1_restBy 22 = .ok (.lload_n 2, 1) := by decide +kernel
theorem dX1_restBy_23 : decode cX1_restBy 23 = .ok (.bipush 31, 2) := by decide +kernel
theorem dX1_restBy_25 : decode cX1_restBy 25 = .ok (.lshl, 1) := by decide +kernel
theorem dX1_restBy_26 : decode cX1_restBy 26 = .ok (.aload_n 0, 1) := by decide +kernel
theorem dX1_restBy_27 : decode cX1_restBy 27 = .ok (.iload 4, 2) := by decide +kernel
theorem dX1_restBy_29 : decode cX1_restBy 29 = .ok (.invokevirtual 26, 3) := by decide +kernel
theorem dX1_restBy_32 : decode cX1_restBy 32 = .ok (.i2l, 1) := by decide +kernel
theorem dX1_restBy_33 : decode cX1_restBy 33 = .ok (.ladd, 1) := by decide +kernel
theorem dX1_restBy_34 : decode cX1_restBy 34 = .ok (.iload_n 1, 1) := by decide +kernel
theorem dX1_restBy_35 : decode cX1_restBy 35 = .ok (.i2l, 1) := by decide +kernel
theorem dX1_restBy_36 : decode cX1_restBy 36 = .ok (.lrem, 1) := by decide +kernel
theorem dX1_restBy_37 : decode cX1_restBy 37 = .ok (.lstore_n 2, 1) := by decide +kernel
theorem dX1_restBy_38 : decode cX1_restBy 38 = .ok (.iinc 4 (-1), 3) := by decide +kernel
theorem dX1_restBy_41 : decode cX1_restBy 41 = .ok (.goto (-24), 3) := by decide +kernel
theorem dX1_restBy_44 : decode cX1_restBy 44 = .ok (.lload_n 2, 1) := by decide +kernel
theorem dX1_restBy_45 : decode cX1_restBy 45 = .ok (.l2i, 1) := by decide +kernel
theorem dX1_restBy_46 : decode cX1_restBy 46 = .ok (.ireturn, 1) := by decide +kernel
set_option maxRecDepth 20000 in
theorem ggX1_isLess_X1_limbAt : GoodIn wsX1_isLess wsX1_limbAt := goodIn_r _ [6, 1, 7, 8, 9] (by decide +kernel) (by decide +kernel)
set_option maxRecDepth 20000 in
theorem gX1_isLess_X1_limbAt : GoodIn wsX1_isLess (wsV RX1 26 RX1 yX1_limbAt wsX1_limbAt) := goodIn_app (goodIn_of _ (by decide +kernel)) ggX1_isLess_X1_limbAt
theorem dX1_isLess_0 : decode cX1_isLess 0 = .ok (.aload_n 0, 1) := by decide +kernel
theorem dX1_isLess_1 : decode cX1_isLess 1 = .ok (.getfield 13, 3) := by decide +kernel
theorem dX1_isLess_4 : decode cX1_isLess 4 = .ok (.aload_n 2, 1) := by decide +kernel
theorem dX1_isLess_5 : decode cX1_isLess 5 = .ok (.getfield 13, 3) := by decide +kernel
theorem dX1_isLess_8 : decode cX1_isLess 8 = .ok (.if_icmp .le 10, 3) := by decide +kernel
theorem dX1_isLess_11 : decode cX1_isLess 11 = .ok (.aload_n 0, 1) := by decide +kernel
theorem dX1_isLess_12 : decode cX1_isLess 12 = .ok (.getfield 13, 3) := by decide +kernel
theorem dX1_isLess_15 : decode cX1_isLess 15 = .ok (.goto 7, 3) := by decide +kernel
theorem dX1_isLess_18 : decode cX1_isLess 18 = .ok (.aload_n 2, 1) := by decide +kernel
theorem dX1_isLess_19 : decode cX1_isLess 19 = .ok (.getfield 13, 3) := by decide +kernel
theorem dX1_isLess_22 : decode cX1_isLess 22 = .ok (.istore 4, 2) := by decide +kernel
theorem dX1_isLess_24 : decode cX1_isLess 24 = .ok (.lconst 0, 1) := by decide +kernel
theorem dX1_isLess_25 : decode cX1_isLess 25 = .ok (.lstore 5, 2) := by decide +kernel
theorem dX1_isLess_27 : decode cX1_isLess 27 = .ok (.iconst 0, 1) := by decide +kernel
theorem dX1_isLess_28 : decode cX1_isLess 28 = .ok (.istore 7, 2) := by decide +kernel
theorem dX1_isLess_30 : decode cX1_isLess 30 = .ok (.iload 7, 2) := by decide +kernel
theorem dX1_isLess_32 : decode cX1_isLess 32 = .ok (.iload 4, 2) := by decide +kernel
theorem dX1_isLess_34 : decode cX1_isLess 34 = .ok (.if_icmp .ge 42, 3) := by decide +kernel
theorem dX1_isLess_37 : decode cX1_isLess 37 = .ok (.lload 5, 2) := by decide +kernel
theorem dX1_isLess_39 : decode cX1_isLess 39 = .ok (.aload_n 0, 1) := by decide +kernel
theorem dX1_isLess_40 : decode cX1_isLess 40 = .ok (.iload 7, 2) := by decide +kernel
theorem dX1_isLess_42 : decode cX1_isLess 42 = .ok (.invokevirtual 26, 3) := by decide +kernel
theorem dX1_isLess_45 : decode cX1_isLess 45 = .ok (.i2l, 1) := by decide +kernel
theorem dX1_isLess_46 : decode cX1_isLess 46 = .ok (.iload_n 1, 1) := by decide +kernel
theorem dX1_isLess_47 : decode cX1_isLess 47 = .ok (.i2l, 1) := by decide +kernel
theorem dX1_isLess_48 : decode cX1_isLess 48 = .ok (.lmul, 1) := by decide +kernel
theorem dX1_isLess_49 : decode cX1_isLess 49 = .ok (.aload_n 2, 1) := by decide +kernel
theorem dX1_isLess_50 : decode cX1_isLess 50 = .ok (.iload 7, 2) := by decide +kernel
theorem dX1_isLess_52 : decode cX1_isLess 52 = .ok (.invokevirtual 26, 3) := by decide +kernel
theorem dX1_isLess_55 : decode cX1_isLess 55 = .ok (.i2l, 1) := by decide +kernel
theorem dX1_isLess_56 : decode cX1_isLess 56 = .ok (.iload_n 3, 1) := by decide +kernel
theorem dX1_isLess_57 : decode cX1_isLess 57 = .ok (.i2l, 1) := by decide +kernel
theorem dX1_isLess_58 : decode cX1_isLess 58 = .ok (.lmul, 1) := by decide +kernel
theorem dX1_isLess_59 : decode cX1_isLess 59 = .ok (.lsub, 1) := by decide +kernel
theorem dX1_isLess_60 : decode cX1_isLess 60 = .ok (.ladd, 1) := by decide +kernel
theorem dX1_isLess_61 : decode cX1_isLess 61 = .ok (.lstore 5, 2) := by decide +kernel
theorem dX1_isLess_63 : decode cX1_isLess 63 = .ok (.lload 5, 2) := by decide +kernel
theorem dX1_isLess_65 : decode cX1_isLess 65 = .ok (.bipush 31, 2) := by decide +kernel
theorem dX1_isLess_67 : decode cX1_isLess 67 = .ok (.lshr, 1) := by decide +kernel
theorem dX1_isLess_68 : decode cX1_isLess 68 = .ok (.lstore 5, 2) := by decide +kernel
theorem dX1_isLess_70 : decode cX1_isLess 70 = .ok (.iinc 7 1, 3) := by decide +kernel
theorem dX1_isLess_73 : decode cX1_isLess 73 = .ok (.goto (-43), 3) := by decide +kernel
theorem dX1_isLess_76 : decode cX1_isLess 76 = .ok (.lload 5, 2) := by decide +kernel
theorem dX1_isLess_78 : decode cX1_isLess 78 = .ok (.lconst 0, 1) := by decide +kernel
theorem dX1_isLess_79 : decode cX1_isLess 79 = .ok (.lcmp, 1) := by decide +kernel
theorem dX1_isLess_80 : decode cX1_isLess 80 = .ok (.ifCond .ge 7, 3) := by decide +kernel
theorem dX1_isLess_83 : decode cX1_isLess 83 = .ok (.iconst 1, 1) := by decide +kernel
theorem dX1_isLess_84 : decode cX1_isLess 84 = .ok (.goto 4, 3) := by decide +kernel
theorem dX1_isLess_87 : decode cX1_isLess 87 = .ok (.iconst 0, 1) := by decide +kernel
theorem dX1_isLess_88 : decode cX1_isLess 88 = .ok (.ireturn, 1) := by decide +kernel
theorem dX1_append_0 : decode cX1_append 0 = .ok (.lload_n 1, 1) := by decide +kernel
theorem dX1_append_1 : decode cX1_append 1 = .ok (.lconst 0, 1) := by decide +kernel
theorem dX1_append_2 : decode cX1_append 2 = .ok (.lcmp, 1) := by decide +kernel
theorem dX1_append_3 : decode cX1_append 3 = .ok (.ifCond .le 43, 3) := by decide +kernel
theorem dX1_append_6 : decode cX1_append 6 = .ok (.aload_n 0, 1) := by decide +kernel
theorem dX1_append_7 : decode cX1_append 7 = .ok (.getfield 13, 3) := by decide +kernel
theorem dX1_append_10 : decode cX1_append 10 = .ok (.ifCond .lt 36, 3) := by decide +kernel
theorem dX1_append_13 : decode cX1_append 13 = .ok (.aload_n 0, 1) := by decide +kernel
theorem dX1_append_14 : decode cX1_append 14 = .ok (.getfield 13, 3) := by decide +kernel
theorem dX1_append_17 : decode cX1_append 17 = .ok (.aload_n 0, 1) := by decide +kernel
theorem dX1_append_18 : decode cX1_append 18 = .ok (.getfield 9, 3) := by decide +kernel
theorem dX1_append_21 : decode cX1_append 21 = .ok (.arraylength, 1) := by decide +kernel
theorem dX1_append_22 : decode cX1_append 22 = .ok (.if_icmp .ge 24, 3) := by decide +kernel
theorem dX1_append_25 : decode cX1_append 25 = .ok (.aload_n 0, 1) := by decide +kernel
theorem dX1_append_26 : decode cX1_append 26 = .ok (.getfield 9, 3) := by decide +kernel
theorem dX1_append_29 : decode cX1_append 29 = .ok (.aload_n 0, 1) := by decide +kernel
theorem dX1_append_30 : decode cX1_append 30 = .ok (.getfield 13, 3) := by decide +kernel
theorem dX1_append_33 : decode cX1_append 33 = .ok (.lload_n 1, 1) := by decide +kernel
theorem dX1_append_34 : decode cX1_append 34 = .ok (.l2i, 1) := by decide +kernel
theorem dX1_append_35 : decode cX1_append 35 = .ok (.iastore, 1) := by decide +kernel
theorem dX1_append_36 : decode cX1_append 36 = .ok (.aload_n 0, 1) := by decide +kernel
theorem dX1_append_37 : decode cX1_append 37 = .ok (.dup, 1) := by decide +kernel
theorem dX1_append_38 : decode cX1_append 38 = .ok (.getfield 13, 3) := by decide +kernel
theorem dX1_append_41 : decode cX1_append 41 = .ok (.iconst 1, 1) := by decide +kernel
theorem dX1_append_42 : decode cX1_append 42 = .ok (.iadd, 1) := by decide +kernel
theorem dX1_append_43 : decode cX1_append 43 = .ok (.putfield 13, 3) := by decide +kernel
theorem dX1_append_46 : decode cX1_append 46 = .ok (.return_, 1) := by decide +kernel
set_option maxRecDepth 20000 in
theorem ggX1_trim_X1_limbAt : GoodIn wsX1_trim wsX1_limbAt := goodIn_r _ [6, 1, 7, 8, 9] (by decide +kernel) (by decide +kernel)
set_option maxRecDepth 20000 in
theorem gX1_trim_X1_limbAt : GoodIn wsX1_trim (wsV RX1 26 RX1 yX1_limbAt wsX1_limbAt) := goodIn_app (goodIn_of _ (by decide +kernel)) ggX1_trim_X1_limbAt
theorem dX1_trim_0 : decode cX1_trim 0 = .ok (.aload_n 0, 1) := by decide +kernel
theorem dX1_trim_1 : decode cX1_trim 1 = .ok (.getfield 13, 3) := by decide +kernel
theorem dX1_trim_4 : decode cX1_trim 4 = .ok (.ifCond .le 29, 3) := by decide +kernel
theorem dX1_trim_7 : decode cX1_trim 7 = .ok (.aload_n 0, 1) := by decide +kernel
theorem dX1_trim_8 : decode cX1_trim 8 = .ok (.aload_n 0, 1) := by decide +kernel
theorem dX1_trim_9 : decode cX1_trim 9 = .ok (.getfield 13, 3) := by decide +kernel
theorem dX1_trim_12 : decode cX1_trim 12 = .ok (.iconst 1, 1) := by decide +kernel
theorem dX1_trim_13 : decode cX1_trim 13 = .ok (.isub, 1) := by decide +kernel
theorem dX1_trim_14 : decode cX1_trim 14 = .ok (.invokevirtual 26, 3) := by decide +kernel
theorem dX1_trim_17 : decode cX1_trim 17 = .ok (.ifCond .ne 16, 3) := by decide +kernel
theorem dX1_trim_20 : decode cX1_trim 20 = .ok (.aload_n 0, 1) := by decide +kernel
theorem dX1_trim_21 : decode cX1_trim 21 = .ok (.dup, 1) := by decide +kernel
theorem dX1_trim_22 : decode cX1_trim 22 = .ok (.getfield 13, 3) := by decide +kernel
theorem dX1_trim_25 : decode cX1_trim 25 = .ok (.iconst 1, 1) := by decide +kernel
theorem dX1_trim_26 : decode cX1_trim 26 = .ok (.isub, 1) := by decide +kernel
theorem dX1_trim_27 : decode cX1_trim 27 = .ok (.putfield 13, 3) := by decide +kernel
theorem dX1_trim_30 : decode cX1_trim 30 = .ok (.goto (-30), 3) := by decide +kernel
theorem dX1_trim_33 : decode cX1_trim 33 = .ok (.return_, 1) := by decide +kernel
set_option maxRecDepth 20000 in
theorem ggX2_init_X1_init : GoodIn wsX2_init wsX1_init := goodIn_r _ [10, 11, 2, 3, 12, 13, 14, 15, 16] (by decide +kernel) (by decide +kernel)
set_option maxRecDepth 20000 in
theorem gX2_init_X1_init_n9 : GoodIn wsX2_init (wsX1_init) := ggX2_init_X1_init
theorem dX2_init_0 : decode cX2_init 0 = .ok (.aload_n 0, 1) := by decide +kernel
theorem dX2_init_1 : decode cX2_init 1 = .ok (.invokespecial 1, 3) := by decide +kernel
theorem dX2_init_4 : decode cX2_init 4 = .ok (.aload_n 0, 1) := by decide +kernel
theorem dX2_init_5 : decode cX2_init 5 = .ok (.new 7, 3) := by decide +kernel
theorem dX2_init_8 : decode cX2_init 8 = .ok (.dup, 1) := by decide +kernel
theorem dX2_init_9 : decode cX2_init 9 = .ok (.invokespecial 9, 3) := by decide +kernel
theorem dX2_init_12 : decode cX2_init 12 = .ok (.putfield 10, 3) := by decide +kernel
theorem dX2_init_15 : decode cX2_init 15 = .ok (.aload_n 0, 1) := by decide +kernel
theorem dX2_init_16 : decode cX2_init 16 = .ok (.new 7, 3) := by decide +kernel
theorem dX2_init_19 : decode cX2_init 19 = .ok (.dup, 1) := by decide +kernel
theorem dX2_init_20 : decode cX2_init 20 = .ok (.invokespecial 9, 3) := by decide +kernel
theorem dX2_init_23 : decode cX2_init 23 = .ok (.putfield 16, 3) := by decide +kernel
theorem dX2_init_26 : decode cX2_init 26 = .ok (.return_, 1) := by decide +kernel
set_option maxRecDepth 20000 in
theorem ggX2_reaches_X1_become : GoodIn wsX2_reaches wsX1_become := goodIn_r _ [9, 10, 11, 12, 13, 8, 14, 15, 43, 44] (by decide +kernel) (by decide +kernel)
set_option maxRecDepth 20000 in
theorem gX2_reaches_X1_become : GoodIn wsX2_reaches (wsV RX2 28 RX1 yX1_become wsX1_become) := goodIn_app (goodIn_of _ (by decide +kernel)) ggX2_reaches_X1_become
set_option maxRecDepth 20000 in
theorem ggX2_reaches_X1_times : GoodIn wsX2_reaches wsX1_times := goodIn_r _ [19, 10, 15, 20, 11, 12, 13, 8, 14, 21, 22, 23, 24, 25, 26, 27, 28, 43, 44] (by decide +kernel) (by decide +kernel)
set_option maxRecDepth 20000 in
theorem gX2_reaches_X1_times : GoodIn wsX2_reaches (wsV RX2 32 RX1 yX1_times wsX1_times) := goodIn_app (goodIn_of _ (by decide +kernel)) ggX2_reaches_X1_times
set_option maxRecDepth 20000 in
theorem ggX2_reaches_X1_isLess : GoodIn wsX2_reaches wsX1_isLess := goodIn_r _ [31, 10, 25, 26, 27, 8, 28, 15, 43, 44] (by decide +kernel) (by decide +kernel)
set_option maxRecDepth 20000 in
theorem gX2_reaches_X1_isLess : GoodIn wsX2_reaches (va_wsS RX2 35 yX1_isLess wsX1_isLess) := goodIn_app (goodIn_of _ (by decide +kernel)) ggX2_reaches_X1_isLess
set_option maxRecDepth 20000 in
theorem ggX2_reaches_X1_plusTimes : GoodIn wsX2_reaches wsX1_plusTimes := goodIn_r _ [35, 10, 15, 20, 25, 26, 27, 8, 28, 11, 12, 13, 14, 21, 22, 23, 24, 43, 44] (by decide +kernel) (by decide +kernel)
set_option maxRecDepth 20000 in
theorem gX2_reaches_X1_plusTimes : GoodIn wsX2_reaches (wsV RX2 39 RX1 yX1_plusTimes wsX1_plusTimes) := goodIn_app (goodIn_of _ (by decide +kernel)) ggX2_reaches_X1_plusTimes
theorem dX2_reaches_0 : decode cX2_reaches 0 = .ok (.aload_n 0, 1) := by decide +kernel
theorem dX2_reaches_1 : decode cX2_reaches 1 = .ok (.getfield 10, 3) := by decide +kernel
theorem dX2_reaches_4 : decode cX2_reaches 4 = .ok (.aload_n 1, 1) := by decide +kernel
theorem dX2_reaches_5 : decode cX2_reaches 5 = .ok (.getfield 19, 3) := by decide +kernel
theorem dX2_reaches_8 : decode cX2_reaches 8 = .ok (.aload_n 1, 1) := by decide +kernel
theorem dX2_reaches_9 : decode cX2_reaches 9 = .ok (.getfield 25, 3) := by decide +kernel
theorem dX2_reaches_12 : decode cX2_reaches 12 = .ok (.isub, 1) := by decide +kernel
theorem dX2_reaches_13 : decode cX2_reaches 13 = .ok (.invokevirtual 28, 3) := by decide +kernel
theorem dX2_reaches_16 : decode cX2_reaches 16 = .ok (.aload_n 0, 1) := by decide +kernel
theorem dX2_reaches_17 : decode cX2_reaches 17 = .ok (.getfield 16, 3) := by decide +kernel
theorem dX2_reaches_20 : decode cX2_reaches 20 = .ok (.aload_n 1, 1) := by decide +kernel
theorem dX2_reaches_21 : decode cX2_reaches 21 = .ok (.getfield 25, 3) := by decide +kernel
theorem dX2_reaches_24 : decode cX2_reaches 24 = .ok (.invokevirtual 28, 3) := by decide +kernel
theorem dX2_reaches_27 : decode cX2_reaches 27 = .ok (.iconst 1, 1) := by decide +kernel
theorem dX2_reaches_28 : decode cX2_reaches 28 = .ok (.istore 4, 2) := by decide +kernel
theorem dX2_reaches_30 : decode cX2_reaches 30 = .ok (.iload 4, 2) := by decide +kernel
theorem dX2_reaches_32 : decode cX2_reaches 32 = .ok (.bipush 60, 2) := by decide +kernel
theorem dX2_reaches_34 : decode cX2_reaches 34 = .ok (.if_icmp .gt 100, 3) := by decide +kernel
theorem dX2_reaches_37 : decode cX2_reaches 37 = .ok (.aload_n 0, 1) := by decide +kernel
theorem dX2_reaches_38 : decode cX2_reaches 38 = .ok (.getfield 10, 3) := by decide +kernel
theorem dX2_reaches_41 : decode cX2_reaches 41 = .ok (.iload_n 3, 1) := by decide +kernel
theorem dX2_reaches_42 : decode cX2_reaches 42 = .ok (.iload 4, 2) := by decide +kernel
theorem dX2_reaches_44 : decode cX2_reaches 44 = .ok (.imul, 1) := by decide +kernel
theorem dX2_reaches_45 : decode cX2_reaches 45 = .ok (.invokevirtual 32, 3) := by decide +kernel
theorem dX2_reaches_48 : decode cX2_reaches 48 = .ok (.aload_n 0, 1) := by decide +kernel
theorem dX2_reaches_49 : decode cX2_reaches 49 = .ok (.getfield 16, 3) := by decide +kernel
theorem dX2_reaches_52 : decode cX2_reaches 52 = .ok (.iload_n 2, 1) := by decide +kernel
theorem dX2_reaches_53 : decode cX2_reaches 53 = .ok (.invokevirtual 32, 3) := by decide +kernel
theorem dX2_reaches_56 : decode cX2_reaches 56 = .ok (.aload_n 0, 1) := by decide +kernel
theorem dX2_reaches_57 : decode cX2_reaches 57 = .ok (.getfield 16, 3) := by decide +kernel
theorem dX2_reaches_60 : decode cX2_reaches 60 = .ok (.iconst 1, 1) := by decide +kernel
theorem dX2_reaches_61 : decode cX2_reaches 61 = .ok (.aload_n 0, 1) := by decide +kernel
theorem dX2_reaches_62 : decode cX2_reaches 62 = .ok (.getfield 10, 3) := by decide +kernel
theorem dX2_reaches_65 : decode cX2_reaches 65 = .ok (.iconst 1, 1) := by decide +kernel
theorem dX2_reaches_66 : decode cX2_reaches 66 = .ok (.invokestatic 35, 3) := by decide +kernel
theorem dX2_reaches_69 : decode cX2_reaches 69 = .ok (.ifCond .ne 5, 3) := by decide +kernel
theorem dX2_reaches_72 : decode cX2_reaches 72 = .ok (.iconst 1, 1) := by decide +kernel
theorem dX2_reaches_73 : decode cX2_reaches 73 = .ok (.ireturn, 1) := by decide +kernel
theorem dX2_reaches_74 : decode cX2_reaches 74 = .ok (.aload_n 0, 1) := by decide +kernel
theorem dX2_reaches_75 : decode cX2_reaches 75 = .ok (.getfield 10, 3) := by decide +kernel
theorem dX2_reaches_78 : decode cX2_reaches 78 = .ok (.aload_n 0, 1) := by decide +kernel
theorem dX2_reaches_79 : decode cX2_reaches 79 = .ok (.getfield 16, 3) := by decide +kernel
theorem dX2_reaches_82 : decode cX2_reaches 82 = .ok (.iconst (-1), 1) := by decide +kernel
theorem dX2_reaches_83 : decode cX2_reaches 83 = .ok (.invokevirtual 39, 3) := by decide +kernel
theorem dX2_reaches_86 : decode cX2_reaches 86 = .ok (.iconst 2, 1) := by decide +kernel
theorem dX2_reaches_87 : decode cX2_reaches 87 = .ok (.iload_n 2, 1) := by decide +kernel
theorem dX2_reaches_88 : decode cX2_reaches 88 = .ok (.imul, 1) := by decide +kernel
theorem dX2_reaches_89 : decode cX2_reaches 89 = .ok (.iload 4, 2) := by decide +kernel
theorem dX2_reaches_91 : decode cX2_reaches 91 = .ok (.iconst 1, 1) := by decide +kernel
theorem dX2_reaches_92 : decode cX2_reaches 92 = .ok (.iadd, 1) := by decide +kernel
theorem dX2_reaches_93 : decode cX2_reaches 93 = .ok (.iload_n 3, 1) := by decide +kernel
theorem dX2_reaches_94 : decode cX2_reaches 94 = .ok (.imul, 1) := by decide +kernel
theorem dX2_reaches_95 : decode cX2_reaches 95 = .ok (.if_icmp .gt 7, 3) := by decide +kernel
theorem dX2_reaches_98 : decode cX2_reaches 98 = .ok (.iconst 1, 1) := by decide +kernel
theorem dX2_reaches_99 : decode cX2_reaches 99 = .ok (.goto 4, 3) := by decide +kernel
theorem dX2_reaches_102 : decode cX2_reaches 102 = .ok (.iconst 0, 1) := by decide +kernel
theorem dX2_reaches_103 : decode cX2_reaches 103 = .ok (.istore 5, 2) := by decide +kernel
theorem dX2_reaches_105 : decode cX2_reaches 105 = .ok (.iload 5, 2) := by decide +kernel
theorem dX2_reaches_107 : decode cX2_reaches 107 = .ok (.ifCond .eq 21, 3) := by decide +kernel
theorem dX2_reaches_110 : decode cX2_reaches 110 = .ok (.aload_n 0, 1) := by decide +kernel
theorem dX2_reaches_111 : decode cX2_reaches 111 = .ok (.getfield 10, 3) := by decide +kernel
theorem dX2_reaches_114 : decode cX2_reaches 114 = .ok (.iconst 1, 1) := by decide +kernel
theorem dX2_reaches_115 : decode cX2_reaches 115 = .ok (.aload_n 0, 1) := by decide +kernel
theorem dX2_reaches_116 : decode cX2_reaches 116 = .ok (.getfield 16, 3) := by decide +kernel
theorem dX2_reaches_119 : decode cX2_reaches 119 = .ok (.iconst 1, 1) := by decide +kernel
theorem dX2_reaches_120 : decode cX2_reaches 120 = .ok (.invokestatic 35, 3) := by decide +kernel
theorem dX2_reaches_123 : decode cX2_reaches 123 = .ok (.ifCond .ne 5, 3) := by decide +kernel
theorem dX2_reaches_126 : decode cX2_reaches 126 = .ok (.iconst 0, 1) := by decide +kernel
theorem dX2_reaches_127 : decode cX2_reaches 127 = .ok (.ireturn, 1) := by decide +kernel
theorem dX2_reaches_128 : decode cX2_reaches 128 = .ok (.iinc 4 1, 3) := by decide +kernel
theorem dX2_reaches_131 : decode cX2_reaches 131 = .ok (.goto (-101), 3) := by decide +kernel
theorem dX2_reaches_134 : decode cX2_reaches 134 = .ok (.iconst 0, 1) := by decide +kernel
theorem dX2_reaches_135 : decode cX2_reaches 135 = .ok (.ireturn, 1) := by decide +kernel
end
section
/-! The shape in which every contract of this claim is written: a world of cells before, a world of cells behind, the post condition a predicate that the caller chooses. -/
def wT (cI cJ : ClassId) : List (ClassId × FieldType) := [(cI, .int), (cJ, .long)]
def wKK (G : va_G) (cI cJ : ClassId) (U : State) : Prop := va_K G vwCl (wT cI cJ) U ∧ U.vm.findClass "[I" = some cI ∧ U.vm.findClass "[J" = some cJ
theorem wKK.moved {G : va_G} {cI cJ : ClassId} {u U : State} (hvm : u.vm.Alike U.vm) (h : wKK G cI cJ u) : wKK G cI cJ U :=
  ⟨va_K.moved hvm h.1, by rw [hvm.findClass]; exact h.2.1, by rw [hvm.findClass]; exact h.2.2⟩
def wIn (G : va_G) (cI cJ : ClassId) (w : va_W) (sz : Nat) (U : State) : Prop := U.heap.size = sz ∧ va_P G vwCl w U.heap ∧ wKK G cI cJ U ∧ va_D (fun _ => True) w
def wOut (G : va_G) (cI cJ : ClassId) (A : Nat → Prop) (w : va_W) (t : State) : Prop := va_P G vwCl w t.heap ∧ wKK G cI cJ t ∧ va_D A w
theorem wIn_blind {G : va_G} {cI cJ : ClassId} {w : va_W} {sz : Nat} {av : List Value} : FrameBlind (va_Pc av (wIn G cI cJ w sz)) :=
  fun a U g mk q => by obtain ⟨q0, q1, qP, qK, qD⟩ := q; exact ⟨q0, q1, qP, wKK.moved (u := U) (U := U.calling g mk a) (Vm.Alike.refl U.vm) qK, qD⟩
def Ki {S : Type} (l : Launch) (y : MethodName) (ws : List Cond) (rm : Room) (G : va_G) (cI cJ : ClassId) (av : List Value) (w : va_W) (post : Int32 → S → Prop) (w' : S → va_W) : Prop :=
  ∀ sz : Nat, Met l y ws rm (va_Pc av (wIn G cI cJ w sz)) (va_Qi post (fun u => wOut G cI cJ (va_A w sz) (w' u)) (va_A w sz)) 0 0 (va_A w sz)
def Kl {S : Type} (l : Launch) (y : MethodName) (ws : List Cond) (rm : Room) (G : va_G) (cI cJ : ClassId) (av : List Value) (w : va_W) (post : Int64 → S → Prop) (w' : S → va_W) : Prop :=
  ∀ sz : Nat, Met l y ws rm (va_Pc av (wIn G cI cJ w sz)) (va_Ql post (fun u => wOut G cI cJ (va_A w sz) (w' u)) (va_A w sz)) 0 0 (va_A w sz)
def Kv {S : Type} (l : Launch) (y : MethodName) (ws : List Cond) (rm : Room) (G : va_G) (cI cJ : ClassId) (av : List Value) (w : va_W) (post : S → Prop) (w' : S → va_W) : Prop :=
  ∀ sz : Nat, Met l y ws rm (va_Pc av (wIn G cI cJ w sz)) (va_Qv post (fun u => wOut G cI cJ (va_A w sz) (w' u)) (va_A w sz)) 0 0 (va_A w sz)
/-- an answer that is a boolean -/
def wB (r : Int32) : Prop := r = 0 ∨ r = 1
theorem wB_narrow {r : Int32} (h : wB r) : narrow .boolean (.int r) = .int r := by rcases h with rfl | rfl <;> rfl
section WalkEntry
variable {l : Launch} {y : MethodName} {ws ws' : List Cond} {rm : Room} {G : va_G} {cI cJ : ClassId} {av : List Value} {w : va_W} {cc : ByteArray} {maxL : Nat}
theorem ki_intro {S : Type} {post : Int32 → S → Prop} {w' : S → va_W} (hrc : rm.cells = 0) (hrs : rm.slots = 0) (hy : plainName y.cls = true) (hw : ws = Cond.code y cc maxL (some .int) :: ws') (hlen : (lg_sl av).length ≤ maxL)
    (body : ∀ (p : Program) (e : Env) (s : State) (m : MethodId) (args : Array Value) (below : List Frame) (meth : Method) (c : Code) (A : Nat → Prop) (Z : State → Prop) (ls : Array Slot), p.tables.exec = Jvm.exec → c.code = cc → c.maxLocals = maxL → (∀ q ∈ ws, q.before args s = true) → s.vm.findClass y.cls = some m.cls →
      va_P G vwCl w s.heap → wKK G cI cJ s → va_D A w → va_S A s.heap s.heap [] → (∀ q : Nat, s.heap.size ≤ q → A q) → lv_has ls maxL (lv_args 0 av) →
      (∀ (v : Int32) (u : S) (H : Heap) (locs : List Loc) (pc : Nat) (ls : Array Slot), post v u → va_P G vwCl (w' u) H → va_D A (w' u) → va_S A s.heap H locs → decode cc pc = .ok (.ireturn, 1) → W p l e rm s m args below meth c H locs 0 0 Z (F0 m pc ls [.int v])) →
      W p l e rm s m args below meth c s.heap [] 0 0 Z (F0 m 0 ls [])) : Ki l y ws rm G cI cJ av w post w' := by
  intro sz
  refine Met.ofW (cc := cc) (maxL := maxL) (ret := some .int) hy hw ?_
  intro p e s m args below meth c s₁ B hml hv
  obtain ⟨rfl, hsz, hP, hK, hD0⟩ := hv
  have hr := B.returns
  have hlocks := B.notSynchronized
  subst hsz
  have hD := hD0.self (sz := s.heap.size)
  have hl := lv_entry av (n := maxL) hlen
  rw [lg_entry_eq]
  exact body p e s m _ below meth c _ _ _ B.exec B.bytes hml (atoms_spec B.pre) (findClass_of_methodNamed B.named) hP hK hD va_S.rf (fun q h => Or.inr h) hl
    (fun v u H locs pc ls hq hP hD hS hd => W.iret (v := v) B.exec B.bytes hr (fun t ht hW => ⟨⟨v, u, rfl, hq, by rw [ht]; exact hP, wKK.moved hW.alike hK, hD⟩, hS.F ht⟩) hS.2.2 hd)
theorem kz_intro {S : Type} {post : Int32 → S → Prop} {w' : S → va_W} (hrc : rm.cells = 0) (hrs : rm.slots = 0) (hy : plainName y.cls = true) (hw : ws = Cond.code y cc maxL (some .boolean) :: ws') (hlen : (lg_sl av).length ≤ maxL)
    (body : ∀ (p : Program) (e : Env) (s : State) (m : MethodId) (args : Array Value) (below : List Frame) (meth : Method) (c : Code) (A : Nat → Prop) (Z : State → Prop) (ls : Array Slot), p.tables.exec = Jvm.exec → c.code = cc → c.maxLocals = maxL → (∀ q ∈ ws, q.before args s = true) → s.vm.findClass y.cls = some m.cls →
      va_P G vwCl w s.heap → wKK G cI cJ s → va_D A w → va_S A s.heap s.heap [] → (∀ q : Nat, s.heap.size ≤ q → A q) → lv_has ls maxL (lv_args 0 av) →
      (∀ (v : Int32) (u : S) (H : Heap) (locs : List Loc) (pc : Nat) (ls : Array Slot), wB v → post v u → va_P G vwCl (w' u) H → va_D A (w' u) → va_S A s.heap H locs → decode cc pc = .ok (.ireturn, 1) → W p l e rm s m args below meth c H locs 0 0 Z (F0 m pc ls [.int v])) →
      W p l e rm s m args below meth c s.heap [] 0 0 Z (F0 m 0 ls [])) : Ki l y ws rm G cI cJ av w (fun r u => wB r ∧ post r u) w' := by
  intro sz
  refine Met.ofW (cc := cc) (maxL := maxL) (ret := some .boolean) hy hw ?_
  intro p e s m args below meth c s₁ B hml hv
  obtain ⟨rfl, hsz, hP, hK, hD0⟩ := hv
  have hr := B.returns
  have hlocks := B.notSynchronized
  subst hsz
  have hD := hD0.self (sz := s.heap.size)
  have hl := lv_entry av (n := maxL) hlen
  rw [lg_entry_eq]
  exact body p e s m _ below meth c _ _ _ B.exec B.bytes hml (atoms_spec B.pre) (findClass_of_methodNamed B.named) hP hK hD va_S.rf (fun q h => Or.inr h) hl
    (fun v u H locs pc ls hz hq hP hD hS hd => W.zret (v := v) (ty := .boolean) B.exec B.bytes hr (wB_narrow hz) (fun t ht hW => ⟨⟨v, u, rfl, ⟨hz, hq⟩, by rw [ht]; exact hP, wKK.moved hW.alike hK, hD⟩, hS.F ht⟩) hS.2.2 hd)
theorem kl_intro {S : Type} {post : Int64 → S → Prop} {w' : S → va_W} (hrc : rm.cells = 0) (hrs : rm.slots = 0) (hy : plainName y.cls = true) (hw : ws = Cond.code y cc maxL (some .long) :: ws') (hlen : (lg_sl av).length ≤ maxL)
    (body : ∀ (p : Program) (e : Env) (s : State) (m : MethodId) (args : Array Value) (below : List Frame) (meth : Method) (c : Code) (A : Nat → Prop) (Z : State → Prop) (ls : Array Slot), p.tables.exec = Jvm.exec → c.code = cc → c.maxLocals = maxL → (∀ q ∈ ws, q.before args s = true) → s.vm.findClass y.cls = some m.cls →
      va_P G vwCl w s.heap → wKK G cI cJ s → va_D A w → va_S A s.heap s.heap [] → (∀ q : Nat, s.heap.size ≤ q → A q) → lv_has ls maxL (lv_args 0 av) →
      (∀ (v : Int64) (u : S) (H : Heap) (locs : List Loc) (pc : Nat) (ls : Array Slot), post v u → va_P G vwCl (w' u) H → va_D A (w' u) → va_S A s.heap H locs → decode cc pc = .ok (.lreturn, 1) → W p l e rm s m args below meth c H locs 0 0 Z (F0 m pc ls [.long v])) →
      W p l e rm s m args below meth c s.heap [] 0 0 Z (F0 m 0 ls [])) : Kl l y ws rm G cI cJ av w post w' := by
  intro sz
  refine Met.ofW (cc := cc) (maxL := maxL) (ret := some .long) hy hw ?_
  intro p e s m args below meth c s₁ B hml hv
  obtain ⟨rfl, hsz, hP, hK, hD0⟩ := hv
  have hr := B.returns
  have hlocks := B.notSynchronized
  subst hsz
  have hD := hD0.self (sz := s.heap.size)
  have hl := lv_entry av (n := maxL) hlen
  rw [lg_entry_eq]
  exact body p e s m _ below meth c _ _ _ B.exec B.bytes hml (atoms_spec B.pre) (findClass_of_methodNamed B.named) hP hK hD va_S.rf (fun q h => Or.inr h) hl
    (fun v u H locs pc ls hq hP hD hS hd => W.lret (v := v) B.exec B.bytes hr (fun t ht hW => ⟨⟨v, u, rfl, hq, by rw [ht]; exact hP, wKK.moved hW.alike hK, hD⟩, hS.F ht⟩) hS.2.2 hd)
theorem kv_intro {S : Type} {post : S → Prop} {w' : S → va_W} (hrc : rm.cells = 0) (hrs : rm.slots = 0) (hy : plainName y.cls = true) (hw : ws = Cond.code y cc maxL none :: ws') (hlen : (lg_sl av).length ≤ maxL)
    (body : ∀ (p : Program) (e : Env) (s : State) (m : MethodId) (args : Array Value) (below : List Frame) (meth : Method) (c : Code) (A : Nat → Prop) (Z : State → Prop) (ls : Array Slot), p.tables.exec = Jvm.exec → c.code = cc → c.maxLocals = maxL → (∀ q ∈ ws, q.before args s = true) → s.vm.findClass y.cls = some m.cls →
      va_P G vwCl w s.heap → wKK G cI cJ s → va_D A w → va_S A s.heap s.heap [] → (∀ q : Nat, s.heap.size ≤ q → A q) → lv_has ls maxL (lv_args 0 av) →
      (∀ (u : S) (H : Heap) (locs : List Loc) (pc : Nat) (ls : Array Slot), post u → va_P G vwCl (w' u) H → va_D A (w' u) → va_S A s.heap H locs → decode cc pc = .ok (.return_, 1) → W p l e rm s m args below meth c H locs 0 0 Z (F0 m pc ls [])) →
      W p l e rm s m args below meth c s.heap [] 0 0 Z (F0 m 0 ls [])) : Kv l y ws rm G cI cJ av w post w' := by
  intro sz
  refine Met.ofW (cc := cc) (maxL := maxL) (ret := none) hy hw ?_
  intro p e s m args below meth c s₁ B hml hv
  obtain ⟨rfl, hsz, hP, hK, hD0⟩ := hv
  have hr := B.returns
  have hlocks := B.notSynchronized
  subst hsz
  have hD := hD0.self (sz := s.heap.size)
  have hl := lv_entry av (n := maxL) hlen
  rw [lg_entry_eq]
  exact body p e s m _ below meth c _ _ _ B.exec B.bytes hml (atoms_spec B.pre) (findClass_of_methodNamed B.named) hP hK hD va_S.rf (fun q h => Or.inr h) hl
    (fun u H locs pc ls hq hP hD hS hd => W.vret B.exec B.bytes hr (fun t ht hW => ⟨⟨u, rfl, hq, by rw [ht]; exact hP, wKK.moved hW.alike hK, hD⟩, hS.F ht⟩) hS.2.2 hd)
end WalkEntry
section WalkCells
variable {p : Program} {l : Launch} {e : Env} {R : Room} {s : State} {m : MethodId} {args : Array Value} {below : List Frame} {meth : Method} {c : Code} {H : Heap} {locs : List Loc} {cells slots : Nat} {Q : State → Prop} {cc : ByteArray} {pc : Nat} {ls : Array Slot} {rest st0 : List Value} {G : va_G} {cI cJ : ClassId} {A : Nat → Prop} {H0 : Heap} {a : Nat} {ws : va_W}
theorem k_get (hx : p.tables.exec = Jvm.exec) (hb : c.code = cc) {own C : String} {T : u_T} {N index : Nat} {Ts : List Cond} (hts : ∀ w ∈ Ts, w.before args s = true) (hin : ∀ w ∈ u_ws C T N, w ∈ Ts) (hown : s.vm.findClass own = some m.cls) (hK : wKK G cI cJ s) (hP : va_P G vwCl ws H) (q0 ci : Nat) {fs : List Value} (he : ws[q0]? = some (a, .inr (ci, fs))) (hc : vwCl[ci]? = some (C, T, N)) (k : Nat) (hk : k < N) (hlink : Cond.fieldLink own index (T k).1 (T k).2.1 (T k).2.2.1 ∈ Ts) (v : Value) (hv : fs[k]? = some v) (hdg : decode cc pc = .ok (.getfield index, 3))
    (kk : W p l e R s m args below meth c H locs cells slots Q (F0 m (pc + 3) ls (v :: rest))) : W p l e R s m args below meth c H locs cells slots Q (F0 m pc ls (.ref a :: rest)) :=
  va_get hx hb hts hin hown hK.1 hP q0 he hc k hk (hts _ hlink) (fun _ h => h) hv hdg kk
theorem k_put (hx : p.tables.exec = Jvm.exec) (hb : c.code = cc) {own C : String} {T : u_T} {N index : Nat} {Ts : List Cond} (hts : ∀ w ∈ Ts, w.before args s = true) (hin : ∀ w ∈ u_ws C T N, w ∈ Ts) (ty0 : Nat → FieldType) (hty : ∀ k, k < N → parseFieldDescriptor (T k).2.2.1 = some (ty0 k)) (hnm : ∀ a, a < N → ∀ b, b < N → a ≠ b → (T a).2.1 ≠ (T b).2.1) (hown : s.vm.findClass own = some m.cls) (hK : wKK G cI cJ s) (hP : va_P G vwCl ws H) (hD : va_D A ws) (hS0 : va_S A H0 H locs) (q0 ci : Nat) {fs : List Value} (he : ws[q0]? = some (a, .inr (ci, fs))) (hc : vwCl[ci]? = some (C, T, N)) (k : Nat) (hk : k < N) (hlink : Cond.fieldLink own index (T k).1 (T k).2.1 (T k).2.2.1 ∈ Ts) (hfin : (T k).2.2.2 = false) {v : Value} (hn : narrow (ty0 k) v = v) (hfit : fits (ty0 k) v = true) (hl : k < fs.length) {w' : va_W} (hw' : ws.set q0 (a, .inr (ci, fs.set k v)) = w')
    (hdg : decode cc pc = .ok (.putfield index, 3)) (kk : ∀ (H1 : Heap) (locs1 : List Loc), va_P G vwCl w' H1 → va_D A w' → va_S A H0 H1 locs1 → W p l e R s m args below meth c H1 locs1 cells slots Q (F0 m (pc + 3) ls rest)) : W p l e R s m args below meth c H locs cells slots Q (F0 m pc ls (v :: .ref a :: rest)) :=
  va_put hx hb hts hin ty0 hty hnm hown hK.1 hP hD hS0 q0 he hc k hk (hts _ hlink) (fun _ h => h) hfin (hty k hk) hn hfit hl hdg (fun H1 l1 h1 h2 h3 => by subst hw'; exact kk H1 l1 h1 h2 h3)
theorem k_iald (hx : p.tables.exec = Jvm.exec) (hb : c.code = cc) (hK : wKK G cI cJ s) (hP : va_P G vwCl ws H) (q0 : Nat) {n : Nat} {f : Nat → Int32} (ha : ws[q0]? = some (a, .inl (cI, n, .inl f))) {i : Int32} (hin : vp_in i n) (hdg : decode cc pc = .ok (.iaload, 1))
    (kk : W p l e R s m args below meth c H locs cells slots Q (F0 m (pc + 1) ls (.int (f i.toNatClampNeg) :: rest))) : W p l e R s m args below meth c H locs cells slots Q (F0 m pc ls (.int i :: .ref a :: rest)) :=
  va_iald hx hb hK.1 hP q0 0 ha rfl hin hdg kk
theorem k_lald (hx : p.tables.exec = Jvm.exec) (hb : c.code = cc) (hK : wKK G cI cJ s) (hP : va_P G vwCl ws H) (q0 : Nat) {n : Nat} {f : Nat → Int64} (ha : ws[q0]? = some (a, .inl (cJ, n, .inr (.inl f)))) {i : Int32} (hin : vp_in i n) (hdg : decode cc pc = .ok (.laload, 1))
    (kk : W p l e R s m args below meth c H locs cells slots Q (F0 m (pc + 1) ls (.long (f i.toNatClampNeg) :: rest))) : W p l e R s m args below meth c H locs cells slots Q (F0 m pc ls (.int i :: .ref a :: rest)) :=
  va_lald hx hb hK.1 hP q0 1 ha rfl hin hdg kk
theorem k_iast (hx : p.tables.exec = Jvm.exec) (hb : c.code = cc) (hK : wKK G cI cJ s) (hP : va_P G vwCl ws H) (hD : va_D A ws) (hS : va_S A H0 H locs) (q0 : Nat) {n : Nat} {f : Nat → Int32} (ha : ws[q0]? = some (a, .inl (cI, n, .inl f))) {i x : Int32} (hin : vp_in i n) {w' : (Nat → Int32) → va_W} (hw' : ∀ g : Nat → Int32, ws.set q0 (a, .inl (cI, n, .inl g)) = w' g) (hdg : decode cc pc = .ok (.iastore, 1))
    (kk : ∀ (g : Nat → Int32), g = upd f i.toNatClampNeg x → ∀ (H1 : Heap) (locs1 : List Loc), va_P G vwCl (w' g) H1 → va_D A (w' g) → va_S A H0 H1 locs1 → W p l e R s m args below meth c H1 locs1 cells slots Q (F0 m (pc + 1) ls rest)) : W p l e R s m args below meth c H locs cells slots Q (F0 m pc ls (.int x :: .int i :: .ref a :: rest)) :=
  va_iast hx hb hK.1 hP hD hS q0 0 ha rfl hin hdg (fun H1 l1 h1 h2 h3 => kk _ rfl H1 l1 (by rw [← hw']; exact h1) (by rw [← hw']; exact h2) h3)
theorem k_last (hx : p.tables.exec = Jvm.exec) (hb : c.code = cc) (hK : wKK G cI cJ s) (hP : va_P G vwCl ws H) (hD : va_D A ws) (hS : va_S A H0 H locs) (q0 : Nat) {n : Nat} {f : Nat → Int64} (ha : ws[q0]? = some (a, .inl (cJ, n, .inr (.inl f)))) {i : Int32} {x : Int64} (hin : vp_in i n) {w' : (Nat → Int64) → va_W} (hw' : ∀ g : Nat → Int64, ws.set q0 (a, .inl (cJ, n, .inr (.inl g))) = w' g) (hdg : decode cc pc = .ok (.lastore, 1))
    (kk : ∀ (g : Nat → Int64), g = vp_updL f i.toNatClampNeg x → ∀ (H1 : Heap) (locs1 : List Loc), va_P G vwCl (w' g) H1 → va_D A (w' g) → va_S A H0 H1 locs1 → W p l e R s m args below meth c H1 locs1 cells slots Q (F0 m (pc + 1) ls rest)) : W p l e R s m args below meth c H locs cells slots Q (F0 m pc ls (.long x :: .int i :: .ref a :: rest)) :=
  va_last hx hb hK.1 hP hD hS q0 1 ha rfl hin hdg (fun H1 l1 h1 h2 h3 => kk _ rfl H1 l1 (by rw [← hw']; exact h1) (by rw [← hw']; exact h2) h3)
theorem k_alen (hx : p.tables.exec = Jvm.exec) (hb : c.code = cc) (hK : wKK G cI cJ s) (hP : va_P G vwCl ws H) (q0 : Nat) {n : Nat} {x : (Nat → Int32) ⊕ (Nat → Int64) ⊕ (Nat → UInt32) ⊕ (Nat → UInt64) ⊕ (Nat → Option Nat)} (ha : ws[q0]? = some (a, .inl (cI, n, x))) (v : Int32) (hv : Int32.ofNat n = v) (hdg : decode cc pc = .ok (.arraylength, 1))
    (kk : W p l e R s m args below meth c H locs cells slots Q (F0 m (pc + 1) ls (.int v :: rest))) : W p l e R s m args below meth c H locs cells slots Q (F0 m pc ls (.ref a :: rest)) :=
  va_alen hx hb hK.1 hP q0 0 ha (ty := .int) rfl hv hdg kk
/-- what a caller gives beside the callee's contract: the callee's cells among its own, and how the world is ordered behind -/
theorem k_back {S : Type} {wd wc wr : va_W} {w' wn : S → va_W} {H1 : Heap} (hP : va_P G vwCl wd H) (hD : va_D A wd) (hF : ∀ q, va_A wc H.size q → A q) (isC isR pm : List Nat) (hC : isC.map (fun i => wd[i]?) = wc.map some) (hR : isR.map (fun i => wd[i]?) = wr.map some) (hn2 : va_nd isR = true) (hdis : ∀ i ∈ isR, i ∉ isC) (u : S) (hpm : va_nd pm = true) (hpn : pm.map (fun i => (wr ++ w' u)[i]?) = (wn u).map some)
    (hk : ∀ q : Nat, q < H.size → ¬ va_A wc H.size q → H1[q]? = H[q]?) (hP1 : va_P G vwCl (w' u) H1) (hD1 : va_D (va_A wc H.size) (w' u)) : va_P G vwCl (wn u) H1 ∧ va_D A (wn u) := by
  obtain ⟨h1, h2⟩ := va_join hP hD isC isR hC hR hn2 hdis hk hF hP1 hD1
  refine ⟨?_, h2.sub pm hpm hpn⟩
  intro k q hq
  have h3 : (pm.map (fun i => (wr ++ w' u)[i]?))[k]? = ((wn u).map some)[k]? := by rw [hpn]
  rw [List.getElem?_map, List.getElem?_map, hq] at h3
  cases h4 : pm[k]? with
  | none => rw [h4] at h3; simp at h3
  | some i =>
    rw [h4] at h3
    exact h1 i q (by simpa using h3)
theorem k_callPc {wd wc : va_W} {av : List Value} (hK : wKK G cI cJ s) (hP : va_P G vwCl wd H) (hD : va_D A wd) (isC : List Nat) (hC : isC.map (fun i => wd[i]?) = wc.map some) (hnC : va_nd isC = true) :
    ∀ U : State, U.heap = H → s.WarmedH U.vm → va_Pc av (wIn G cI cJ wc H.size) av.toArray U := by
  intro U hU hW
  refine ⟨rfl, by rw [hU], ?_, wKK.moved hW.alike hK, (hD.sub isC hnC hC).weaken (fun _ _ _ _ => trivial)⟩
  rw [hU]
  intro k q hq
  have h3 : (isC.map (fun i => wd[i]?))[k]? = (wc.map some)[k]? := by rw [hC]
  rw [List.getElem?_map, List.getElem?_map, hq] at h3
  cases h4 : isC[k]? with
  | none => rw [h4] at h3; simp at h3
  | some i =>
    rw [h4] at h3
    exact hP i q (by simpa using h3)
variable {own C : String} {index maxL n nL : Nat} {y : MethodName} {bytes : ByteArray} {wsY Ts ws' : List Cond} {rm : Room} {b ci q0 : Nat} {As : List Value} {wd wc wr : va_W} {fs : List Value} {T : u_T} {N : Nat} {S : Type}
theorem k_Vi {post : Int32 → S → Prop} {w' wn : S → va_W} {ret : Option FieldType} (hM : Ki l y wsY rm G cI cJ (.ref b :: As) wc post w') (fx : CallFix p m c cc nL s args Ts own) (cw : CallW R s args own C index y bytes maxL ret wsY rm 0 0 n) (hK : wKK G cI cJ s) (hP : va_P G vwCl wd H) (hD : va_D A wd) (hS : va_S A H0 H locs) (hA : ∀ q, H0.size ≤ q → A q) (isC isR pm : List Nat) (hC : isC.map (fun i => wd[i]?) = wc.map some) (hR : isR.map (fun i => wd[i]?) = wr.map some) (hnC : va_nd isC = true) (hn2 : va_nd isR = true) (hdis : ∀ i ∈ isR, i ∉ isC) (hpm : va_nd pm = true) (hpn : ∀ u : S, pm.map (fun i => (wr ++ w' u)[i]?) = (wn u).map some)
    (hrecv : wc[q0]? = some (b, .inr (ci, fs))) (hcl : vwCl[ci]? = some (C, T, N)) (hn : As.length = n) (hls : ls.size = nL) (hst : st0 = As.reverse ++ .ref b :: rest) (hrm : (rest.map fun v => v.category).sum ≤ 8) (hc0 : cells ≤ R.cells) (hs0 : slots ≤ R.slots) (hdg : decode cc pc = .ok (.invokevirtual index, 3))
    (kk : ∀ (r : Int32) (u : S) (H1 : Heap) (locs1 : List Loc), post r u → va_P G vwCl (wn u) H1 → va_D A (wn u) → va_S A H0 H1 locs1 → W p l e R s m args below meth c H1 locs1 cells slots Q (F0 m (pc + 3) ls (.int r :: rest))) : W p l e R s m args below meth c H locs cells slots Q (F0 m pc ls st0) := by
  have hF := va_free (wc := wc) hD hS hA isC hC
  have hpc := k_callPc (av := .ref b :: As) hK hP hD isC hC hnC
  have hPc : va_P G vwCl wc H := by have h := (hpc ({ s with heap := H }) rfl (State.WarmedH.refl _)).2.2.1; exact h
  refine va_calli (va_runV (As := As) (rest := rest) fx (hM H.size) cw ⟨wIn_blind, va_recv hK.1 hPc hcl hrecv, hpc⟩ rfl hn hls hst (lv_room hrm) hdg ⟨hc0, hs0⟩) hS (fun q _ h => hF q h) hF (fun r u t H1 locs1 ht hvm hw hB hz1 hk1 hS => ?_)
  obtain ⟨hP1, hK1, hD1⟩ := hB
  rw [ht] at hP1
  obtain ⟨hP2, hD2⟩ := k_back (w' := w') (wn := wn) hP hD hF isC isR pm hC hR hn2 hdis u hpm (hpn u) hk1 hP1 hD1
  exact kk r u H1 locs1 hw hP2 hD2 hS
theorem k_Vl {post : Int64 → S → Prop} {w' wn : S → va_W} {ret : Option FieldType} (hM : Kl l y wsY rm G cI cJ (.ref b :: As) wc post w') (fx : CallFix p m c cc nL s args Ts own) (cw : CallW R s args own C index y bytes maxL ret wsY rm 0 0 n) (hK : wKK G cI cJ s) (hP : va_P G vwCl wd H) (hD : va_D A wd) (hS : va_S A H0 H locs) (hA : ∀ q, H0.size ≤ q → A q) (isC isR pm : List Nat) (hC : isC.map (fun i => wd[i]?) = wc.map some) (hR : isR.map (fun i => wd[i]?) = wr.map some) (hnC : va_nd isC = true) (hn2 : va_nd isR = true) (hdis : ∀ i ∈ isR, i ∉ isC) (hpm : va_nd pm = true) (hpn : ∀ u : S, pm.map (fun i => (wr ++ w' u)[i]?) = (wn u).map some)
    (hrecv : wc[q0]? = some (b, .inr (ci, fs))) (hcl : vwCl[ci]? = some (C, T, N)) (hn : As.length = n) (hls : ls.size = nL) (hst : st0 = As.reverse ++ .ref b :: rest) (hrm : (rest.map fun v => v.category).sum ≤ 8) (hc0 : cells ≤ R.cells) (hs0 : slots ≤ R.slots) (hdg : decode cc pc = .ok (.invokevirtual index, 3))
    (kk : ∀ (r : Int64) (u : S) (H1 : Heap) (locs1 : List Loc), post r u → va_P G vwCl (wn u) H1 → va_D A (wn u) → va_S A H0 H1 locs1 → W p l e R s m args below meth c H1 locs1 cells slots Q (F0 m (pc + 3) ls (.long r :: rest))) : W p l e R s m args below meth c H locs cells slots Q (F0 m pc ls st0) := by
  have hF := va_free (wc := wc) hD hS hA isC hC
  have hpc := k_callPc (av := .ref b :: As) hK hP hD isC hC hnC
  have hPc : va_P G vwCl wc H := by have h := (hpc ({ s with heap := H }) rfl (State.WarmedH.refl _)).2.2.1; exact h
  refine va_calll (va_runV (As := As) (rest := rest) fx (hM H.size) cw ⟨wIn_blind, va_recv hK.1 hPc hcl hrecv, hpc⟩ rfl hn hls hst (lv_room hrm) hdg ⟨hc0, hs0⟩) hS (fun q _ h => hF q h) hF (fun r u t H1 locs1 ht hvm hw hB hz1 hk1 hS => ?_)
  obtain ⟨hP1, hK1, hD1⟩ := hB
  rw [ht] at hP1
  obtain ⟨hP2, hD2⟩ := k_back (w' := w') (wn := wn) hP hD hF isC isR pm hC hR hn2 hdis u hpm (hpn u) hk1 hP1 hD1
  exact kk r u H1 locs1 hw hP2 hD2 hS
theorem k_Vv {post : S → Prop} {w' wn : S → va_W} {ret : Option FieldType} (hM : Kv l y wsY rm G cI cJ (.ref b :: As) wc post w') (fx : CallFix p m c cc nL s args Ts own) (cw : CallW R s args own C index y bytes maxL ret wsY rm 0 0 n) (hK : wKK G cI cJ s) (hP : va_P G vwCl wd H) (hD : va_D A wd) (hS : va_S A H0 H locs) (hA : ∀ q, H0.size ≤ q → A q) (isC isR pm : List Nat) (hC : isC.map (fun i => wd[i]?) = wc.map some) (hR : isR.map (fun i => wd[i]?) = wr.map some) (hnC : va_nd isC = true) (hn2 : va_nd isR = true) (hdis : ∀ i ∈ isR, i ∉ isC) (hpm : va_nd pm = true) (hpn : ∀ u : S, pm.map (fun i => (wr ++ w' u)[i]?) = (wn u).map some)
    (hrecv : wc[q0]? = some (b, .inr (ci, fs))) (hcl : vwCl[ci]? = some (C, T, N)) (hn : As.length = n) (hls : ls.size = nL) (hst : st0 = As.reverse ++ .ref b :: rest) (hrm : (rest.map fun v => v.category).sum ≤ 8) (hc0 : cells ≤ R.cells) (hs0 : slots ≤ R.slots) (hdg : decode cc pc = .ok (.invokevirtual index, 3))
    (kk : ∀ (u : S) (H1 : Heap) (locs1 : List Loc), post u → va_P G vwCl (wn u) H1 → va_D A (wn u) → va_S A H0 H1 locs1 → W p l e R s m args below meth c H1 locs1 cells slots Q (F0 m (pc + 3) ls rest)) : W p l e R s m args below meth c H locs cells slots Q (F0 m pc ls st0) := by
  have hF := va_free (wc := wc) hD hS hA isC hC
  have hpc := k_callPc (av := .ref b :: As) hK hP hD isC hC hnC
  have hPc : va_P G vwCl wc H := by have h := (hpc ({ s with heap := H }) rfl (State.WarmedH.refl _)).2.2.1; exact h
  refine va_callv (va_runV (As := As) (rest := rest) fx (hM H.size) cw ⟨wIn_blind, va_recv hK.1 hPc hcl hrecv, hpc⟩ rfl hn hls hst (lv_room hrm) hdg ⟨hc0, hs0⟩) hS (fun q _ h => hF q h) hF (fun u t H1 locs1 ht hvm hw hB hz1 hk1 hS => ?_)
  obtain ⟨hP1, hK1, hD1⟩ := hB
  rw [ht] at hP1
  obtain ⟨hP2, hD2⟩ := k_back (w' := w') (wn := wn) hP hD hF isC isR pm hC hR hn2 hdis u hpm (hpn u) hk1 hP1 hD1
  exact kk u H1 locs1 hw hP2 hD2 hS
theorem k_Si {post : Int32 → S → Prop} {w' wn : S → va_W} {ret : Option FieldType} (hM : Ki l y wsY rm G cI cJ As wc post w') (fx : CallFix p m c cc nL s args Ts own) (cw : CallB R s args own index y bytes maxL ret wsY rm 0 0 n ∧ (Cond.static y).before args s = true) (hK : wKK G cI cJ s) (hP : va_P G vwCl wd H) (hD : va_D A wd) (hS : va_S A H0 H locs) (hA : ∀ q, H0.size ≤ q → A q) (isC isR pm : List Nat) (hC : isC.map (fun i => wd[i]?) = wc.map some) (hR : isR.map (fun i => wd[i]?) = wr.map some) (hnC : va_nd isC = true) (hn2 : va_nd isR = true) (hdis : ∀ i ∈ isR, i ∉ isC) (hpm : va_nd pm = true) (hpn : ∀ u : S, pm.map (fun i => (wr ++ w' u)[i]?) = (wn u).map some)
    (hn : As.length = n) (hls : ls.size = nL) (hst : st0 = As.reverse ++ rest) (hrm : (rest.map fun v => v.category).sum ≤ 8) (hc0 : cells ≤ R.cells) (hs0 : slots ≤ R.slots) (hdg : decode cc pc = .ok (.invokestatic index, 3))
    (kk : ∀ (r : Int32) (u : S) (H1 : Heap) (locs1 : List Loc), post r u → va_P G vwCl (wn u) H1 → va_D A (wn u) → va_S A H0 H1 locs1 → W p l e R s m args below meth c H1 locs1 cells slots Q (F0 m (pc + 3) ls (.int r :: rest))) : W p l e R s m args below meth c H locs cells slots Q (F0 m pc ls st0) := by
  have hF := va_free (wc := wc) hD hS hA isC hC
  have hpc := k_callPc (av := As) hK hP hD isC hC hnC
  refine va_calli (va_runS (As := As) (rest := rest) fx (hM H.size) cw ⟨wIn_blind, hpc⟩ rfl hn hls hst (lv_room hrm) hdg ⟨hc0, hs0⟩) hS (fun q _ h => hF q h) hF (fun r u t H1 locs1 ht hvm hw hB hz1 hk1 hS => ?_)
  obtain ⟨hP1, hK1, hD1⟩ := hB
  rw [ht] at hP1
  obtain ⟨hP2, hD2⟩ := k_back (w' := w') (wn := wn) hP hD hF isC isR pm hC hR hn2 hdis u hpm (hpn u) hk1 hP1 hD1
  exact kk r u H1 locs1 hw hP2 hD2 hS
theorem k_Sl {post : Int64 → S → Prop} {w' wn : S → va_W} {ret : Option FieldType} (hM : Kl l y wsY rm G cI cJ As wc post w') (fx : CallFix p m c cc nL s args Ts own) (cw : CallB R s args own index y bytes maxL ret wsY rm 0 0 n ∧ (Cond.static y).before args s = true) (hK : wKK G cI cJ s) (hP : va_P G vwCl wd H) (hD : va_D A wd) (hS : va_S A H0 H locs) (hA : ∀ q, H0.size ≤ q → A q) (isC isR pm : List Nat) (hC : isC.map (fun i => wd[i]?) = wc.map some) (hR : isR.map (fun i => wd[i]?) = wr.map some) (hnC : va_nd isC = true) (hn2 : va_nd isR = true) (hdis : ∀ i ∈ isR, i ∉ isC) (hpm : va_nd pm = true) (hpn : ∀ u : S, pm.map (fun i => (wr ++ w' u)[i]?) = (wn u).map some)
    (hn : As.length = n) (hls : ls.size = nL) (hst : st0 = As.reverse ++ rest) (hrm : (rest.map fun v => v.category).sum ≤ 8) (hc0 : cells ≤ R.cells) (hs0 : slots ≤ R.slots) (hdg : decode cc pc = .ok (.invokestatic index, 3))
    (kk : ∀ (r : Int64) (u : S) (H1 : Heap) (locs1 : List Loc), post r u → va_P G vwCl (wn u) H1 → va_D A (wn u) → va_S A H0 H1 locs1 → W p l e R s m args below meth c H1 locs1 cells slots Q (F0 m (pc + 3) ls (.long r :: rest))) : W p l e R s m args below meth c H locs cells slots Q (F0 m pc ls st0) := by
  have hF := va_free (wc := wc) hD hS hA isC hC
  have hpc := k_callPc (av := As) hK hP hD isC hC hnC
  refine va_calll (va_runS (As := As) (rest := rest) fx (hM H.size) cw ⟨wIn_blind, hpc⟩ rfl hn hls hst (lv_room hrm) hdg ⟨hc0, hs0⟩) hS (fun q _ h => hF q h) hF (fun r u t H1 locs1 ht hvm hw hB hz1 hk1 hS => ?_)
  obtain ⟨hP1, hK1, hD1⟩ := hB
  rw [ht] at hP1
  obtain ⟨hP2, hD2⟩ := k_back (w' := w') (wn := wn) hP hD hF isC isR pm hC hR hn2 hdis u hpm (hpn u) hk1 hP1 hD1
  exact kk r u H1 locs1 hw hP2 hD2 hS
end WalkCells
end
section
/-! Fused rows: a compare of longs and its branch; a switch's way out. -/
section WalkMore
variable {p : Program} {l : Launch} {e : Env} {R : Room} {s : State} {m : MethodId} {args : Array Value} {below : List Frame} {meth : Method} {c : Code} {H : Heap} {locs : List Loc} {cells slots : Nat} {Q : State → Prop} {cc : ByteArray} {pc : Nat} {ls : Array Slot} {rest : List Value}
theorem k_lif_eq (hx : p.tables.exec = Jvm.exec) (hb : c.code = cc) {x y : Int64} {off : Int} {tgt : Nat} (h1 : decode cc pc = .ok (.lcmp, 1)) (h2 : decode cc (pc + 1) = .ok (.ifCond .eq off, 3)) (ht : ((pc + 1 : Nat) : Int) + off = (tgt : Int)) (kt : x = y → W p l e R s m args below meth c H locs cells slots Q (F0 m tgt ls rest)) (kf : ¬ x = y → W p l e R s m args below meth c H locs cells slots Q (F0 m (pc + 4) ls rest)) : W p l e R s m args below meth c H locs cells slots Q (F0 m pc ls (.long y :: .long x :: rest)) :=
  W.lcmp hx hb h1 (lv_if_eq hx hb h2 ht (fun h => kt ((lg_cmp_eq x y).mp h)) (fun h => kf (fun q => h ((lg_cmp_eq x y).mpr q))))
theorem k_lif_ne (hx : p.tables.exec = Jvm.exec) (hb : c.code = cc) {x y : Int64} {off : Int} {tgt : Nat} (h1 : decode cc pc = .ok (.lcmp, 1)) (h2 : decode cc (pc + 1) = .ok (.ifCond .ne off, 3)) (ht : ((pc + 1 : Nat) : Int) + off = (tgt : Int)) (kt : ¬ x = y → W p l e R s m args below meth c H locs cells slots Q (F0 m tgt ls rest)) (kf : x = y → W p l e R s m args below meth c H locs cells slots Q (F0 m (pc + 4) ls rest)) : W p l e R s m args below meth c H locs cells slots Q (F0 m pc ls (.long y :: .long x :: rest)) :=
  W.lcmp hx hb h1 (lv_if_ne hx hb h2 ht (fun h => kt (fun q => h ((lg_cmp_eq x y).mpr q))) (fun h => kf ((lg_cmp_eq x y).mp h)))
theorem k_lif_lt (hx : p.tables.exec = Jvm.exec) (hb : c.code = cc) {x y : Int64} {off : Int} {tgt : Nat} (h1 : decode cc pc = .ok (.lcmp, 1)) (h2 : decode cc (pc + 1) = .ok (.ifCond .lt off, 3)) (ht : ((pc + 1 : Nat) : Int) + off = (tgt : Int)) (kt : x < y → W p l e R s m args below meth c H locs cells slots Q (F0 m tgt ls rest)) (kf : ¬ x < y → W p l e R s m args below meth c H locs cells slots Q (F0 m (pc + 4) ls rest)) : W p l e R s m args below meth c H locs cells slots Q (F0 m pc ls (.long y :: .long x :: rest)) :=
  W.lcmp hx hb h1 (lv_if_lt hx hb h2 ht (fun h => kt ((lg_cmp_lt x y).mp h)) (fun h => kf (fun q => h ((lg_cmp_lt x y).mpr q))))
theorem k_lif_le (hx : p.tables.exec = Jvm.exec) (hb : c.code = cc) {x y : Int64} {off : Int} {tgt : Nat} (h1 : decode cc pc = .ok (.lcmp, 1)) (h2 : decode cc (pc + 1) = .ok (.ifCond .le off, 3)) (ht : ((pc + 1 : Nat) : Int) + off = (tgt : Int)) (kt : x ≤ y → W p l e R s m args below meth c H locs cells slots Q (F0 m tgt ls rest)) (kf : ¬ x ≤ y → W p l e R s m args below meth c H locs cells slots Q (F0 m (pc + 4) ls rest)) : W p l e R s m args below meth c H locs cells slots Q (F0 m pc ls (.long y :: .long x :: rest)) :=
  W.lcmp hx hb h1 (lv_if_le hx hb h2 ht (fun h => kt ((lg_cmp_le x y).mp h)) (fun h => kf (fun q => h ((lg_cmp_le x y).mpr q))))
theorem k_lif_gt (hx : p.tables.exec = Jvm.exec) (hb : c.code = cc) {x y : Int64} {off : Int} {tgt : Nat} (h1 : decode cc pc = .ok (.lcmp, 1)) (h2 : decode cc (pc + 1) = .ok (.ifCond .gt off, 3)) (ht : ((pc + 1 : Nat) : Int) + off = (tgt : Int)) (kt : y < x → W p l e R s m args below meth c H locs cells slots Q (F0 m tgt ls rest)) (kf : ¬ y < x → W p l e R s m args below meth c H locs cells slots Q (F0 m (pc + 4) ls rest)) : W p l e R s m args below meth c H locs cells slots Q (F0 m pc ls (.long y :: .long x :: rest)) :=
  W.lcmp hx hb h1 (lv_if_gt hx hb h2 ht (fun h => kt ((lg_cmp_gt x y).mp h)) (fun h => kf (fun q => h ((lg_cmp_gt x y).mpr q))))
theorem k_lif_ge (hx : p.tables.exec = Jvm.exec) (hb : c.code = cc) {x y : Int64} {off : Int} {tgt : Nat} (h1 : decode cc pc = .ok (.lcmp, 1)) (h2 : decode cc (pc + 1) = .ok (.ifCond .ge off, 3)) (ht : ((pc + 1 : Nat) : Int) + off = (tgt : Int)) (kt : y ≤ x → W p l e R s m args below meth c H locs cells slots Q (F0 m tgt ls rest)) (kf : ¬ y ≤ x → W p l e R s m args below meth c H locs cells slots Q (F0 m (pc + 4) ls rest)) : W p l e R s m args below meth c H locs cells slots Q (F0 m pc ls (.long y :: .long x :: rest)) :=
  W.lcmp hx hb h1 (lv_if_ge hx hb h2 ht (fun h => kt ((lg_cmp_ge x y).mp h)) (fun h => kf (fun q => h ((lg_cmp_ge x y).mpr q))))
end WalkMore
theorem k_sw6 {x : Int32} (h0 : ¬ x = 0) (h1 : ¬ x = 1) (h2 : ¬ x = 2) (h3 : ¬ x = 3) (h4 : ¬ x = 4) (h5 : ¬ x = 5) (h6 : ¬ x = 6) : x.toInt < 0 ∨ 6 < x.toInt := by
  refine Classical.byContradiction (fun hc => ?_)
  have e : x = Int32.ofInt x.toInt := (Int32.ofInt_toInt x).symm
  have hh : x.toInt = 0 ∨ x.toInt = 1 ∨ x.toInt = 2 ∨ x.toInt = 3 ∨ x.toInt = 4 ∨ x.toInt = 5 ∨ x.toInt = 6 := by omega
  rcases hh with h | h | h | h | h | h | h
  · exact h0 (by rw [e, h]; rfl)
  · exact h1 (by rw [e, h]; rfl)
  · exact h2 (by rw [e, h]; rfl)
  · exact h3 (by rw [e, h]; rfl)
  · exact h4 (by rw [e, h]; rfl)
  · exact h5 (by rw [e, h]; rfl)
  · exact h6 (by rw [e, h]; rfl)
theorem k_sw7 {x : Int32} (h0 : ¬ x = 0) (h1 : ¬ x = 1) (h2 : ¬ x = 2) (h3 : ¬ x = 3) (h4 : ¬ x = 4) (h5 : ¬ x = 5) (h6 : ¬ x = 6) (h7 : ¬ x = 7) : x.toInt < 0 ∨ 7 < x.toInt := by
  refine Classical.byContradiction (fun hc => ?_)
  have e : x = Int32.ofInt x.toInt := (Int32.ofInt_toInt x).symm
  have hh : x.toInt = 0 ∨ x.toInt = 1 ∨ x.toInt = 2 ∨ x.toInt = 3 ∨ x.toInt = 4 ∨ x.toInt = 5 ∨ x.toInt = 6 ∨ x.toInt = 7 := by omega
  rcases hh with h | h | h | h | h | h | h | h
  · exact h0 (by rw [e, h]; rfl)
  · exact h1 (by rw [e, h]; rfl)
  · exact h2 (by rw [e, h]; rfl)
  · exact h3 (by rw [e, h]; rfl)
  · exact h4 (by rw [e, h]; rfl)
  · exact h5 (by rw [e, h]; rfl)
  · exact h6 (by rw [e, h]; rfl)
  · exact h7 (by rw [e, h]; rfl)
theorem k_sw15 {x : Int32} (h0 : ¬ x = 0) (h1 : ¬ x = 1) (h2 : ¬ x = 2) (h3 : ¬ x = 3) (h4 : ¬ x = 4) (h5 : ¬ x = 5) (h6 : ¬ x = 6) (h7 : ¬ x = 7) (h8 : ¬ x = 8) (h9 : ¬ x = 9) (h10 : ¬ x = 10) (h11 : ¬ x = 11) (h12 : ¬ x = 12) (h13 : ¬ x = 13) (h14 : ¬ x = 14) (h15 : ¬ x = 15) : x.toInt < 0 ∨ 15 < x.toInt := by
  refine Classical.byContradiction (fun hc => ?_)
  have e : x = Int32.ofInt x.toInt := (Int32.ofInt_toInt x).symm
  have hh : x.toInt = 0 ∨ x.toInt = 1 ∨ x.toInt = 2 ∨ x.toInt = 3 ∨ x.toInt = 4 ∨ x.toInt = 5 ∨ x.toInt = 6 ∨ x.toInt = 7 ∨ x.toInt = 8 ∨ x.toInt = 9 ∨ x.toInt = 10 ∨ x.toInt = 11 ∨ x.toInt = 12 ∨ x.toInt = 13 ∨ x.toInt = 14 ∨ x.toInt = 15 := by omega
  rcases hh with h | h | h | h | h | h | h | h | h | h | h | h | h | h | h | h
  · exact h0 (by rw [e, h]; rfl)
  · exact h1 (by rw [e, h]; rfl)
  · exact h2 (by rw [e, h]; rfl)
  · exact h3 (by rw [e, h]; rfl)
  · exact h4 (by rw [e, h]; rfl)
  · exact h5 (by rw [e, h]; rfl)
  · exact h6 (by rw [e, h]; rfl)
  · exact h7 (by rw [e, h]; rfl)
  · exact h8 (by rw [e, h]; rfl)
  · exact h9 (by rw [e, h]; rfl)
  · exact h10 (by rw [e, h]; rfl)
  · exact h11 (by rw [e, h]; rfl)
  · exact h12 (by rw [e, h]; rfl)
  · exact h13 (by rw [e, h]; rfl)
  · exact h14 (by rw [e, h]; rfl)
  · exact h15 (by rw [e, h]; rfl)
end
